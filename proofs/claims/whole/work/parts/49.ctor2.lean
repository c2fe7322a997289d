/-! constructors of the halls, the history, the slots, the reader, the object -/
section HCL
variable {p : Program} {l : Launch} {e : Env} {R : Room} {s : State} {m : MethodId} {args : Array Value} {below : List Frame} {meth : Method} {c : Code} {cells slots : Nat} {Q : State → Prop}
variable {G : hG} {A : Nat → Prop} {nL : Nat} {cc : ByteArray} {own : String} {Ts : List Cond} {ret : Option FieldType}
variable {ws : va_W} {pc : Nat} {lv : List (Nat × Value)} {st : List Value}
theorem hclone (X : hX p s m args meth c G A nL cc own Ts ret) {index : Nat} (h1 : Cond.methodLink own index ⟨"[I", "clone", "()Ljava/lang/Object;"⟩ ∈ Ts) (h2 : Cond.sameMethod "[I" "java/lang/Object" "clone" "()Ljava/lang/Object;" ∈ Ts) (h3 : Cond.native ⟨"java/lang/Object", "clone", "()Ljava/lang/Object;"⟩ ∈ Ts) (h4 : Cond.instanceMethod ⟨"java/lang/Object", "clone", "()Ljava/lang/Object;"⟩ ∈ Ts) (h5 : Cond.selects "[I" ⟨"[I", "clone", "()Ljava/lang/Object;"⟩ ⟨"java/lang/Object", "clone", "()Ljava/lang/Object;"⟩ ∈ Ts)
    (hf : 1 ≤ R.frames) (hlo : (st.map fun v => v.category).sum + 14 ≤ R.locals) (hcells : cells + 1 ≤ R.cells) (hslots : slots + 3 ≤ R.slots) (hdg : decode cc pc = .ok (.invokevirtual index, 3))
    (kk : ∀ q : Nat, hV p l e R s m args below meth c G A nL (cells + 1) (slots + 3) Q (ws ++ [(q, .inl (G.2.1 0, 3, .inl hFst))]) (pc + 3) lv (.ref q :: st)) : hV p l e R s m args below meth c G A nL cells slots Q ws pc lv (.ref (G.2.2 0) :: st) := by
  intro H locs ls hP hD hS hl
  have hE1 : hE G A s H := X.hE.kept fun a ha hn => hS.2.1 a ha hn
  obtain ⟨cell, c1, c2, c3, c4, c5, c6⟩ := hE1.2.2.2.2
  have hnm : s.vm.findClass "[I" = some (G.2.1 0) := va_nm_int (X.hK.2 0 _ rfl).2
  have hsz : cell.slots.size = 3 := by rw [c5]; exact arrV_size _ _ _
  have hcellE : ({ cls := cell.cls, slots := cell.slots } : Cell) = vp_cell (G.2.1 0) (3, .inl hFst) := by rw [c2, c5]; rfl
  have hfit : ∀ (i : Nat) (v : Value), cell.slots[i]? = some v → fits .int v = true := fun i v hv => by
    rw [c5] at hv
    exact va_fit (cA := G.2.1 0) (n := 3) (F := fun j => .int (hFst j)) (fun _ _ => rfl) i v hv
  obtain ⟨c0, t0', f1, f2, f3⟩ := Cond.castable_spec (va_Nw.use (A := args) rfl X.hE.1.2.2.1)
  cases hnm.symm.trans f1
  intro T hT Y
  have hcellT : T.heap[G.2.2 0]? = some cell := by rw [hT]; exact c1
  obtain ⟨-, kA, hkA, comp, hkind⟩ := State.isArrayOf_alike Y.warmed.alike ((X.hK.2 0 _ rfl).1 0 (fun _ => .null))
  obtain ⟨-, kS, hkS, compS, hkindS⟩ := (X.hK.2 0 _ rfl).1 0 (fun _ => .null)
  obtain ⟨vm', X', st'⟩ := Y.cloneArray X.hx X.hown (X.hts _ h1) (X.hts _ h2) (X.hts _ h3) (X.hts _ h4) (X.hts _ h5) (a := G.2.2 0) (cell := cell) hcellT (fun k h => by rw [h] at c3; cases c3) c4 (by rw [c2]; exact hnm) f2 (by rw [c2]; exact f3)
    (fun i v hv => by
      rw [c2]
      have hk' : T.vm.classes[G.2.1 0]? = some kA := hkA
      simpa [State.fitsSlot, State.slotType?, hk', hkind] using hfit i v hv)
    (g := F0 m pc ls (.ref (G.2.2 0) :: st)) rfl (by rw [X.hml]; exact hl.1) rfl (by rw [X.hb]; exact hdg) hf (by show 2 * 0 + _ + 14 ≤ _; omega) hcells (by rw [hsz]; exact hslots) (hloader := by rw [c2]; exact Vm.clonesLoader_of_array hkS hkindS)
  rw [hcellE, hsz] at X'
  generalize hH1 : H.push (vp_cell (G.2.1 0) (3, .inl hFst)) = H1
  have z1 : H1.size = H.size + 1 := by rw [← hH1, Array.size_push]
  have e1 : H1[H.size]? = some (vp_cell (G.2.1 0) (3, .inl hFst)) := by rw [← hH1, Array.getElem?_push_size]
  have o1 : ∀ q : Nat, q < H.size → H1[q]? = H[q]? := fun q hq => by rw [← hH1, Array.getElem?_push, if_neg (Nat.ne_of_lt hq)]
  have hk : ∀ (k : Nat) (y : Nat × va_E), ws[k]? = some y → H1[y.1]? = H[y.1]? := fun k y hy => o1 y.1 ((hP k y hy).lt)
  obtain ⟨t, b1, b2⟩ := kk H.size H1 locs ls ((hP.kept hk).app (fun k y hy => by
      have hz : k < 1 := (List.getElem?_eq_some_iff.mp hy).1
      rw [show k = 0 by omega] at hy
      cases hy
      exact e1)) (hD.push hP rfl (X.hA _ hS.1)) ⟨Nat.le_trans hS.1 (by omega), fun y h1 h2 => (o1 y (Nat.lt_of_lt_of_le h1 hS.1)).trans (hS.2.1 y h1 h2), hS.2.2⟩ hl
    ((T.setVm vm').pushCell (vp_cell (G.2.1 0) (3, .inl hFst))) (by rw [← hH1, ← hT]; rfl) X'
  refine ⟨t, st' t ?_, b2⟩
  rw [hcellE, hT]
  exact b1
theorem hchk (X : hX p s m args meth c G A nL cc own Ts ret) {index : Nat} (hlink : Cond.classLink own index "[I" ∈ Ts) (q0 : Nat) {a : Nat} {x : vp_A} (ha : ws[q0]? = some (a, .inl (G.2.1 0, x))) (hdg : decode cc pc = .ok (.checkcast index, 3)) (k : hV p l e R s m args below meth c G A nL cells slots Q ws (pc + 3) lv (.ref a :: st)) : hV p l e R s m args below meth c G A nL cells slots Q ws pc lv (.ref a :: st) :=
  fun H locs ls hP hD hS hl => va_castA X.hx X.hb X.hown (X.hts _ hlink) hP q0 ha (va_nm_int (X.hK.2 0 _ rfl).2) hdg (k H locs ls hP hD hS hl)
theorem hV_q2 {x : Nat × va_E} {a N : Nat} {cI : ClassId} {f g : Nat → Option Nat} {W' : va_W} (h : ∀ i, i < N → f i = g i) (k : hV p l e R s m args below meth c G A nL cells slots Q (x :: (a, .inl (cI, N, .inr (.inr (.inr (.inr g))))) :: W') pc lv st) : hV p l e R s m args below meth c G A nL cells slots Q (x :: (a, .inl (cI, N, .inr (.inr (.inr (.inr f))))) :: W') pc lv st := by
  intro H locs ls hP hD hS hl
  have e9 : vp_cell cI (N, .inr (.inr (.inr (.inr f)))) = vp_cell cI (N, .inr (.inr (.inr (.inr g)))) := by
    rw [vp_cell_q, vp_cell_q]
    unfold arrV
    congr 1
    exact congrArg (fun z => Array.ofFn (n := N) z) (funext fun j => congrArg va_rf (h j.val j.isLt))
  refine k H locs ls (hPmem.mpr fun q hq => ?_) (va_D_fst (ws := x :: (a, .inl (cI, N, .inr (.inr (.inr (.inr f))))) :: W') rfl hD) hS hl
  have g9 := hPmem.mp hP
  rcases List.mem_cons.mp hq with rfl | hq
  · exact g9 _ List.mem_cons_self
  · rcases List.mem_cons.mp hq with rfl | hq
    · have g8 := g9 (a, .inl (cI, N, .inr (.inr (.inr (.inr f))))) (List.mem_cons_of_mem _ List.mem_cons_self)
      show H[a]? = some (vp_cell cI (N, .inr (.inr (.inr (.inr g)))))
      rw [← e9]
      exact g8
    · exact g9 _ (List.mem_cons_of_mem _ (List.mem_cons_of_mem _ hq))
end HCL
theorem hlW_k {G : hG} {k k' : Nat → Nat → Nat} {N C : Nat → Nat} {Fs : Nat → hF} : ∀ m, (∀ i, i < m → k' i = k i) → hlW G k' N C Fs m = hlW G k N C Fs m
  | 0, _ => rfl
  | m + 1, h => by
    unfold hlW
    rw [hlW_k m (fun i hi => h i (by omega)), h m (by omega)]
def kq (k : Nat → Nat → Nat) (j : Nat) : Nat → Option Nat := fun i => if i < j then some (k i 0) else none
theorem kq_up (k : Nat → Nat → Nat) (h : Nat → Nat) (j : Nat) : va_up (kq k j) j (some (h 0)) = kq (up k j h) (j + 1) := by
  funext i
  unfold va_up kq
  by_cases e : i = j
  · rw [if_pos e, if_pos (by omega), e, up_same]
  · rw [if_neg e]
    by_cases w : i < j
    · rw [if_pos w, if_pos (by omega), up_ne _ _ e]
    · rw [if_neg w, if_neg (by omega)]
set_option maxHeartbeats 4000000 in
set_option maxRecDepth 100000 in
theorem kX3_init (l : Launch) (G : hG) (a : Nat) : hM l G yX3_init wsX3_init ({ frames := 2, cells := 2, slots := 82, locals := 60 }) [(a, .inr (3, [.null, .int 0, .int 0, .int 0, .int 0, .int 0, .int 0, .int 0]))] [.ref a] (fun v w => v = none ∧ ∃ r : Nat → Nat, r 0 = a ∧ w = rdW G r 0 (fun _ => 0) (fun _ => 0)) := by
  refine hM_of (cc := cX3_init) (maxL := 1) (ret := none) (by decide) rfl (Nat.le_of_ble_eq_true rfl) ?_
  intro pp ee ss mm aa bb me cd X hin
  have iX3 : ∀ w ∈ wsX30, w ∈ wsX3_init := by decide +kernel
  have iX4 : ∀ w ∈ wsX40, w ∈ wsX3_init := by decide +kernel
  refine haload_n X dX3_init_0 rfl ?_
  refine hobj X (by decide +kernel) (by decide +kernel) (by decide +kernel) dX3_init_1 (Nat.le_of_ble_eq_true rfl) (Nat.le_of_ble_eq_true rfl) ?_
  refine haload_n X dX3_init_4 rfl ?_
  refine hnew (C := RX4) (T := TX4) (N := 2) (ci := 4) (fs := [.null, .int 0]) X iX4 tyX4 tyX4_ok (by decide +kernel) (by decide +kernel) (by decide +kernel) rfl (fun j hj => by rcases (show j = 0 ∨ j = 1 by omega) with rfl | rfl <;> rfl) (Nat.le_of_ble_eq_true rfl) (Nat.le_of_ble_eq_true rfl) dX3_init_5 (fun q => ?_)
  refine hdup X dX3_init_8 rfl ?_
  refine hV_perm (ws' := [(q, .inr (4, [.null, .int 0]))] ++ ([(a, .inr (3, [.null, .int 0, .int 0, .int 0, .int 0, .int 0, .int 0, .int 0]))])) List.perm_append_comm ?_
  refine hcallIN (n := 0) (As := []) (rest := [.ref q, .ref a]) X (kX4_init l G q) gX3_init_X4_init_n11 rfl (by decide +kernel) (by decide +kernel) (by decide +kernel) rfl (by decide +kernel) (by decide) rfl rfl (Nat.le_of_ble_eq_true rfl) dX3_init_9 ⟨Nat.le_of_ble_eq_true rfl, Nat.le_of_ble_eq_true rfl⟩ ?_
  rintro _ _ ⟨rfl, r, rfl, rfl⟩
  refine hV_perm (ws' := [(a, .inr (3, [.null, .int 0, .int 0, .int 0, .int 0, .int 0, .int 0, .int 0]))] ++ pdW G r 0 (fun _ => 0)) List.perm_append_comm ?_
  refine hV_st (st' := [.ref (r 1), .ref a]) rfl ?_
  refine hputF X (hin rfl) iX3 tyX3 tyX3_ok nmX3 0 rfl rfl 0 (by decide) (by decide +kernel) rfl rfl rfl rfl (Nat.le_of_ble_eq_true rfl) dX3_init_12 (ws' := [(a, .inr (3, [.ref (r 1), .int 0, .int 0, .int 0, .int 0, .int 0, .int 0, .int 0]))] ++ pdW G r 0 (fun _ => 0)) rfl ?_
  exact hvret X dX3_init_15 ⟨rfl, fun i => if i = 0 then a else r i, rfl, rfl⟩
set_option maxHeartbeats 4000000 in
set_option maxRecDepth 100000 in
theorem kX1_init (l : Launch) (G : hG) (a : Nat) : hM l G yX1_init wsX1_init ({ frames := 2, cells := 20, slots := 260, locals := 60 }) [(a, .inr (1, [.null, .null, .null, .null, .int 0, .int 0, .int 0]))] [.ref a] (fun v w => v = none ∧ ∃ h : Nat → Nat, h 0 = a ∧ w = haW G h 0 0 F1) := by
  refine hM_of (cc := cX1_init) (maxL := 1) (ret := none) (by decide) rfl (Nat.le_of_ble_eq_true rfl) ?_
  intro pp ee ss mm aa bb me cd X hin
  have iX1 : ∀ w ∈ wsX10, w ∈ wsX1_init := by decide +kernel
  have iX6 : ∀ w ∈ wsX60, w ∈ wsX1_init := by decide +kernel
  have iX0 : ∀ w ∈ wsX00, w ∈ wsX1_init := by decide +kernel
  refine haload_n X dX1_init_0 rfl ?_
  refine hobj X (by decide +kernel) (by decide +kernel) (by decide +kernel) dX1_init_1 (Nat.le_of_ble_eq_true rfl) (Nat.le_of_ble_eq_true rfl) ?_
  refine haload_n X dX1_init_4 rfl ?_
  refine hgetsF X (by decide +kernel) dX1_init_5 ?_
  refine hclone X (by decide +kernel) (by decide +kernel) (by decide +kernel) (by decide +kernel) (by decide +kernel) (Nat.le_of_ble_eq_true rfl) (Nat.le_of_ble_eq_true rfl) (Nat.le_of_ble_eq_true rfl) (Nat.le_of_ble_eq_true rfl) dX1_init_8 (fun q1 => ?_)
  refine hV_to (ws' := [(a, .inr (1, [.null, .null, .null, .null, .int 0, .int 0, .int 0])), (q1, .inl (G.2.1 0, 3, .inl hFst))]) rfl rfl rfl ?_
  refine hchk X (by decide +kernel) 1 rfl dX1_init_11 ?_
  refine hputF X (hin rfl) iX1 tyX1 tyX1_ok nmX1 0 rfl rfl 0 (by decide) (by decide +kernel) rfl rfl rfl rfl (Nat.le_of_ble_eq_true rfl) dX1_init_14 (ws' := [(a, .inr (1, [.ref q1, .null, .null, .null, .int 0, .int 0, .int 0])), (q1, .inl (G.2.1 0, 3, .inl hFst))]) rfl ?_
  refine haload_n X dX1_init_17 rfl ?_
  refine hiconst (v := 3) X dX1_init_18 rfl ?_
  refine hnewa X (atype := .int) (ty := .int) (by decide +kernel) rfl 0 rfl (a0 := (3, .inl (fun _ => 0))) (fun _ => rfl) (by decide) (N' := 3) rfl (Nat.le_of_ble_eq_true rfl) (Nat.le_of_ble_eq_true rfl) (Nat.le_of_ble_eq_true rfl) dX1_init_19 (fun q2 => ?_)
  refine hV_to (ws' := [(a, .inr (1, [.ref q1, .null, .null, .null, .int 0, .int 0, .int 0])), (q1, .inl (G.2.1 0, 3, .inl hFst)), (q2, .inl (G.2.1 0, 3, .inl (fun _ => 0)))]) rfl rfl rfl ?_
  refine hputF X (hin rfl) iX1 tyX1 tyX1_ok nmX1 0 rfl rfl 1 (by decide) (by decide +kernel) rfl rfl rfl rfl (Nat.le_of_ble_eq_true rfl) dX1_init_21 (ws' := [(a, .inr (1, [.ref q1, .ref q2, .null, .null, .int 0, .int 0, .int 0])), (q1, .inl (G.2.1 0, 3, .inl hFst)), (q2, .inl (G.2.1 0, 3, .inl (fun _ => 0)))]) rfl ?_
  refine haload_n X dX1_init_24 rfl ?_
  refine hnew (C := RX6) (T := TX6) (N := 11) (ci := 6) (fs := [.int 0, .null, .null, .null, .null, .null, .null, .null, .null, .null, .null]) X iX6 tyX6 tyX6_ok (by decide +kernel) (by decide +kernel) (by decide +kernel) rfl (fun j hj => by rcases (show j = 0 ∨ j = 1 ∨ j = 2 ∨ j = 3 ∨ j = 4 ∨ j = 5 ∨ j = 6 ∨ j = 7 ∨ j = 8 ∨ j = 9 ∨ j = 10 by omega) with rfl | rfl | rfl | rfl | rfl | rfl | rfl | rfl | rfl | rfl | rfl <;> rfl) (Nat.le_of_ble_eq_true rfl) (Nat.le_of_ble_eq_true rfl) dX1_init_25 (fun q3 => ?_)
  refine hdup X dX1_init_28 rfl ?_
  refine hV_perm (ws' := [(q3, .inr (6, [.int 0, .null, .null, .null, .null, .null, .null, .null, .null, .null, .null]))] ++ ([(a, .inr (1, [.ref q1, .ref q2, .null, .null, .int 0, .int 0, .int 0])), (q1, .inl (G.2.1 0, 3, .inl hFst)), (q2, .inl (G.2.1 0, 3, .inl (fun _ => 0)))])) List.perm_append_comm ?_
  refine hcallIN (n := 0) (As := []) (rest := [.ref q3, .ref a]) X (kX6_init l G q3) gX1_init_X6_init_n28 rfl (by decide +kernel) (by decide +kernel) (by decide +kernel) rfl (by decide +kernel) (by decide) rfl rfl (Nat.le_of_ble_eq_true rfl) dX1_init_29 ⟨Nat.le_of_ble_eq_true rfl, Nat.le_of_ble_eq_true rfl⟩ ?_
  rintro _ _ ⟨rfl, h3, rfl, rfl⟩
  refine hV_perm (ws' := [(a, .inr (1, [.ref q1, .ref q2, .null, .null, .int 0, .int 0, .int 0])), (q1, .inl (G.2.1 0, 3, .inl hFst)), (q2, .inl (G.2.1 0, 3, .inl (fun _ => 0)))] ++ stW G h3 0 F1) List.perm_append_comm ?_
  refine hV_st (st' := [.ref (h3 3), .ref a]) rfl ?_
  refine hputF X (hin rfl) iX1 tyX1 tyX1_ok nmX1 0 rfl rfl 2 (by decide) (by decide +kernel) rfl rfl rfl rfl (Nat.le_of_ble_eq_true rfl) dX1_init_32 (ws' := [(a, .inr (1, [.ref q1, .ref q2, .ref (h3 3), .null, .int 0, .int 0, .int 0])), (q1, .inl (G.2.1 0, 3, .inl hFst)), (q2, .inl (G.2.1 0, 3, .inl (fun _ => 0)))] ++ stW G h3 0 F1) rfl ?_
  refine haload_n X dX1_init_35 rfl ?_
  refine hnew (C := RX0) (T := TX0) (N := 7) (ci := 0) (fs := [.int 0, .null, .null, .null, .null, .null, .null]) X iX0 tyX0 tyX0_ok (by decide +kernel) (by decide +kernel) (by decide +kernel) rfl (fun j hj => by rcases (show j = 0 ∨ j = 1 ∨ j = 2 ∨ j = 3 ∨ j = 4 ∨ j = 5 ∨ j = 6 by omega) with rfl | rfl | rfl | rfl | rfl | rfl | rfl <;> rfl) (Nat.le_of_ble_eq_true rfl) (Nat.le_of_ble_eq_true rfl) dX1_init_36 (fun q4 => ?_)
  refine hdup X dX1_init_39 rfl ?_
  refine hV_perm (ws' := [(q4, .inr (0, [.int 0, .null, .null, .null, .null, .null, .null]))] ++ ([(a, .inr (1, [.ref q1, .ref q2, .ref (h3 3), .null, .int 0, .int 0, .int 0])), (q1, .inl (G.2.1 0, 3, .inl hFst)), (q2, .inl (G.2.1 0, 3, .inl (fun _ => 0)))] ++ stW G h3 0 F1)) List.perm_append_comm ?_
  refine hcallIN (n := 0) (As := []) (rest := [.ref q4, .ref a]) X (kX0_init l G q4) gX1_init_X0_init_n35 rfl (by decide +kernel) (by decide +kernel) (by decide +kernel) rfl (by decide +kernel) (by decide) rfl rfl (Nat.le_of_ble_eq_true rfl) dX1_init_40 ⟨Nat.le_of_ble_eq_true rfl, Nat.le_of_ble_eq_true rfl⟩ ?_
  rintro _ _ ⟨rfl, h4, rfl, rfl⟩
  refine hV_perm (ws' := ([(a, .inr (1, [.ref q1, .ref q2, .ref (h3 3), .null, .int 0, .int 0, .int 0])), (q1, .inl (G.2.1 0, 3, .inl hFst)), (q2, .inl (G.2.1 0, 3, .inl (fun _ => 0)))] ++ stW G h3 0 F1) ++ crW G h4 0 F1) List.perm_append_comm ?_
  refine hV_st (st' := [.ref (h4 14), .ref a]) rfl ?_
  refine hputF X (hin rfl) iX1 tyX1 tyX1_ok nmX1 0 rfl rfl 3 (by decide) (by decide +kernel) rfl rfl rfl rfl (Nat.le_of_ble_eq_true rfl) dX1_init_43 (ws' := ([(a, .inr (1, [.ref q1, .ref q2, .ref (h3 3), .ref (h4 14), .int 0, .int 0, .int 0])), (q1, .inl (G.2.1 0, 3, .inl hFst)), (q2, .inl (G.2.1 0, 3, .inl (fun _ => 0)))] ++ stW G h3 0 F1) ++ crW G h4 0 F1) rfl ?_
  exact hvret X dX1_init_46 ⟨rfl, fun i => if i < 3 then [a, q1, q2].getD i 0 else if i < 14 then h3 i else h4 i, rfl, rfl⟩
set_option maxHeartbeats 4000000 in
set_option maxRecDepth 100000 in
theorem kX2_init (l : Launch) (G : hG) (a : Nat) : hM l G yX2_init wsX2_init ({ frames := 3, cells := 148, slots := 1876, locals := 80 }) [(a, .inr (2, [.null, .int 0, .int 0]))] [.ref a] (fun v w => v = none ∧ ∃ (u : Nat → Nat) (k : Nat → Nat → Nat), u 0 = a ∧ w = huW G u k 0 0 ++ hlW G k (fun _ => 0) (fun _ => 0) (fun _ => F1) 7) := by
  refine hM_of (cc := cX2_init) (maxL := 2) (ret := none) (by decide) rfl (Nat.le_of_ble_eq_true rfl) ?_
  intro pp ee ss mm aa bb me cd X hin
  have iX2 : ∀ w ∈ wsX20, w ∈ wsX2_init := by decide +kernel
  have iX1 : ∀ w ∈ wsX10, w ∈ wsX2_init := by decide +kernel
  have iX6 : ∀ w ∈ wsX60, w ∈ wsX2_init := by decide +kernel
  have iX0 : ∀ w ∈ wsX00, w ∈ wsX2_init := by decide +kernel
  refine haload_n X dX2_init_0 rfl ?_
  refine hobj X (by decide +kernel) (by decide +kernel) (by decide +kernel) dX2_init_1 (Nat.le_of_ble_eq_true rfl) (Nat.le_of_ble_eq_true rfl) ?_
  refine haload_n X dX2_init_4 rfl ?_
  refine hbipush (v := 7) X dX2_init_5 rfl ?_
  refine hnewq X (by decide +kernel) (by decide) (N' := 7) rfl (Nat.le_of_ble_eq_true rfl) (Nat.le_of_ble_eq_true rfl) (Nat.le_of_ble_eq_true rfl) dX2_init_7 (fun u1 => ?_)
  refine hV_to (ws' := [(a, .inr (2, [.null, .int 0, .int 0])), (u1, .inl (G.2.1 3, 7, .inr (.inr (.inr (.inr (fun _ => none))))))]) rfl rfl rfl ?_
  refine hputF X (hin rfl) iX2 tyX2 tyX2_ok nmX2 0 rfl rfl 0 (by decide) (by decide +kernel) rfl rfl rfl rfl (Nat.le_of_ble_eq_true rfl) dX2_init_10 (ws' := [(a, .inr (2, [.ref u1, .int 0, .int 0])), (u1, .inl (G.2.1 3, 7, .inr (.inr (.inr (.inr (fun _ => none))))))]) rfl ?_
  refine hiconst (v := 0) X dX2_init_13 rfl ?_
  refine histore_n (lv' := [(1, .int 0), (0, .ref a)]) X dX2_init_14 (by decide) rfl ?_
  have L1 : ∀ (d j : Nat) (k : Nat → Nat → Nat), j ≤ 7 → 7 - j < d → hV pp l ee { frames := 3, cells := 148, slots := 1876, locals := 80 } ss mm aa bb me cd G (va_A [(a, .inr (2, [.null, .int 0, .int 0]))] ss.heap.size) 2 (1 + 21 * j) (7 + 267 * j) (MQ bb (hQc G [(a, .inr (2, [.null, .int 0, .int 0]))] ss.heap.size (fun v w => v = none ∧ ∃ (u : Nat → Nat) (k : Nat → Nat → Nat), u 0 = a ∧ w = huW G u k 0 0 ++ hlW G k (fun _ => 0) (fun _ => 0) (fun _ => F1) 7)) aa ss 148 1876 (va_A [(a, .inr (2, [.null, .int 0, .int 0]))] ss.heap.size)) ([(a, .inr (2, [.ref u1, .int 0, .int 0])), (u1, .inl (G.2.1 3, 7, .inr (.inr (.inr (.inr (kq k j))))))] ++ hlW G k (fun _ => 0) (fun _ => 0) (fun _ => F1) j) 15 [(1, .int (nI j)), (0, .ref a)] [] := by
    intro d
    induction d with
    | zero =>
      intro j k hj hd0
      exact absurd hd0 (Nat.not_lt_zero _)
    | succ d ih =>
      intro j k hj hd0
      refine hiload_n X dX2_init_15 rfl ?_
      refine haload_n X dX2_init_16 rfl ?_
      refine hget1 X (T := TX2) (N := 3) iX2 0 rfl rfl 0 (by decide) (by decide +kernel) rfl dX2_init_17 ?_
      refine hialen X 1 3 rfl rfl (v := 7) rfl dX2_init_20 ?_
      refine hicmp_ge (tgt := 43) X dX2_init_21 (by decide) (fun c9 => ?_) (fun c9 => ?_)
      · have ej : j = 7 := by
          have := (nI_leI (a := 7) (b := j) (by decide) (by omega)).mp c9
          omega
        subst ej
        refine hV_q2 (g := fun i => some (k i 0)) (fun i hi => if_pos hi) ?_
        refine hV_widen (a := 148) (b := 1876) (by decide) (by decide) ?_
        exact hvret X dX2_init_43 ⟨rfl, fun i => if i = 0 then a else u1, k, rfl, rfl⟩
      · have hj1 : j < 7 := Nat.lt_of_not_le fun z9 => c9 ((nI_leI (a := 7) (b := j) (by decide) (by omega)).mpr z9)
        refine haload_n X dX2_init_24 rfl ?_
        refine hget1 X (T := TX2) (N := 3) iX2 0 rfl rfl 0 (by decide) (by decide +kernel) rfl dX2_init_25 ?_
        refine hiload_n X dX2_init_28 rfl ?_
        refine hnew (C := RX1) (T := TX1) (N := 7) (ci := 1) (fs := [.null, .null, .null, .null, .int 0, .int 0, .int 0]) X iX1 tyX1 tyX1_ok (by decide +kernel) (by decide +kernel) (by decide +kernel) rfl (fun j hj => by rcases (show j = 0 ∨ j = 1 ∨ j = 2 ∨ j = 3 ∨ j = 4 ∨ j = 5 ∨ j = 6 by omega) with rfl | rfl | rfl | rfl | rfl | rfl | rfl <;> rfl) (by show 1 + 21 * j + 1 ≤ 148; omega) (by show 7 + 267 * j + 7 ≤ 1876; omega) dX2_init_29 (fun q9 => ?_)
        refine hdup X dX2_init_32 rfl ?_
        refine hV_perm (ws' := [(q9, .inr (1, [.null, .null, .null, .null, .int 0, .int 0, .int 0]))] ++ ([(a, .inr (2, [.ref u1, .int 0, .int 0])), (u1, .inl (G.2.1 3, 7, .inr (.inr (.inr (.inr (kq k j))))))] ++ hlW G k (fun _ => 0) (fun _ => 0) (fun _ => F1) j)) List.perm_append_comm ?_
        refine hcallIN (n := 0) (As := []) (rest := [.ref q9, .int (nI j), .ref u1]) X (kX1_init l G q9) gX2_init_X1_init_n17 rfl (by decide +kernel) (by decide +kernel) (by decide +kernel) rfl (by decide +kernel) (by decide) rfl rfl (Nat.le_of_ble_eq_true rfl) dX2_init_33 ⟨(by show 1 + 21 * j + 1 + 20 ≤ 148; omega), (by show 7 + 267 * j + 7 + 260 ≤ 1876; omega)⟩ ?_
        rintro _ _ ⟨rfl, h, rfl, rfl⟩
        refine hV_perm (ws' := [(a, .inr (2, [.ref u1, .int 0, .int 0])), (u1, .inl (G.2.1 3, 7, .inr (.inr (.inr (.inr (kq k j))))))] ++ (haW G h 0 0 F1 ++ hlW G k (fun _ => 0) (fun _ => 0) (fun _ => F1) j)) (pm2 _ _ _) ?_
        refine hV_st (st' := [.ref (h 0), .int (nI j), .ref u1]) rfl ?_
        refine haast X 1 2 (n := 7) (f := kq k j) rfl rfl j rfl hj1 (by decide) dX2_init_36 (ws' := [(a, .inr (2, [.ref u1, .int 0, .int 0])), (u1, .inl (G.2.1 3, 7, .inr (.inr (.inr (.inr (va_up (kq k j) j (some (h 0))))))))] ++ (haW G h 0 0 F1 ++ hlW G k (fun _ => 0) (fun _ => 0) (fun _ => F1) j)) rfl ?_
        refine hV_perm (ws' := [(a, .inr (2, [.ref u1, .int 0, .int 0])), (u1, .inl (G.2.1 3, 7, .inr (.inr (.inr (.inr (va_up (kq k j) j (some (h 0))))))))] ++ (hlW G k (fun _ => 0) (fun _ => 0) (fun _ => F1) j ++ haW G h 0 0 F1)) (List.Perm.append_left _ List.perm_append_comm) ?_
        refine hV_to (ws' := [(a, .inr (2, [.ref u1, .int 0, .int 0])), (u1, .inl (G.2.1 3, 7, .inr (.inr (.inr (.inr (kq (up k j h) (j + 1)))))))] ++ hlW G (up k j h) (fun _ => 0) (fun _ => 0) (fun _ => F1) (j + 1)) (by rw [kq_up, show hlW G (up k j h) (fun _ => 0) (fun _ => 0) (fun _ => F1) (j + 1) = hlW G (up k j h) (fun _ => 0) (fun _ => 0) (fun _ => F1) j ++ haW G (up k j h j) 0 0 F1 from rfl, hlW_k (k := k) (k' := up k j h) j (fun i hi => up_ne _ _ (by omega)), up_same]) rfl rfl ?_
        refine hiinc (v := nI (j + 1)) (lv' := [(1, .int (nI (j + 1))), (0, .ref a)]) X dX2_init_37 rfl (nI_1 _) (by decide) rfl ?_
        refine hgoto (tgt := 15) X dX2_init_40 (by decide) ?_
        refine hV_widen (a := 1 + 21 * (j + 1)) (b := 7 + 267 * (j + 1)) (by show 1 + 21 * j + 1 + 20 ≤ _; omega) (by show 7 + 267 * j + 7 + 260 ≤ _; omega) ?_
        exact ih (j + 1) (up k j h) (by omega) (by omega)
  refine hV_to (ws' := [(a, .inr (2, [.ref u1, .int 0, .int 0])), (u1, .inl (G.2.1 3, 7, .inr (.inr (.inr (.inr (kq (fun _ _ => 0) 0))))))] ++ hlW G (fun _ _ => 0) (fun _ => 0) (fun _ => 0) (fun _ => F1) 0) (by show _ = _ ++ []; rw [List.append_nil]; rfl) rfl rfl ?_
  exact L1 8 0 (fun _ _ => 0) (by decide) (by decide)
set_option maxHeartbeats 4000000 in
set_option maxRecDepth 100000 in
theorem kX5_init (l : Launch) (G : hG) (a : Nat) : hM l G yX5_init wsX5_init ({ frames := 3, cells := 44, slots := 538, locals := 80 }) [(a, .inr (5, [.null, .null]))] [.ref a] (fun v w => v = none ∧ ∃ (u : Nat → Nat) (k : Nat → Nat → Nat), u 0 = a ∧ w = soW G u k (fun _ => 0) ++ hlW G k (fun _ => 0) (fun _ => 0) (fun _ => F1) 2) := by
  refine hM_of (cc := cX5_init) (maxL := 2) (ret := none) (by decide) rfl (Nat.le_of_ble_eq_true rfl) ?_
  intro pp ee ss mm aa bb me cd X hin
  have iX5 : ∀ w ∈ wsX50, w ∈ wsX5_init := by decide +kernel
  have iX1 : ∀ w ∈ wsX10, w ∈ wsX5_init := by decide +kernel
  have iX6 : ∀ w ∈ wsX60, w ∈ wsX5_init := by decide +kernel
  have iX0 : ∀ w ∈ wsX00, w ∈ wsX5_init := by decide +kernel
  refine haload_n X dX5_init_0 rfl ?_
  refine hobj X (by decide +kernel) (by decide +kernel) (by decide +kernel) dX5_init_1 (Nat.le_of_ble_eq_true rfl) (Nat.le_of_ble_eq_true rfl) ?_
  refine haload_n X dX5_init_4 rfl ?_
  refine hiconst (v := 2) X dX5_init_5 rfl ?_
  refine hnewq X (by decide +kernel) (by decide) (N' := 2) rfl (Nat.le_of_ble_eq_true rfl) (Nat.le_of_ble_eq_true rfl) (Nat.le_of_ble_eq_true rfl) dX5_init_6 (fun u1 => ?_)
  refine hV_to (ws' := [(a, .inr (5, [.null, .null])), (u1, .inl (G.2.1 3, 2, .inr (.inr (.inr (.inr (fun _ => none))))))]) rfl rfl rfl ?_
  refine hputF X (hin rfl) iX5 tyX5 tyX5_ok nmX5 0 rfl rfl 0 (by decide) (by decide +kernel) rfl rfl rfl rfl (Nat.le_of_ble_eq_true rfl) dX5_init_9 (ws' := [(a, .inr (5, [.ref u1, .null])), (u1, .inl (G.2.1 3, 2, .inr (.inr (.inr (.inr (fun _ => none))))))]) rfl ?_
  refine haload_n X dX5_init_12 rfl ?_
  refine hiconst (v := 2) X dX5_init_13 rfl ?_
  refine hnewa X (atype := .boolean) (ty := .boolean) (by decide +kernel) rfl 2 rfl (a0 := (2, .inl (fun _ => 0))) (fun _ => rfl) (by decide) (N' := 2) rfl (Nat.le_of_ble_eq_true rfl) (Nat.le_of_ble_eq_true rfl) (Nat.le_of_ble_eq_true rfl) dX5_init_14 (fun u2 => ?_)
  refine hV_to (ws' := [(a, .inr (5, [.ref u1, .null])), (u1, .inl (G.2.1 3, 2, .inr (.inr (.inr (.inr (fun _ => none)))))), (u2, .inl (G.2.1 2, 2, .inl (fun _ => 0)))]) rfl rfl rfl ?_
  refine hputF X (hin rfl) iX5 tyX5 tyX5_ok nmX5 0 rfl rfl 1 (by decide) (by decide +kernel) rfl rfl rfl rfl (Nat.le_of_ble_eq_true rfl) dX5_init_16 (ws' := [(a, .inr (5, [.ref u1, .ref u2])), (u1, .inl (G.2.1 3, 2, .inr (.inr (.inr (.inr (fun _ => none)))))), (u2, .inl (G.2.1 2, 2, .inl (fun _ => 0)))]) rfl ?_
  refine hiconst (v := 0) X dX5_init_19 rfl ?_
  refine histore_n (lv' := [(1, .int 0), (0, .ref a)]) X dX5_init_20 (by decide) rfl ?_
  have L1 : ∀ (d j : Nat) (k : Nat → Nat → Nat), j ≤ 2 → 2 - j < d → hV pp l ee { frames := 3, cells := 44, slots := 538, locals := 80 } ss mm aa bb me cd G (va_A [(a, .inr (5, [.null, .null]))] ss.heap.size) 2 (2 + 21 * j) (4 + 267 * j) (MQ bb (hQc G [(a, .inr (5, [.null, .null]))] ss.heap.size (fun v w => v = none ∧ ∃ (u : Nat → Nat) (k : Nat → Nat → Nat), u 0 = a ∧ w = soW G u k (fun _ => 0) ++ hlW G k (fun _ => 0) (fun _ => 0) (fun _ => F1) 2)) aa ss 44 538 (va_A [(a, .inr (5, [.null, .null]))] ss.heap.size)) ([(a, .inr (5, [.ref u1, .ref u2])), (u1, .inl (G.2.1 3, 2, .inr (.inr (.inr (.inr (kq k j)))))), (u2, .inl (G.2.1 2, 2, .inl (fun _ => 0)))] ++ hlW G k (fun _ => 0) (fun _ => 0) (fun _ => F1) j) 21 [(1, .int (nI j)), (0, .ref a)] [] := by
    intro d
    induction d with
    | zero =>
      intro j k hj hd0
      exact absurd hd0 (Nat.not_lt_zero _)
    | succ d ih =>
      intro j k hj hd0
      refine hiload_n X dX5_init_21 rfl ?_
      refine haload_n X dX5_init_22 rfl ?_
      refine hget1 X (T := TX5) (N := 2) iX5 0 rfl rfl 0 (by decide) (by decide +kernel) rfl dX5_init_23 ?_
      refine hialen X 1 3 rfl rfl (v := 2) rfl dX5_init_26 ?_
      refine hicmp_ge (tgt := 49) X dX5_init_27 (by decide) (fun c9 => ?_) (fun c9 => ?_)
      · have ej : j = 2 := by
          have := (nI_leI (a := 2) (b := j) (by decide) (by omega)).mp c9
          omega
        subst ej
        refine hV_q2 (g := fun i => some (k i 0)) (fun i hi => if_pos hi) ?_
        refine hV_widen (a := 44) (b := 538) (by decide) (by decide) ?_
        exact hvret X dX5_init_49 ⟨rfl, fun i => if i = 0 then a else if i = 1 then u1 else u2, k, rfl, rfl⟩
      · have hj1 : j < 2 := Nat.lt_of_not_le fun z9 => c9 ((nI_leI (a := 2) (b := j) (by decide) (by omega)).mpr z9)
        refine haload_n X dX5_init_30 rfl ?_
        refine hget1 X (T := TX5) (N := 2) iX5 0 rfl rfl 0 (by decide) (by decide +kernel) rfl dX5_init_31 ?_
        refine hiload_n X dX5_init_34 rfl ?_
        refine hnew (C := RX1) (T := TX1) (N := 7) (ci := 1) (fs := [.null, .null, .null, .null, .int 0, .int 0, .int 0]) X iX1 tyX1 tyX1_ok (by decide +kernel) (by decide +kernel) (by decide +kernel) rfl (fun j hj => by rcases (show j = 0 ∨ j = 1 ∨ j = 2 ∨ j = 3 ∨ j = 4 ∨ j = 5 ∨ j = 6 by omega) with rfl | rfl | rfl | rfl | rfl | rfl | rfl <;> rfl) (by show 2 + 21 * j + 1 ≤ 44; omega) (by show 4 + 267 * j + 7 ≤ 538; omega) dX5_init_35 (fun q9 => ?_)
        refine hdup X dX5_init_38 rfl ?_
        refine hV_perm (ws' := [(q9, .inr (1, [.null, .null, .null, .null, .int 0, .int 0, .int 0]))] ++ ([(a, .inr (5, [.ref u1, .ref u2])), (u1, .inl (G.2.1 3, 2, .inr (.inr (.inr (.inr (kq k j)))))), (u2, .inl (G.2.1 2, 2, .inl (fun _ => 0)))] ++ hlW G k (fun _ => 0) (fun _ => 0) (fun _ => F1) j)) List.perm_append_comm ?_
        refine hcallIN (n := 0) (As := []) (rest := [.ref q9, .int (nI j), .ref u1]) X (kX1_init l G q9) gX5_init_X1_init_n21 rfl (by decide +kernel) (by decide +kernel) (by decide +kernel) rfl (by decide +kernel) (by decide) rfl rfl (Nat.le_of_ble_eq_true rfl) dX5_init_39 ⟨(by show 2 + 21 * j + 1 + 20 ≤ 44; omega), (by show 4 + 267 * j + 7 + 260 ≤ 538; omega)⟩ ?_
        rintro _ _ ⟨rfl, h, rfl, rfl⟩
        refine hV_perm (ws' := [(a, .inr (5, [.ref u1, .ref u2])), (u1, .inl (G.2.1 3, 2, .inr (.inr (.inr (.inr (kq k j)))))), (u2, .inl (G.2.1 2, 2, .inl (fun _ => 0)))] ++ (haW G h 0 0 F1 ++ hlW G k (fun _ => 0) (fun _ => 0) (fun _ => F1) j)) (pm2 _ _ _) ?_
        refine hV_st (st' := [.ref (h 0), .int (nI j), .ref u1]) rfl ?_
        refine haast X 1 3 (n := 2) (f := kq k j) rfl rfl j rfl hj1 (by decide) dX5_init_42 (ws' := [(a, .inr (5, [.ref u1, .ref u2])), (u1, .inl (G.2.1 3, 2, .inr (.inr (.inr (.inr (va_up (kq k j) j (some (h 0)))))))), (u2, .inl (G.2.1 2, 2, .inl (fun _ => 0)))] ++ (haW G h 0 0 F1 ++ hlW G k (fun _ => 0) (fun _ => 0) (fun _ => F1) j)) rfl ?_
        refine hV_perm (ws' := [(a, .inr (5, [.ref u1, .ref u2])), (u1, .inl (G.2.1 3, 2, .inr (.inr (.inr (.inr (va_up (kq k j) j (some (h 0)))))))), (u2, .inl (G.2.1 2, 2, .inl (fun _ => 0)))] ++ (hlW G k (fun _ => 0) (fun _ => 0) (fun _ => F1) j ++ haW G h 0 0 F1)) (List.Perm.append_left _ List.perm_append_comm) ?_
        refine hV_to (ws' := [(a, .inr (5, [.ref u1, .ref u2])), (u1, .inl (G.2.1 3, 2, .inr (.inr (.inr (.inr (kq (up k j h) (j + 1))))))), (u2, .inl (G.2.1 2, 2, .inl (fun _ => 0)))] ++ hlW G (up k j h) (fun _ => 0) (fun _ => 0) (fun _ => F1) (j + 1)) (by rw [kq_up, show hlW G (up k j h) (fun _ => 0) (fun _ => 0) (fun _ => F1) (j + 1) = hlW G (up k j h) (fun _ => 0) (fun _ => 0) (fun _ => F1) j ++ haW G (up k j h j) 0 0 F1 from rfl, hlW_k (k := k) (k' := up k j h) j (fun i hi => up_ne _ _ (by omega)), up_same]) rfl rfl ?_
        refine hiinc (v := nI (j + 1)) (lv' := [(1, .int (nI (j + 1))), (0, .ref a)]) X dX5_init_43 rfl (nI_1 _) (by decide) rfl ?_
        refine hgoto (tgt := 21) X dX5_init_46 (by decide) ?_
        refine hV_widen (a := 2 + 21 * (j + 1)) (b := 4 + 267 * (j + 1)) (by show 2 + 21 * j + 1 + 20 ≤ _; omega) (by show 4 + 267 * j + 7 + 260 ≤ _; omega) ?_
        exact ih (j + 1) (up k j h) (by omega) (by omega)
  refine hV_to (ws' := [(a, .inr (5, [.ref u1, .ref u2])), (u1, .inl (G.2.1 3, 2, .inr (.inr (.inr (.inr (kq (fun _ _ => 0) 0)))))), (u2, .inl (G.2.1 2, 2, .inl (fun _ => 0)))] ++ hlW G (fun _ _ => 0) (fun _ => 0) (fun _ => 0) (fun _ => F1) 0) (by show _ = _ ++ []; rw [List.append_nil]; rfl) rfl rfl ?_
  exact L1 3 0 (fun _ _ => 0) (by decide) (by decide)
