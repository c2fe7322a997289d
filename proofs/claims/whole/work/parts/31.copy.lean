/-! rows copied, one hall into another -/
def cp (n : Nat) (f g : Nat → Int32) : Nat → Int32 := va_cpy f g 0 0 n
theorem cp_at {n i : Nat} (h : i < n) (f g : Nat → Int32) : cp n f g i = f i := by
  show (if 0 ≤ i ∧ i < 0 + n then f (0 + (i - 0)) else g i) = f i
  rw [if_pos ⟨Nat.zero_le i, by omega⟩, Nat.zero_add, Nat.sub_zero]
theorem harrcopy {p : Program} {l : Launch} {e : Env} {R : Room} {s : State} {m : MethodId} {args : Array Value} {below : List Frame} {meth : Method} {c : Code} {cells slots : Nat} {Q : State → Prop} {G : hG} {A : Nat → Prop} {nL : Nat} {cc : ByteArray} {own : String} {Ts : List Cond} {ret : Option FieldType} {ws : va_W} {pc : Nat} {lv : List (Nat × Value)} {st : List Value} (X : hX p s m args meth c G A nL cc own Ts ret) {index : Nat}
    (h1 : Cond.methodLink own index arraycopyName ∈ Ts) (h2 : Cond.native arraycopyName ∈ Ts) (h3 : Cond.static arraycopyName ∈ Ts) (h4 : Cond.initialized "java/lang/System" ∈ Ts) (q0 q1 : Nat) {a0 a n : Nat} {f g : Nat → Int32} (ha0 : ws[q0]? = some (a0, .inl (G.2.1 0, n, .inl f))) (ha1 : ws[q1]? = some (a, .inl (G.2.1 0, n, .inl g))) {z : Int32} (hz : z = nI n) (hn : n < 2 ^ 31)
    (hf : 1 ≤ R.frames) (hlo : (st.map fun v => v.category).sum + (nativeFrameWords "java/lang/System" "arraycopy" 5 + 11) ≤ R.locals) (hdg : decode cc pc = .ok (.invokestatic index, 3))
    (k : hV p l e R s m args below meth c G A nL cells slots Q (ws.set q1 (a, .inl (G.2.1 0, n, .inl (cp n f g)))) (pc + 3) lv st) : hV p l e R s m args below meth c G A nL cells slots Q ws pc lv (.int z :: .int 0 :: .ref a :: .int 0 :: .ref a0 :: st) := by
  subst hz
  have ee : (nI n).toNatClampNeg = n := nI_clamp hn
  have k2 : hV p l e R s m args below meth c G A nL cells slots Q (ws.set q1 (a, .inl (G.2.1 0, n, .inl (va_cpy f g (0 : Int32).toNatClampNeg (0 : Int32).toNatClampNeg (nI n).toNatClampNeg)))) (pc + 3) lv st := by
    rw [ee]
    exact k
  intro H locs ls hP hD hS hl
  refine va_copyi X.hx X.hb (by rw [X.hml]; exact hl.1.symm) X.hown (X.hts _ h1) (X.hts _ h2) (X.hts _ h3) (X.hts _ h4) X.hK hP hD hS q0 q1 0 0 ha0 ha1 rfl rfl rfl (by decide) (by decide) (nI_pos hn) ?_ ?_ (fun _ _ => rfl) hf hlo hdg (fun H1 locs1 hP hD hS => k2 H1 locs1 ls hP hD hS hl)
  · rw [ee]
    exact Nat.le_of_eq (Nat.zero_add n)
  · rw [ee]
    exact Nat.le_of_eq (Nat.zero_add n)
theorem kX7_copyRow (l : Launch) (G : hG) (ws : va_W) (q0 q1 : Nat) {a b n : Nat} {f g : Nat → Int32} (h0 : ws[q0]? = some (a, .inl (G.2.1 0, n, .inl f))) (h1 : ws[q1]? = some (b, .inl (G.2.1 0, n, .inl g))) (hn : n < 2 ^ 31) : hM l G yX7_copyRow wsX7_copyRow ({ frames := 1, cells := 0, slots := 0, locals := 60 }) ws [.ref a, .ref b] (hR none (ws.set q1 (b, .inl (G.2.1 0, n, .inl (cp n f g))))) := by
  refine hM_of (cc := cX7_copyRow) (maxL := 2) (ret := none) (by decide) rfl (Nat.le_of_ble_eq_true rfl) ?_
  intro pp ee ss mm aa bb me cd X hin
  refine haload_n X dX7_copyRow_0 rfl ?_
  refine hiconst (v := 0) X dX7_copyRow_1 rfl ?_
  refine haload_n X dX7_copyRow_2 rfl ?_
  refine hiconst (v := 0) X dX7_copyRow_3 rfl ?_
  refine haload_n X dX7_copyRow_4 rfl ?_
  refine hialen X q0 0 h0 rfl (v := nI n) rfl dX7_copyRow_5 ?_
  refine haload_n X dX7_copyRow_6 rfl ?_
  refine hialen X q1 0 h1 rfl (v := nI n) rfl dX7_copyRow_7 ?_
  refine hmmin X (by decide +kernel) (by decide +kernel) (by decide +kernel) (by decide +kernel) (by decide) (Nat.le_of_ble_eq_true rfl) (by decide) (by decide) dX7_copyRow_8 ?_
  refine harrcopy X (by decide +kernel) (by decide +kernel) (by decide +kernel) (by decide +kernel) q0 q1 h0 h1 (ite_self _) hn (by decide) (Nat.le_of_ble_eq_true rfl) dX7_copyRow_11 ?_
  exact hvret X dX7_copyRow_14 ⟨rfl, rfl⟩
theorem pm4 {α : Type} (a b c d : List α) : ((a ++ b) ++ (c ++ d)).Perm ((a ++ c) ++ (b ++ d)) := by
  rw [List.append_assoc, List.append_assoc]
  refine List.Perm.append_left a ?_
  rw [← List.append_assoc, ← List.append_assoc]
  exact List.Perm.append_right d List.perm_append_comm
