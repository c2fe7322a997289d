/-! the worlds: a hall's cells, the reference's cells -/
abbrev hF : Type := Nat → Nat → Int32
def fs (F : hF) (j i : Nat) (v : Int32) : hF := fun j' => if j' = j then upd (F j) i v else F j'
theorem fs_at (F : hF) (j i : Nat) (v : Int32) (j' i' : Nat) : fs F j i v j' i' = if j' = j ∧ i' = i then v else F j' i' := by
  unfold fs upd
  by_cases h : j' = j
  · subst h
    by_cases h2 : i' = i <;> simp [h2]
  · simp [h]
theorem fs_same (F : hF) (j i : Nat) (v : Int32) : fs F j i v j i = v := by simp [fs_at]
theorem fs_row (F : hF) (j i : Nat) (v : Int32) : fs F j i v j = upd (F j) i v := by simp [fs]
theorem fs_ne (F : hF) {j j' : Nat} (i : Nat) (v : Int32) (h : j' ≠ j) : fs F j i v j' = F j' := by simp [fs, h]
/-- a truth as an int -/
def bI (P : Prop) [Decidable P] : Int32 := if P then 1 else 0
theorem bI_t {P : Prop} [Decidable P] (h : P) : bI P = 1 := by simp [bI, h]
theorem bI_f {P : Prop} [Decidable P] (h : ¬ P) : bI P = 0 := by simp [bI, h]
theorem bI_nar {P : Prop} [Decidable P] : narrow .boolean (.int (bI P)) = .int (bI P) := by
  unfold bI
  split <;> rfl
/-- the reference: rows 0 state, 1 kept, 2 history, 3 slots, 4 isSaved, 5 pad; row 6: recorded, padLength, at, letter, first, second, third, fourth -/
def mW (G : hG) (q : Nat → Nat) (E : hF) : va_W := [(q 0, .inr (8, [.ref (q 1), .ref (q 2), .ref (q 3), .int (E 6 0), .ref (q 4), .ref (q 5), .ref (q 6), .int (E 6 1), .int (E 6 2), .int (E 6 3), .int (E 6 4), .int (E 6 5), .int (E 6 6), .int (E 6 7)])), (q 1, .inl (G.2.1 0, 250, .inl (E 0))), (q 2, .inl (G.2.1 0, 250, .inl (E 1))), (q 3, .inl (G.2.1 0, 1500, .inl (E 2))), (q 4, .inl (G.2.1 0, 500, .inl (E 3))), (q 5, .inl (G.2.1 0, 2, .inl (E 4))), (q 6, .inl (G.2.1 0, 80, .inl (E 5)))]
/-- a hall: rows 0 to 9 of the stands, 10 to 15 of the crews, 16 settings, 17 loads; row 18: hour, ended, lost -/
def hoW (G : hG) (h : Nat → Nat) (F : hF) : va_W := [(h 0, .inr (1, [.ref (h 1), .ref (h 2), .ref (h 3), .ref (h 14), .int (F 18 0), .int (F 18 1), .int (F 18 2)])), (h 1, .inl (G.2.1 0, 3, .inl (F 16))), (h 2, .inl (G.2.1 0, 3, .inl (F 17)))]
def stW (G : hG) (h : Nat → Nat) (n : Nat) (F : hF) : va_W := [(h 3, .inr (6, [.int (nI n), .ref (h 4), .ref (h 5), .ref (h 6), .ref (h 7), .ref (h 8), .ref (h 9), .ref (h 10), .ref (h 11), .ref (h 12), .ref (h 13)])), (h 4, .inl (G.2.1 0, 20, .inl (F 0))), (h 5, .inl (G.2.1 0, 20, .inl (F 1))), (h 6, .inl (G.2.1 0, 20, .inl (F 2))), (h 7, .inl (G.2.1 0, 20, .inl (F 3))), (h 8, .inl (G.2.1 0, 20, .inl (F 4))), (h 9, .inl (G.2.1 0, 20, .inl (F 5))), (h 10, .inl (G.2.1 0, 20, .inl (F 6))), (h 11, .inl (G.2.1 0, 20, .inl (F 7))), (h 12, .inl (G.2.1 0, 20, .inl (F 8))), (h 13, .inl (G.2.1 0, 20, .inl (F 9)))]
def crW (G : hG) (h : Nat → Nat) (c : Nat) (F : hF) : va_W := [(h 14, .inr (0, [.int (nI c), .ref (h 15), .ref (h 16), .ref (h 17), .ref (h 18), .ref (h 19), .ref (h 20)])), (h 15, .inl (G.2.1 0, 6, .inl (F 10))), (h 16, .inl (G.2.1 0, 6, .inl (F 11))), (h 17, .inl (G.2.1 0, 6, .inl (F 12))), (h 18, .inl (G.2.1 0, 6, .inl (F 13))), (h 19, .inl (G.2.1 0, 6, .inl (F 14))), (h 20, .inl (G.2.1 0, 6, .inl (F 15)))]
def haW (G : hG) (h : Nat → Nat) (n c : Nat) (F : hF) : va_W := hoW G h F ++ (stW G h n F ++ crW G h c F)
theorem pm2 {α : Type} (a b c : List α) : (a ++ (b ++ c)).Perm (b ++ (a ++ c)) := by
  rw [← List.append_assoc, ← List.append_assoc]
  exact List.Perm.append_right c List.perm_append_comm
theorem pm3 {α : Type} (a b c : List α) : (a ++ (b ++ c)).Perm (c ++ (a ++ b)) := by
  rw [← List.append_assoc]
  exact List.perm_append_comm
/-- the rest of the world that a read of the stands, of the crews leaves -/
def hrS (G : hG) (h : Nat → Nat) (c : Nat) (F : hF) : va_W := hoW G h F ++ crW G h c F
def hrC (G : hG) (h : Nat → Nat) (n : Nat) (F : hF) : va_W := hoW G h F ++ stW G h n F
theorem pmS (G : hG) (h : Nat → Nat) (n c : Nat) (F : hF) : (haW G h n c F).Perm (stW G h n F ++ hrS G h c F) := pm2 _ _ _
theorem pmC (G : hG) (h : Nat → Nat) (n c : Nat) (F : hF) : (haW G h n c F).Perm (crW G h c F ++ hrC G h n F) := pm3 _ _ _
/-- sums, counts, unions over the first k -/
def sumN : Nat → (Nat → Int32) → Int32
  | 0, _ => 0
  | k + 1, f => sumN k f + f k
def orN : Nat → (Nat → Int32) → Int32
  | 0, _ => 0
  | k + 1, f => orN k f ||| f k
/-- k steps from the first on -/
def itN {α : Type} : Nat → (Nat → α → α) → α → α
  | 0, _, a => a
  | k + 1, f, a => f k (itN k f a)
theorem i_lt {k n : Nat} (hk : k ≤ n) (hn : n < 2 ^ 31) (h : ¬ nI n ≤ nI k) : k < n := by
  rcases Nat.lt_or_ge k n with q | q
  · exact q
  · exact absurd (nI_le q (by omega)) h
theorem i_ge {k n : Nat} (hk : k ≤ n) (hn : n < 2 ^ 31) (h : nI n ≤ nI k) : k = n := by
  rcases Nat.lt_or_ge k n with q | q
  · exact absurd h (nI_ge q hn)
  · omega
section HB
variable {p : Program} {l : Launch} {e : Env} {R : Room} {s : State} {m : MethodId} {args : Array Value} {below : List Frame} {meth : Method} {c : Code} {cells slots : Nat} {Q : State → Prop}
variable {G : hG} {A : Nat → Prop} {nL : Nat} {cc : ByteArray} {own : String} {Ts : List Cond} {ret : Option FieldType}
variable {ws : va_W} {pc : Nat} {lv : List (Nat × Value)} {st : List Value}
theorem hif_eqB (X : hX p s m args meth c G A nL cc own Ts ret) {P : Prop} [Decidable P] {off : Int} {tgt : Nat} (hdg : decode cc pc = .ok (.ifCond .eq off, 3)) (ht : (pc : Int) + off = (tgt : Int)) (kt : ¬ P → hV p l e R s m args below meth c G A nL cells slots Q ws tgt lv st) (kf : P → hV p l e R s m args below meth c G A nL cells slots Q ws (pc + 3) lv st) : hV p l e R s m args below meth c G A nL cells slots Q ws pc lv (.int (bI P) :: st) :=
  hif_eq X hdg ht (fun q => kt (fun hp => by rw [bI_t hp] at q; exact absurd q (by decide))) (fun q => kf (Classical.byContradiction fun hp => q (bI_f hp)))
theorem hif_neB (X : hX p s m args meth c G A nL cc own Ts ret) {P : Prop} [Decidable P] {off : Int} {tgt : Nat} (hdg : decode cc pc = .ok (.ifCond .ne off, 3)) (ht : (pc : Int) + off = (tgt : Int)) (kt : P → hV p l e R s m args below meth c G A nL cells slots Q ws tgt lv st) (kf : ¬ P → hV p l e R s m args below meth c G A nL cells slots Q ws (pc + 3) lv st) : hV p l e R s m args below meth c G A nL cells slots Q ws pc lv (.int (bI P) :: st) :=
  hif_ne X hdg ht (fun q => kt (Classical.byContradiction fun hp => q (bI_f hp))) (fun q => kf (fun hp => by rw [bI_t hp] at q; exact absurd q (by decide)))
/-- deterministic callee: the answer v and the world w -/
theorem hcallVr (X : hX p s m args meth c G A nL cc own Ts ret) {y : MethodName} {bytes : ByteArray} {maxL n index b ci q0 N : Nat} {T : u_T} {fs : List Value} {rt : Option FieldType} {wds wds' : List Cond} {rm : Room} {C : String} {wsC w wsR : va_W} {v : Option Value} {As rest st' : List Value}
    (hM0 : hM l G y wds rm wsC (.ref b :: As) (hR v w)) (hG : GoodIn Ts (wsV own index C y wds)) (hw : wds = Cond.code y bytes maxL rt :: wds')
    (hd : y.cls = C ∧ y.cls ≠ "java/lang/invoke/MethodHandle" ∧ y.cls ≠ "java/lang/invoke/VarHandle" ∧ (parseMethodDescriptor y.desc).map (fun d => d.parameters.length) = some n) (hRm : rm.frames + 1 ≤ R.frames ∧ 8 + (maxL + 11) + rm.locals ≤ R.locals)
    (hrecv : wsC[q0]? = some (b, .inr (ci, fs))) (hc : vwCl[ci]? = some (C, T, N)) (hn : As.length = n) (hst : st = As.reverse ++ .ref b :: rest) (hcat : (rest.map fun v => v.category).sum ≤ 8) (hdg : decode cc pc = .ok (.invokevirtual index, 3)) (hrc : rm.cells = 0) (hrs : rm.slots = 0) (hf : cells ≤ R.cells ∧ slots ≤ R.slots) (hst' : v.toList ++ rest = st')
    (kk : hV p l e R s m args below meth c G A nL cells slots Q (w ++ wsR) (pc + 3) lv st') : hV p l e R s m args below meth c G A nL cells slots Q (wsC ++ wsR) pc lv st := by
  subst hst'
  refine hcallV X hM0 hG hw hd hRm hrecv hc hn hst hcat hdg (by rw [hrc, hrs]; exact hf) ?_
  rintro _ _ ⟨rfl, rfl⟩
  rw [hrc, hrs]
  exact kk
theorem hcallV0 (X : hX p s m args meth c G A nL cc own Ts ret) {y : MethodName} {bytes : ByteArray} {maxL n index b ci q0 N : Nat} {T : u_T} {fs : List Value} {rt : Option FieldType} {wds wds' : List Cond} {rm : Room} {C : String} {w : va_W} {v : Option Value} {As rest st' : List Value}
    (hM0 : hM l G y wds rm ws (.ref b :: As) (hR v w)) (hG : GoodIn Ts (wsV own index C y wds)) (hw : wds = Cond.code y bytes maxL rt :: wds')
    (hd : y.cls = C ∧ y.cls ≠ "java/lang/invoke/MethodHandle" ∧ y.cls ≠ "java/lang/invoke/VarHandle" ∧ (parseMethodDescriptor y.desc).map (fun d => d.parameters.length) = some n) (hRm : rm.frames + 1 ≤ R.frames ∧ 8 + (maxL + 11) + rm.locals ≤ R.locals)
    (hrecv : ws[q0]? = some (b, .inr (ci, fs))) (hc : vwCl[ci]? = some (C, T, N)) (hn : As.length = n) (hst : st = As.reverse ++ .ref b :: rest) (hcat : (rest.map fun v => v.category).sum ≤ 8) (hdg : decode cc pc = .ok (.invokevirtual index, 3)) (hrc : rm.cells = 0) (hrs : rm.slots = 0) (hf : cells ≤ R.cells ∧ slots ≤ R.slots) (hst' : v.toList ++ rest = st')
    (kk : hV p l e R s m args below meth c G A nL cells slots Q w (pc + 3) lv st') : hV p l e R s m args below meth c G A nL cells slots Q ws pc lv st := by
  have h := hcallVr (wsR := []) (w := w) X hM0 hG hw hd hRm hrecv hc hn hst hcat hdg hrc hrs hf hst' (by rw [List.append_nil]; exact kk)
  rw [List.append_nil] at h
  exact h
theorem hcallSr (X : hX p s m args meth c G A nL cc own Ts ret) {y : MethodName} {bytes : ByteArray} {maxL n index : Nat} {rt : Option FieldType} {wds wds' : List Cond} {rm : Room} {wsC w wsR : va_W} {v : Option Value} {As rest st' : List Value}
    (hM0 : hM l G y wds rm wsC As (hR v w)) (hG : GoodIn Ts (va_wsS own index y wds)) (hw : wds = Cond.code y bytes maxL rt :: wds')
    (hd : y.cls ≠ "java/lang/invoke/MethodHandle" ∧ y.cls ≠ "java/lang/invoke/VarHandle" ∧ (parseMethodDescriptor y.desc).map (fun d => d.parameters.length) = some n) (hRm : rm.frames + 1 ≤ R.frames ∧ 8 + (maxL + 11) + rm.locals ≤ R.locals)
    (hn : As.length = n) (hst : st = As.reverse ++ rest) (hcat : (rest.map fun v => v.category).sum ≤ 8) (hdg : decode cc pc = .ok (.invokestatic index, 3)) (hrc : rm.cells = 0) (hrs : rm.slots = 0) (hf : cells ≤ R.cells ∧ slots ≤ R.slots) (hst' : v.toList ++ rest = st')
    (kk : hV p l e R s m args below meth c G A nL cells slots Q (w ++ wsR) (pc + 3) lv st') : hV p l e R s m args below meth c G A nL cells slots Q (wsC ++ wsR) pc lv st := by
  subst hst'
  refine hcallS X hM0 hG hw hd hRm hn hst hcat hdg (by rw [hrc, hrs]; exact hf) ?_
  rintro _ _ ⟨rfl, rfl⟩
  rw [hrc, hrs]
  exact kk
theorem hcallSNr (X : hX p s m args meth c G A nL cc own Ts ret) {y : MethodName} {bytes : ByteArray} {maxL n index : Nat} {rt : Option FieldType} {wds wds' : List Cond} {rm : Room} {wsC w wsR : va_W} {v : Option Value} {As rest st' : List Value}
    (hM0 : hM l G y wds rm wsC As (hR v w)) (hG : GoodIn Ts wds) (hw : wds = Cond.code y bytes maxL rt :: wds') (hlink : (own, index, y) ∈ hNM) (hst1 : Cond.static y ∈ Ts) (hini : Cond.initialized y.cls ∈ Ts)
    (hd : y.cls ≠ "java/lang/invoke/MethodHandle" ∧ y.cls ≠ "java/lang/invoke/VarHandle" ∧ (parseMethodDescriptor y.desc).map (fun d => d.parameters.length) = some n) (hRm : rm.frames + 1 ≤ R.frames ∧ 8 + (maxL + 11) + rm.locals ≤ R.locals)
    (hn : As.length = n) (hst : st = As.reverse ++ rest) (hcat : (rest.map fun v => v.category).sum ≤ 8) (hdg : decode cc pc = .ok (.invokestatic index, 3)) (hrc : rm.cells = 0) (hrs : rm.slots = 0) (hf : cells ≤ R.cells ∧ slots ≤ R.slots) (hst' : v.toList ++ rest = st')
    (kk : hV p l e R s m args below meth c G A nL cells slots Q (w ++ wsR) (pc + 3) lv st') : hV p l e R s m args below meth c G A nL cells slots Q (wsC ++ wsR) pc lv st := by
  subst hst'
  refine hcallSN X hM0 hG hw hlink hst1 hini hd hRm hn hst hcat hdg (by rw [hrc, hrs]; exact hf) ?_
  rintro _ _ ⟨rfl, rfl⟩
  rw [hrc, hrs]
  exact kk
end HB
theorem nadd {x y : Int32} {a b : Nat} (h1 : x = nI a) (h2 : y = nI b) : x + y = nI (a + b) := by rw [h1, h2, nI_add]
theorem nmul {x y : Int32} {a b : Nat} (h1 : x = nI a) (h2 : y = nI b) : x * y = nI (a * b) := by rw [h1, h2, pk_mul]
theorem nsub {x y : Int32} {a b : Nat} (h1 : x = nI a) (h2 : y = nI b) (h : b ≤ a) : x - y = nI (a - b) := by rw [h1, h2, pk_sub h]
