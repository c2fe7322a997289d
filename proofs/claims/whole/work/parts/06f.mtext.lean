/-! the texts of the reference -/
theorem fr_self (E : hF) (j : Nat) : E = fr E j (E j) := by
  funext j' i
  by_cases h : j' = j
  · subst h; rw [fr_same]
  · rw [fr_ne _ _ h]
theorem upd_self {z : Nat → Int32} {k : Nat} {v : Int32} (h : z k = v) : upd z k v = z := by
  funext i
  unfold upd
  split
  · rename_i q; rw [q, h]
  · rfl
theorem upd_upd (z : Nat → Int32) (k : Nat) (v w : Int32) : upd (upd z k v) k w = upd z k w := by
  funext i
  unfold upd
  split <;> rfl
theorem mWg7 (G : hG) (q : Nat → Nat) (E : hF) (z : Nat → Int32) (v : Int32) : (mW G q (fr E 6 z)).set 0 (q 0, .inr (8, List.set ([.ref (q 1), .ref (q 2), .ref (q 3), .int (fr E 6 z 6 0), .ref (q 4), .ref (q 5), .ref (q 6), .int (fr E 6 z 6 1), .int (fr E 6 z 6 2), .int (fr E 6 z 6 3), .int (fr E 6 z 6 4), .int (fr E 6 z 6 5), .int (fr E 6 z 6 6), .int (fr E 6 z 6 7)] : List Value) 7 (.int v))) = mW G q (fr E 6 (upd z 1 v)) := rfl
theorem mWg8 (G : hG) (q : Nat → Nat) (E : hF) (z : Nat → Int32) (v : Int32) : (mW G q (fr E 6 z)).set 0 (q 0, .inr (8, List.set ([.ref (q 1), .ref (q 2), .ref (q 3), .int (fr E 6 z 6 0), .ref (q 4), .ref (q 5), .ref (q 6), .int (fr E 6 z 6 1), .int (fr E 6 z 6 2), .int (fr E 6 z 6 3), .int (fr E 6 z 6 4), .int (fr E 6 z 6 5), .int (fr E 6 z 6 6), .int (fr E 6 z 6 7)] : List Value) 8 (.int v))) = mW G q (fr E 6 (upd z 2 v)) := rfl
theorem mWg9 (G : hG) (q : Nat → Nat) (E : hF) (z : Nat → Int32) (v : Int32) : (mW G q (fr E 6 z)).set 0 (q 0, .inr (8, List.set ([.ref (q 1), .ref (q 2), .ref (q 3), .int (fr E 6 z 6 0), .ref (q 4), .ref (q 5), .ref (q 6), .int (fr E 6 z 6 1), .int (fr E 6 z 6 2), .int (fr E 6 z 6 3), .int (fr E 6 z 6 4), .int (fr E 6 z 6 5), .int (fr E 6 z 6 6), .int (fr E 6 z 6 7)] : List Value) 9 (.int v))) = mW G q (fr E 6 (upd z 3 v)) := rfl
theorem mWg10 (G : hG) (q : Nat → Nat) (E : hF) (z : Nat → Int32) (v : Int32) : (mW G q (fr E 6 z)).set 0 (q 0, .inr (8, List.set ([.ref (q 1), .ref (q 2), .ref (q 3), .int (fr E 6 z 6 0), .ref (q 4), .ref (q 5), .ref (q 6), .int (fr E 6 z 6 1), .int (fr E 6 z 6 2), .int (fr E 6 z 6 3), .int (fr E 6 z 6 4), .int (fr E 6 z 6 5), .int (fr E 6 z 6 6), .int (fr E 6 z 6 7)] : List Value) 10 (.int v))) = mW G q (fr E 6 (upd z 4 v)) := rfl
theorem mWg11 (G : hG) (q : Nat → Nat) (E : hF) (z : Nat → Int32) (v : Int32) : (mW G q (fr E 6 z)).set 0 (q 0, .inr (8, List.set ([.ref (q 1), .ref (q 2), .ref (q 3), .int (fr E 6 z 6 0), .ref (q 4), .ref (q 5), .ref (q 6), .int (fr E 6 z 6 1), .int (fr E 6 z 6 2), .int (fr E 6 z 6 3), .int (fr E 6 z 6 4), .int (fr E 6 z 6 5), .int (fr E 6 z 6 6), .int (fr E 6 z 6 7)] : List Value) 11 (.int v))) = mW G q (fr E 6 (upd z 5 v)) := rfl
theorem mWg12 (G : hG) (q : Nat → Nat) (E : hF) (z : Nat → Int32) (v : Int32) : (mW G q (fr E 6 z)).set 0 (q 0, .inr (8, List.set ([.ref (q 1), .ref (q 2), .ref (q 3), .int (fr E 6 z 6 0), .ref (q 4), .ref (q 5), .ref (q 6), .int (fr E 6 z 6 1), .int (fr E 6 z 6 2), .int (fr E 6 z 6 3), .int (fr E 6 z 6 4), .int (fr E 6 z 6 5), .int (fr E 6 z 6 6), .int (fr E 6 z 6 7)] : List Value) 12 (.int v))) = mW G q (fr E 6 (upd z 6 v)) := rfl
theorem mWg13 (G : hG) (q : Nat → Nat) (E : hF) (z : Nat → Int32) (v : Int32) : (mW G q (fr E 6 z)).set 0 (q 0, .inr (8, List.set ([.ref (q 1), .ref (q 2), .ref (q 3), .int (fr E 6 z 6 0), .ref (q 4), .ref (q 5), .ref (q 6), .int (fr E 6 z 6 1), .int (fr E 6 z 6 2), .int (fr E 6 z 6 3), .int (fr E 6 z 6 4), .int (fr E 6 z 6 5), .int (fr E 6 z 6 6), .int (fr E 6 z 6 7)] : List Value) 13 (.int v))) = mW G q (fr E 6 (upd z 7 v)) := rfl
def chT (T : Nat → Int32) (pl a : Nat) : Int32 := if a < pl then T a else -1
def nxA (T : Nat → Int32) (pl a : Nat) (x : Int32) : Nat := if chT T pl a = x then a + 1 else a
def tdT (T : Nat → Int32) (pl a : Nat) (x : Int32) : Int32 × Nat := if wI (chT T pl a - 48) x 9 then (chT T pl a - 48, a + 1) else (-1, a)
def tnT (T : Nat → Int32) (pl a : Nat) : Int32 × Nat :=
  if ¬ (tdT T pl a 0).1 ≤ 0 ∧ wI (chT T pl (tdT T pl a 0).2) 48 57 then (10 * (tdT T pl a 0).1 + (tdT T pl (tdT T pl a 0).2 0).1, (tdT T pl (tdT T pl a 0).2 0).2) else tdT T pl a 0
def rs2 (T : Nat → Int32) (pl : Nat) (r : Int32 × Nat) (x d : Int32) : Int32 × Nat := if r.1 < 0 then (d, r.2) else if chT T pl r.2 = x then tnT T pl (r.2 + 1) else (d, r.2)
def s2T (T : Nat → Int32) (pl a : Nat) : Int32 × Nat := rs2 T pl (tnT T pl a) 44 (-1)
def s3T (T : Nat → Int32) (pl a : Nat) : Int32 × Nat := rs2 T pl (s2T T pl a) 44 (-1)
def s4T (T : Nat → Int32) (pl a : Nat) : Int32 × Nat := rs2 T pl (s3T T pl a) 94 (-6)
def c2T (T : Nat → Int32) (pl a : Nat) : Int32 × Nat := rs2 T pl (tdT T pl a 1) 36 (-1)
def roB (T : Nat → Int32) (pl a : Nat) : Bool :=
  if chT T pl a = 43 then decide (¬ (s3T T pl (a + 1)).1 < 0 ∧ ¬ (s4T T pl (a + 1)).1 = -1)
  else if chT T pl a = 99 then decide (¬ (c2T T pl (a + 1)).1 < 0)
  else if chT T pl a = 100 ∨ chT T pl a = 116 then decide (¬ (tnT T pl (a + 1)).1 < 0)
  else decide (chT T pl a = 101)
def roA (T : Nat → Int32) (pl a : Nat) : Nat :=
  if chT T pl a = 43 then (s4T T pl (a + 1)).2
  else if chT T pl a = 99 then (c2T T pl (a + 1)).2
  else if chT T pl a = 100 ∨ chT T pl a = 116 then (tnT T pl (a + 1)).2
  else if chT T pl a = 101 then a + 1 else a
theorem tdT_le (T : Nat → Int32) (pl a : Nat) (x : Int32) : a ≤ (tdT T pl a x).2 ∧ (tdT T pl a x).2 ≤ a + 1 := by
  unfold tdT
  split
  · exact ⟨Nat.le_succ a, Nat.le_refl _⟩
  · exact ⟨Nat.le_refl a, Nat.le_succ a⟩
theorem tnT_le (T : Nat → Int32) (pl a : Nat) : a ≤ (tnT T pl a).2 ∧ (tnT T pl a).2 ≤ a + 2 := by
  have h1 := tdT_le T pl a 0
  have h2 := tdT_le T pl (tdT T pl a 0).2 0
  unfold tnT
  split
  · show a ≤ (tdT T pl (tdT T pl a 0).2 0).2 ∧ (tdT T pl (tdT T pl a 0).2 0).2 ≤ a + 2
    omega
  · omega
theorem rs2_le (T : Nat → Int32) (pl : Nat) (r : Int32 × Nat) (x d : Int32) : r.2 ≤ (rs2 T pl r x d).2 ∧ (rs2 T pl r x d).2 ≤ r.2 + 3 := by
  have h := tnT_le T pl (r.2 + 1)
  unfold rs2
  split
  · exact ⟨Nat.le_refl _, by show r.2 ≤ r.2 + 3; omega⟩
  · split
    · omega
    · exact ⟨Nat.le_refl _, by show r.2 ≤ r.2 + 3; omega⟩
theorem roA_le (T : Nat → Int32) (pl a : Nat) : a ≤ roA T pl a ∧ roA T pl a ≤ a + 12 := by
  have h1 := tnT_le T pl (a + 1)
  have h2 := rs2_le T pl (tnT T pl (a + 1)) 44 (-1)
  have h3 := rs2_le T pl (s2T T pl (a + 1)) 44 (-1)
  have h4 := rs2_le T pl (s3T T pl (a + 1)) 94 (-6)
  have h5 := tdT_le T pl (a + 1) 1
  have h6 := rs2_le T pl (tdT T pl (a + 1) 1) 36 (-1)
  have e2 : s2T T pl (a + 1) = rs2 T pl (tnT T pl (a + 1)) 44 (-1) := rfl
  have e3 : s3T T pl (a + 1) = rs2 T pl (s2T T pl (a + 1)) 44 (-1) := rfl
  have e4 : s4T T pl (a + 1) = rs2 T pl (s3T T pl (a + 1)) 94 (-6) := rfl
  have e5 : c2T T pl (a + 1) = rs2 T pl (tdT T pl (a + 1) 1) 36 (-1) := rfl
  rw [← e2] at h2
  rw [← e3] at h3
  rw [← e4] at h4
  rw [← e5] at h6
  unfold roA
  repeat' split
  all_goals omega
theorem roA_gt {T : Nat → Int32} {pl a : Nat} (h : roB T pl a = true) : a + 1 ≤ roA T pl a := by
  have h1 := tnT_le T pl (a + 1)
  have h2 := rs2_le T pl (tnT T pl (a + 1)) 44 (-1)
  have h3 := rs2_le T pl (s2T T pl (a + 1)) 44 (-1)
  have h4 := rs2_le T pl (s3T T pl (a + 1)) 94 (-6)
  have h5 := tdT_le T pl (a + 1) 1
  have h6 := rs2_le T pl (tdT T pl (a + 1) 1) 36 (-1)
  have e2 : s2T T pl (a + 1) = rs2 T pl (tnT T pl (a + 1)) 44 (-1) := rfl
  have e3 : s3T T pl (a + 1) = rs2 T pl (s2T T pl (a + 1)) 44 (-1) := rfl
  have e4 : s4T T pl (a + 1) = rs2 T pl (s3T T pl (a + 1)) 94 (-6) := rfl
  have e5 : c2T T pl (a + 1) = rs2 T pl (tdT T pl (a + 1) 1) 36 (-1) := rfl
  rw [← e2] at h2
  rw [← e3] at h3
  rw [← e4] at h4
  rw [← e5] at h6
  unfold roB at h
  unfold roA
  split
  · omega
  · rename_i g1
    rw [if_neg g1] at h
    split
    · omega
    · rename_i g2
      rw [if_neg g2] at h
      split
      · omega
      · rename_i g3
        rw [if_neg g3] at h
        rw [if_pos (of_decide_eq_true h)]
        omega
/-- the fault, from the place a on, with so many orders to read at most -/
def ffT (T : Nat → Int32) (pl : Nat) : Nat → Nat → Int32
  | 0, _ => 0
  | d + 1, a => if roB T pl a = true then (if roA T pl a = pl then -6 else if chT T pl (roA T pl a) = 59 then ffT T pl d (roA T pl a + 1) else nI (roA T pl a)) else nI (roA T pl a)
theorem s2T_le (T : Nat → Int32) (pl a : Nat) : a ≤ (s2T T pl a).2 ∧ (s2T T pl a).2 ≤ a + 5 := by
  have h1 := tnT_le T pl a
  have h2 := rs2_le T pl (tnT T pl a) 44 (-1)
  unfold s2T
  omega
theorem s3T_le (T : Nat → Int32) (pl a : Nat) : a ≤ (s3T T pl a).2 ∧ (s3T T pl a).2 ≤ a + 8 := by
  have h1 := s2T_le T pl a
  have h2 := rs2_le T pl (s2T T pl a) 44 (-1)
  unfold s3T
  omega
theorem s4T_le (T : Nat → Int32) (pl a : Nat) : a ≤ (s4T T pl a).2 ∧ (s4T T pl a).2 ≤ a + 11 := by
  have h1 := s3T_le T pl a
  have h2 := rs2_le T pl (s3T T pl a) 94 (-6)
  unfold s4T
  omega
theorem chT_lt {T : Nat → Int32} {pl a : Nat} {x : Int32} (h : chT T pl a = x) (hx : ¬ x = -1) : a < pl := by
  unfold chT at h
  split at h
  · assumption
  · exact absurd h.symm hx
section HB2
variable {p : Program} {l : Launch} {e : Env} {R : Room} {s : State} {m : MethodId} {args : Array Value} {below : List Frame} {meth : Method} {c : Code} {cells slots : Nat} {Q : State → Prop}
variable {G : hG} {A : Nat → Prop} {nL : Nat} {cc : ByteArray} {own : String} {Ts : List Cond} {ret : Option FieldType}
variable {ws : va_W} {pc : Nat} {lv : List (Nat × Value)} {st : List Value}
theorem hcallV0e (X : hX p s m args meth c G A nL cc own Ts ret) {y : MethodName} {bytes : ByteArray} {maxL n index b ci q0 N : Nat} {T : u_T} {fs : List Value} {rt : Option FieldType} {wds wds' : List Cond} {rm : Room} {C : String} {As rest : List Value} {post : Option Value → va_W → Prop}
    (hM0 : hM l G y wds rm ws (.ref b :: As) post) (hG : GoodIn Ts (wsV own index C y wds)) (hw : wds = Cond.code y bytes maxL rt :: wds')
    (hd : y.cls = C ∧ y.cls ≠ "java/lang/invoke/MethodHandle" ∧ y.cls ≠ "java/lang/invoke/VarHandle" ∧ (parseMethodDescriptor y.desc).map (fun d => d.parameters.length) = some n) (hRm : rm.frames + 1 ≤ R.frames ∧ 8 + (maxL + 11) + rm.locals ≤ R.locals)
    (hrecv : ws[q0]? = some (b, .inr (ci, fs))) (hc : vwCl[ci]? = some (C, T, N)) (hn : As.length = n) (hst : st = As.reverse ++ .ref b :: rest) (hcat : (rest.map fun v => v.category).sum ≤ 8) (hdg : decode cc pc = .ok (.invokevirtual index, 3)) (hrc : rm.cells = 0) (hrs : rm.slots = 0) (hf : cells ≤ R.cells ∧ slots ≤ R.slots)
    (kk : ∀ (v : Option Value) (ws1 : va_W), post v ws1 → hV p l e R s m args below meth c G A nL cells slots Q ws1 (pc + 3) lv (v.toList ++ rest)) : hV p l e R s m args below meth c G A nL cells slots Q ws pc lv st := by
  have h := hcallV (wsC := ws) (wsR := []) (cells := cells) (slots := slots) (Q := Q) (lv := lv) X hM0 hG hw hd hRm hrecv hc hn hst hcat hdg (by rw [hrc, hrs]; exact hf) (by
    intro v ws1 hp
    rw [hrc, hrs, List.append_nil]
    exact kk v ws1 hp)
  rw [List.append_nil] at h
  exact h
end HB2
