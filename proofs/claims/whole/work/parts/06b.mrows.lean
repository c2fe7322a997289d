/-! rows that the walks of the reference's calls stand on -/
theorem sw_cases (x : Int32) (n : Nat) (hn : n < 2 ^ 31) : (x.toInt < 0 ∨ (n : Int) < x.toInt) ∨ ∃ k, k ≤ n ∧ x = nI k := by
  by_cases h0 : x.toInt < 0
  · exact Or.inl (Or.inl h0)
  · by_cases h1 : (n : Int) < x.toInt
    · exact Or.inl (Or.inr h1)
    · refine Or.inr ⟨x.toInt.toNat, by omega, ?_⟩
      apply Int32.toInt_inj.mp
      rw [nI_toInt (by omega)]
      omega
theorem wI_in {n : Nat} {x : Int32} (hn : n < 2 ^ 31) (h : wI x 0 (nI n - 1)) : ∃ j, j < n ∧ x = nI j := by
  obtain ⟨h1, h2⟩ := h
  cases n with
  | zero =>
    rw [nI_0] at h2
    have e : (0 : Int32) - 1 = -1 := by decide
    rw [e, Int32.lt_iff_toInt_lt] at h2
    rw [Int32.lt_iff_toInt_lt, Int32.toInt_zero] at h1
    have e2 : (-1 : Int32).toInt = -1 := by decide
    omega
  | succ n =>
    rw [nI_pred, Int32.lt_iff_toInt_lt, nI_toInt (by omega)] at h2
    rw [Int32.lt_iff_toInt_lt, Int32.toInt_zero] at h1
    refine ⟨x.toInt.toNat, by omega, ?_⟩
    apply Int32.toInt_inj.mp
    rw [nI_toInt (by omega)]
    omega
theorem wI_lit {x : Int32} {a b : Nat} (ha : a < 2 ^ 31) (hb : b < 2 ^ 31) (h : wI x (nI a) (nI b)) : ∃ j, a ≤ j ∧ j ≤ b ∧ x = nI j := by
  obtain ⟨h1, h2⟩ := h
  rw [Int32.lt_iff_toInt_lt, nI_toInt ha] at h1
  rw [Int32.lt_iff_toInt_lt, nI_toInt hb] at h2
  refine ⟨x.toInt.toNat, by omega, by omega, ?_⟩
  apply Int32.toInt_inj.mp
  rw [nI_toInt (by omega)]
  omega
/-- a row set whole -/
def fr (E : hF) (j : Nat) (g : Nat → Int32) : hF := fun j' => if j' = j then g else E j'
theorem fr_same (E : hF) (j : Nat) (g : Nat → Int32) : fr E j g j = g := by simp [fr]
theorem fr_ne (E : hF) {j j' : Nat} (g : Nat → Int32) (h : j' ≠ j) : fr E j g j' = E j' := by simp [fr, h]
def mvN (k : Nat) (f : Nat → Int32) (x : Nat) (g : Nat → Int32) (t : Nat) : Nat → Int32 := fun i => if t ≤ i ∧ i < t + k then f (x + (i - t)) else g i
theorem mv_0 (f : Nat → Int32) (x : Nat) (g : Nat → Int32) (t : Nat) : g = mvN 0 f x g t := by
  funext i
  simp only [mvN]
  rw [if_neg (by omega)]
theorem mv_step (k : Nat) (f : Nat → Int32) (x : Nat) (g : Nat → Int32) (t : Nat) : upd (mvN k f x g t) (t + k) (f (x + k)) = mvN (k + 1) f x g t := by
  funext i
  simp only [mvN, upd]
  by_cases h : i = t + k
  · subst h
    rw [if_pos rfl, if_pos (by omega)]
    congr 1
    omega
  · rw [if_neg h]
    by_cases h2 : t ≤ i ∧ i < t + k
    · rw [if_pos h2, if_pos (by omega)]
    · rw [if_neg h2, if_neg (by omega)]
def shN (k : Nat) (f : Nat → Int32) : Nat → Int32 := fun i => if i < k then f (i + 250) else f i
theorem sh_0 (E : hF) : E = fr E 2 (shN 0 (E 2)) := by
  funext j i
  by_cases h : j = 2
  · subst h; simp [fr, shN]
  · simp [fr, h]
theorem sh_step (E : hF) (k : Nat) : fs (fr E 2 (shN k (E 2))) 2 k ((fr E 2 (shN k (E 2))) 2 (k + 250)) = fr E 2 (shN (k + 1) (E 2)) := by
  funext j i
  rw [fs_at]
  by_cases h : j = 2
  · subst h
    simp only [fr_same, shN]
    by_cases hi : i = k
    · subst hi
      rw [if_pos (by simp), if_neg (by omega), if_pos (by omega)]
    · rw [if_neg (by omega)]
      by_cases h2 : i < k
      · rw [if_pos h2, if_pos (by omega)]
      · rw [if_neg h2, if_neg (by omega)]
  · rw [if_neg (by omega), fr_ne _ _ h, fr_ne _ _ h]
theorem pk1 {α : Type} : ∀ (l : List α) (i : Nat) (h : i < l.length), l.Perm (l[i] :: l.eraseIdx i)
  | [], _, h => absurd h (Nat.not_lt_zero _)
  | a :: l, 0, _ => List.Perm.refl _
  | a :: l, i + 1, h => ((pk1 l i (Nat.lt_of_succ_lt_succ h)).cons a).trans (List.Perm.swap _ _ _)
theorem pk2 {α : Type} (l : List α) (i j : Nat) (h : i < l.length) (h2 : j < (l.eraseIdx i).length) : l.Perm (l[i] :: (l.eraseIdx i)[j] :: (l.eraseIdx i).eraseIdx j) := (pk1 l i h).trans ((pk1 (l.eraseIdx i) j h2).cons _)
/-- one more kept state -/
def recE (E : hF) (r : Nat) : hF :=
  if r = 6 then fs (fr (fs (fr E 2 (shN 1250 (E 2))) 6 0 5) 2 (mvN 250 (E 0) 0 (shN 1250 (E 2)) (5 * 250))) 6 0 6
  else fs (fr E 2 (mvN 250 (E 0) 0 (E 2) (r * 250))) 6 0 (nI r + 1)
theorem recE_ne (E : hF) (r : Nat) {j : Nat} (h2 : j ≠ 2) (h6 : j ≠ 6) : recE E r j = E j := by
  unfold recE
  split
  · rw [fs_ne _ _ _ h6, fr_ne _ _ h2, fs_ne _ _ _ h6, fr_ne _ _ h2]
  · rw [fs_ne _ _ _ h6, fr_ne _ _ h2]
theorem recE_0 (E : hF) (r : Nat) : recE E r 0 = E 0 := recE_ne E r (by decide) (by decide)
theorem recE_6 (E : hF) (r : Nat) {i : Nat} (hi : i ≠ 0) : recE E r 6 i = E 6 i := by
  unfold recE
  split
  · rw [fs_at, if_neg (by omega), fr_ne _ _ (by decide), fs_at, if_neg (by omega), fr_ne _ _ (by decide)]
  · rw [fs_at, if_neg (by omega), fr_ne _ _ (by decide)]
/-! stores into the reference's world, once for all -/
theorem mWs0 (G : hG) (q : Nat → Nat) (F : hF) (k : Nat) (v : Int32) : (mW G q F).set 1 (q 1, .inl (G.2.1 0, 250, .inl (upd (F 0) k v))) = mW G q (fs F 0 k v) := rfl
theorem mWs1 (G : hG) (q : Nat → Nat) (F : hF) (k : Nat) (v : Int32) : (mW G q F).set 2 (q 2, .inl (G.2.1 0, 250, .inl (upd (F 1) k v))) = mW G q (fs F 1 k v) := rfl
theorem mWs2 (G : hG) (q : Nat → Nat) (F : hF) (k : Nat) (v : Int32) : (mW G q F).set 3 (q 3, .inl (G.2.1 0, 1500, .inl (upd (F 2) k v))) = mW G q (fs F 2 k v) := rfl
theorem mWs3 (G : hG) (q : Nat → Nat) (F : hF) (k : Nat) (v : Int32) : (mW G q F).set 4 (q 4, .inl (G.2.1 0, 500, .inl (upd (F 3) k v))) = mW G q (fs F 3 k v) := rfl
theorem mWs4 (G : hG) (q : Nat → Nat) (F : hF) (k : Nat) (v : Int32) : (mW G q F).set 5 (q 5, .inl (G.2.1 0, 2, .inl (upd (F 4) k v))) = mW G q (fs F 4 k v) := rfl
theorem mWs5 (G : hG) (q : Nat → Nat) (F : hF) (k : Nat) (v : Int32) : (mW G q F).set 6 (q 6, .inl (G.2.1 0, 80, .inl (upd (F 5) k v))) = mW G q (fs F 5 k v) := rfl
theorem mWf3 (G : hG) (q : Nat → Nat) (F : hF) (v : Int32) : (mW G q F).set 0 (q 0, .inr (8, List.set ([.ref (q 1), .ref (q 2), .ref (q 3), .int (F 6 0), .ref (q 4), .ref (q 5), .ref (q 6), .int (F 6 1), .int (F 6 2), .int (F 6 3), .int (F 6 4), .int (F 6 5), .int (F 6 6), .int (F 6 7)] : List Value) 3 (.int v))) = mW G q (fs F 6 0 v) := rfl
theorem mWf7 (G : hG) (q : Nat → Nat) (F : hF) (v : Int32) : (mW G q F).set 0 (q 0, .inr (8, List.set ([.ref (q 1), .ref (q 2), .ref (q 3), .int (F 6 0), .ref (q 4), .ref (q 5), .ref (q 6), .int (F 6 1), .int (F 6 2), .int (F 6 3), .int (F 6 4), .int (F 6 5), .int (F 6 6), .int (F 6 7)] : List Value) 7 (.int v))) = mW G q (fs F 6 1 v) := rfl
theorem mWf8 (G : hG) (q : Nat → Nat) (F : hF) (v : Int32) : (mW G q F).set 0 (q 0, .inr (8, List.set ([.ref (q 1), .ref (q 2), .ref (q 3), .int (F 6 0), .ref (q 4), .ref (q 5), .ref (q 6), .int (F 6 1), .int (F 6 2), .int (F 6 3), .int (F 6 4), .int (F 6 5), .int (F 6 6), .int (F 6 7)] : List Value) 8 (.int v))) = mW G q (fs F 6 2 v) := rfl
theorem mWf9 (G : hG) (q : Nat → Nat) (F : hF) (v : Int32) : (mW G q F).set 0 (q 0, .inr (8, List.set ([.ref (q 1), .ref (q 2), .ref (q 3), .int (F 6 0), .ref (q 4), .ref (q 5), .ref (q 6), .int (F 6 1), .int (F 6 2), .int (F 6 3), .int (F 6 4), .int (F 6 5), .int (F 6 6), .int (F 6 7)] : List Value) 9 (.int v))) = mW G q (fs F 6 3 v) := rfl
theorem mWf10 (G : hG) (q : Nat → Nat) (F : hF) (v : Int32) : (mW G q F).set 0 (q 0, .inr (8, List.set ([.ref (q 1), .ref (q 2), .ref (q 3), .int (F 6 0), .ref (q 4), .ref (q 5), .ref (q 6), .int (F 6 1), .int (F 6 2), .int (F 6 3), .int (F 6 4), .int (F 6 5), .int (F 6 6), .int (F 6 7)] : List Value) 10 (.int v))) = mW G q (fs F 6 4 v) := rfl
theorem mWf11 (G : hG) (q : Nat → Nat) (F : hF) (v : Int32) : (mW G q F).set 0 (q 0, .inr (8, List.set ([.ref (q 1), .ref (q 2), .ref (q 3), .int (F 6 0), .ref (q 4), .ref (q 5), .ref (q 6), .int (F 6 1), .int (F 6 2), .int (F 6 3), .int (F 6 4), .int (F 6 5), .int (F 6 6), .int (F 6 7)] : List Value) 11 (.int v))) = mW G q (fs F 6 5 v) := rfl
theorem mWf12 (G : hG) (q : Nat → Nat) (F : hF) (v : Int32) : (mW G q F).set 0 (q 0, .inr (8, List.set ([.ref (q 1), .ref (q 2), .ref (q 3), .int (F 6 0), .ref (q 4), .ref (q 5), .ref (q 6), .int (F 6 1), .int (F 6 2), .int (F 6 3), .int (F 6 4), .int (F 6 5), .int (F 6 6), .int (F 6 7)] : List Value) 12 (.int v))) = mW G q (fs F 6 6 v) := rfl
theorem mWf13 (G : hG) (q : Nat → Nat) (F : hF) (v : Int32) : (mW G q F).set 0 (q 0, .inr (8, List.set ([.ref (q 1), .ref (q 2), .ref (q 3), .int (F 6 0), .ref (q 4), .ref (q 5), .ref (q 6), .int (F 6 1), .int (F 6 2), .int (F 6 3), .int (F 6 4), .int (F 6 5), .int (F 6 6), .int (F 6 7)] : List Value) 13 (.int v))) = mW G q (fs F 6 7 v) := rfl
