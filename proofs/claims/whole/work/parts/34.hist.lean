/-! several halls: the history's and the slots' -/
def hlW (G : hG) (k : Nat → Nat → Nat) (N C : Nat → Nat) (Fs : Nat → hF) : Nat → va_W
  | 0 => []
  | m + 1 => hlW G k N C Fs m ++ haW G (k m) (N m) (C m) (Fs m)
def hlX (G : hG) (k : Nat → Nat → Nat) (N C : Nat → Nat) (Fs : Nat → hF) (i : Nat) : Nat → va_W
  | 0 => []
  | m + 1 => hlX G k N C Fs i m ++ (if m = i then [] else haW G (k m) (N m) (C m) (Fs m))
theorem hlX_all (G : hG) (k : Nat → Nat → Nat) (N C : Nat → Nat) (Fs : Nat → hF) (i : Nat) : ∀ m, m ≤ i → hlX G k N C Fs i m = hlW G k N C Fs m
  | 0, _ => rfl
  | m + 1, h => by
    unfold hlX hlW
    rw [hlX_all G k N C Fs i m (by omega), if_neg (by omega)]
theorem hl_split (G : hG) (k : Nat → Nat → Nat) (N C : Nat → Nat) (Fs : Nat → hF) (i : Nat) : ∀ m, i < m → (hlW G k N C Fs m).Perm (haW G (k i) (N i) (C i) (Fs i) ++ hlX G k N C Fs i m)
  | 0, h => absurd h (Nat.not_lt_zero i)
  | m + 1, h => by
    unfold hlX hlW
    rcases Nat.lt_or_ge i m with q | q
    · rw [if_neg (by omega), ← List.append_assoc]
      exact List.Perm.append_right _ (hl_split G k N C Fs i m q)
    · have e : m = i := by omega
      subst e
      rw [if_pos rfl, List.append_nil, hlX_all G k N C Fs m m (Nat.le_refl m)]
      exact List.perm_append_comm
theorem hlX_to {G : hG} {k : Nat → Nat → Nat} {N C N' C' : Nat → Nat} {Fs Fs' : Nat → hF} {i : Nat} (e : ∀ j, j ≠ i → N' j = N j ∧ C' j = C j ∧ Fs' j = Fs j) : ∀ m, hlX G k N' C' Fs' i m = hlX G k N C Fs i m
  | 0 => rfl
  | m + 1 => by
    unfold hlX
    rw [hlX_to e m]
    by_cases q : m = i
    · rw [if_pos q, if_pos q]
    · rw [if_neg q, if_neg q, (e m q).1, (e m q).2.1, (e m q).2.2]
/-- place i of a row of anything -/
def up {α : Type} (f : Nat → α) (i : Nat) (v : α) : Nat → α := fun j => if j = i then v else f j
theorem up_same {α : Type} (f : Nat → α) (i : Nat) (v : α) : up f i v i = v := if_pos rfl
theorem up_ne {α : Type} (f : Nat → α) {i j : Nat} (v : α) (h : j ≠ i) : up f i v j = f j := if_neg h
theorem hl_back (G : hG) (k : Nat → Nat → Nat) (N C : Nat → Nat) (Fs : Nat → hF) (n c : Nat) (F : hF) (i m : Nat) (h : i < m) : (haW G (k i) n c F ++ hlX G k N C Fs i m).Perm (hlW G k (up N i n) (up C i c) (up Fs i F) m) := by
  have h1 := (hl_split G k (up N i n) (up C i c) (up Fs i F) i m h).symm
  rw [up_same, up_same, up_same, hlX_to (N := N) (C := C) (Fs := Fs) (fun j hj => ⟨up_ne N n hj, up_ne C c hj, up_ne Fs F hj⟩) m] at h1
  exact h1
/-- the history: its own cells, the hall in use, the seven states -/
def huW (G : hG) (u : Nat → Nat) (k : Nat → Nat → Nat) (x y : Nat) : va_W := [(u 0, .inr (2, [.ref (u 1), .int (nI x), .int (nI y)])), (u 1, .inl (G.2.1 3, 7, .inr (.inr (.inr (.inr (fun i => some (k i 0)))))))]
def hsW (G : hG) (u : Nat → Nat) (k : Nat → Nat → Nat) (h : Nat → Nat) (x y : Nat) (N C : Nat → Nat) (Fs : Nat → hF) (n c : Nat) (F : hF) : va_W := huW G u k x y ++ (haW G h n c F ++ hlW G k N C Fs 7)
theorem pm5 {α : Type} (a b c d : List α) : (a ++ (b ++ (c ++ d))).Perm ((b ++ c) ++ (a ++ d)) := by
  rw [← List.append_assoc b c d, ← List.append_assoc a (b ++ c) d, ← List.append_assoc (b ++ c) a d]
  exact List.Perm.append_right d List.perm_append_comm
/-- the hall in use is read, state i is written -/
theorem pmHr (G : hG) (u : Nat → Nat) (k : Nat → Nat → Nat) (h : Nat → Nat) (x y : Nat) (N C : Nat → Nat) (Fs : Nat → hF) (n c : Nat) (F : hF) {i : Nat} (hi : i < 7) : (hsW G u k h x y N C Fs n c F).Perm ((haW G h n c F ++ haW G (k i) (N i) (C i) (Fs i)) ++ (huW G u k x y ++ hlX G k N C Fs i 7)) :=
  (List.Perm.append_left _ (List.Perm.append_left _ (hl_split G k N C Fs i 7 hi))).trans (pm5 _ _ _ _)
theorem pmHr' (G : hG) (u : Nat → Nat) (k : Nat → Nat → Nat) (h : Nat → Nat) (x y : Nat) (N C : Nat → Nat) (Fs : Nat → hF) (n c : Nat) (F : hF) (n' c' : Nat) (F' : hF) {i : Nat} (hi : i < 7) : ((haW G h n c F ++ haW G (k i) n' c' F') ++ (huW G u k x y ++ hlX G k N C Fs i 7)).Perm (hsW G u k h x y (up N i n') (up C i c') (up Fs i F') n c F) :=
  (pm5 _ _ _ _).symm.trans (List.Perm.append_left _ (List.Perm.append_left _ (hl_back G k N C Fs n' c' F' i 7 hi)))
/-- state i is read, the hall in use is written -/
theorem pmHs (G : hG) (u : Nat → Nat) (k : Nat → Nat → Nat) (h : Nat → Nat) (x y : Nat) (N C : Nat → Nat) (Fs : Nat → hF) (n c : Nat) (F : hF) {i : Nat} (hi : i < 7) : (hsW G u k h x y N C Fs n c F).Perm ((haW G (k i) (N i) (C i) (Fs i) ++ haW G h n c F) ++ (huW G u k x y ++ hlX G k N C Fs i 7)) :=
  (pmHr G u k h x y N C Fs n c F hi).trans (List.Perm.append_right _ List.perm_append_comm)
theorem pmHs' (G : hG) (u : Nat → Nat) (k : Nat → Nat → Nat) (h : Nat → Nat) (x y : Nat) (N C : Nat → Nat) (Fs : Nat → hF) (n c : Nat) (F : hF) {i : Nat} (hi : i < 7) : ((haW G (k i) (N i) (C i) (Fs i) ++ haW G h n c F) ++ (huW G u k x y ++ hlX G k N C Fs i 7)).Perm (hsW G u k h x y N C Fs n c F) :=
  (pmHs G u k h x y N C Fs n c F hi).symm
