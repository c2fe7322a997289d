/-! the program's object and all that it holds -/
def hbO (w h t u v r : Nat → Nat) : va_W := [(w 0, .inr (7, [.ref (h 0), .ref (t 0), .ref (u 0), .ref (v 0), .ref (r 0), .ref (r 1)]))]
theorem pmA1 {α : Type} (o a b c d e : List α) : (o ++ (a ++ (b ++ (c ++ (d ++ e))))).Perm (a ++ (o ++ (b ++ (c ++ (d ++ e))))) := by
  rw [← List.append_assoc, ← List.append_assoc a]
  exact List.Perm.append_right _ List.perm_append_comm
theorem pmA2 {α : Type} (o a b r : List α) : (o ++ (a ++ (b ++ r))).Perm ((a ++ b) ++ (o ++ r)) := pm5 o a b r
theorem pmA3 {α : Type} (o a b r : List α) : (o ++ (a ++ (b ++ r))).Perm ((b ++ a) ++ (o ++ r)) :=
  (pm5 o a b r).trans (List.Perm.append_right _ List.perm_append_comm)
