/-! the calls of the reference, first half: what they answer and leave -/
abbrev isvP (x v : Int32) : Prop := (x = 0 ∧ wI v 1 60) ∨ (x = 1 ∧ wI v 1 9) ∨ (x = 2 ∧ wI v 1 999)
theorem isvP_n {x v : Int32} (h : isvP x v) : ∃ j, j < 3 ∧ x = nI j := by
  rcases h with h | h | h
  · exact ⟨0, by decide, h.1⟩
  · exact ⟨1, by decide, h.1⟩
  · exact ⟨2, by decide, h.1⟩
def setR (E : hF) (x v : Int32) : Int32 := if isvP x v then E 0 x.toNatClampNeg else -2
def setE (E : hF) (r : Nat) (x v : Int32) : hF := if isvP x v then fs (recE E r) 0 x.toNatClampNeg v else E
def whyS (E : hF) (w1 w2 w3 w4 : Int32) : Int32 :=
  if ¬ wI w1 1 99 ∨ ¬ wI w2 1 20 ∨ ¬ wI w3 0 99 then -2
  else if ¬ w4 = -6 ∧ ¬ wI w4 0 (E 0 4 - 1) then -1
  else if E 0 4 = 20 then -4
  else if E 0 6 = 1 ∨ (¬ w4 = -6 ∧ E 0 (8 + 10 * w4.toNatClampNeg + 4) = 6) then -5 else 0
def cmsE (E : hF) (n : Nat) (w1 w2 w3 w4 : Int32) : hF :=
  fs (fs (fs (fs (fs (fs (fs (fs (fs (fs (fs E 0 (8 + 10 * n + 0) w1) 0 (8 + 10 * n + 1) w2) 0 (8 + 10 * n + 2) w3) 0 (8 + 10 * n + 3) w4) 0 (8 + 10 * n + 4) 0) 0 (8 + 10 * n + 5) w1) 0 (8 + 10 * n + 6) (-6)) 0 (8 + 10 * n + 7) (-6)) 0 (8 + 10 * n + 8) 0) 0 (8 + 10 * n + 9) 0) 0 4 (nI n + 1)
