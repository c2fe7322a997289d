/-! the history's ring -/
theorem hsWf1 (G : hG) (u : Nat → Nat) (k : Nat → Nat → Nat) (h : Nat → Nat) (x y : Nat) (N C : Nat → Nat) (Fs : Nat → hF) (n c : Nat) (F : hF) (z : Nat) : (hsW G u k h x y N C Fs n c F).set 0 (u 0, .inr (2, List.set ([.ref (u 1), .int (nI x), .int (nI y)] : List Value) 1 (.int (nI z)))) = hsW G u k h z y N C Fs n c F := rfl
theorem hsWf2 (G : hG) (u : Nat → Nat) (k : Nat → Nat → Nat) (h : Nat → Nat) (x y : Nat) (N C : Nat → Nat) (Fs : Nat → hF) (n c : Nat) (F : hF) (z : Nat) : (hsW G u k h x y N C Fs n c F).set 0 (u 0, .inr (2, List.set ([.ref (u 1), .int (nI x), .int (nI y)] : List Value) 2 (.int (nI z)))) = hsW G u k h x z N C Fs n c F := rfl
def rgN (a : Int32) (x : Nat) : Nat := if a < 0 then x else if x + 1 < 7 then x + 1 else 0
def rgK (a : Int32) (y : Nat) : Nat := if a < 0 then y else min (y + 1) 6
theorem rg_min {y : Nat} (hy : y ≤ 6) : (if (6 : Int32) < nI (y + 1) then (6 : Int32) else nI (y + 1)) = nI (min (y + 1) 6) := by
  have h := (by decide : ∀ y : Fin 7, (if (6 : Int32) < nI (y.1 + 1) then (6 : Int32) else nI (y.1 + 1)) = nI (min (y.1 + 1) 6))
  exact h ⟨y, by omega⟩
def bkN (x y : Nat) : Nat := if y = 0 then x else if x = 0 then 6 else x - 1
def bkR (y : Nat) : Int32 := if y = 0 then -5 else nI (y - 1)
