/-! the hall's other methods -/
def adT (n : Nat) (F : hF) (w1 w2 w3 w4 : Int32) : Int32 × Nat × hF :=
  if wI w1 1 99 then (if wI w2 1 20 then (if wI w3 0 99 then (if w4 = -6 ∨ hhas n w4 then (if n < 20 then (if F 18 1 = 0 then (if hhas n w4 ∧ F 4 w4.toNatClampNeg = 6 then (-5, n, F) else (nI n, n + 1, apS F n w1 w2 w3 w4)) else (-5, n, F)) else (-4, n, F)) else (-1, n, F)) else (-2, n, F)) else (-2, n, F)) else (-2, n, F)
def acT (c : Nat) (F : hF) (x y : Int32) : Int32 × Nat × hF := if wI x 1 9 ∧ wI y 0 99 then (if c < 6 then (nI c, c + 1, apC F c x y) else (-4, c, F)) else (-2, c, F)
def chT3 (F : hF) (x v : Int32) : Int32 × hF := if ¬ x < 0 ∧ x < 3 then (if wI v 1 (hMst x.toNatClampNeg) then (F 16 x.toNatClampNeg, fs F 16 x.toNatClampNeg v) else (-2, F)) else (-2, F)
def enT (n c : Nat) (F : hF) : Int32 × hF := if F 18 1 = 0 then ((itN n clS (itN c laS (fs F 18 1 1), 0)).2, (itN n clS (itN c laS (fs F 18 1 1), 0)).1) else (-5, F)
def fiT (F : hF) : Int32 × hF := if 0 < F 18 2 then (F 18 2 - 1, fs F 18 2 (F 18 2 - 1)) else (-5, F)
def phS (n c : Nat) (_ : Nat) (r : hF × Int32) : hF × Int32 := (p1H n c r.1, r.2 + p1R n c r.1)
def phT (n c : Nat) (F : hF) (x : Int32) : Int32 × hF := if wI x 1 99 then (if F 18 0 + x ≤ 9999 then ((itN x.toNatClampNeg (phS n c) (F, 0)).2, (itN x.toNatClampNeg (phS n c) (F, 0)).1) else (-5, F)) else (-2, F)
def ldH (F : hF) (x : Int32) : Int32 := if ¬ x < 0 ∧ x < 3 then F 17 x.toNatClampNeg else -1
def nuH (n c : Nat) (F : hF) (x : Int32) : Int32 := if x = 0 then F 18 0 else if x = 1 then nI n else if x = 2 then nI c else if x = 3 then hcnt n F 0 else if x = 4 then hcnt n F 1 else if x = 5 then hcnt n F 2 else if x = 6 then hcnt n F 3 else if x = 7 then hcnt n F 4 else if x = 8 then hcnt n F 5 else if x = 9 then hcnt n F 6 else if x = 10 then hmet n F else if x = 11 then (if F 18 1 = 0 then 0 else 1) else if x = 12 then F 18 2 else if x = 13 then hcos c F else if x = 14 then hwop n F else if x = 15 then F 16 0 else if x = 16 then F 16 1 else if x = 17 then F 16 2 else -2
def waH (n : Nat) (F : hF) (x : Int32) : Int32 := if hhas n x then (if F 4 x.toNatClampNeg = 0 then 1 else if F 4 x.toNatClampNeg = 1 then 2 else if F 4 x.toNatClampNeg = 2 then (if hbb n F x then 4 else 3) else if F 4 x.toNatClampNeg = 4 then (if F 18 1 = 0 then 0 else if hsto n F x = 0 then 4 else 5) else 0) else -1
