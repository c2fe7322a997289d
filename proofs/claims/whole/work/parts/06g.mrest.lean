/-! put, wipe, undo, save, restore of the reference -/
def sh8 (x : Int64) : Int64 := (x.toUInt64 >>> ((8 : Int32).toInt64.toUInt64 &&& Int64.toUInt64 63)).toInt64
def ptG : Nat → Nat → Int64 → Int32 → Nat × Int64 × Int32
  | 0, k, r, b => (k, r, b)
  | d + 1, k, r, b => if lg_cmp (r &&& 255) 0 = 0 then (k, r, b) else ptG d (k + 1) (sh8 r) (if b = 0 then 0 else if wI (r &&& 255).toInt32 33 126 then 1 else 0)
def byt (x : Int64) (j : Nat) : Int32 := ((x.toUInt64 >>> ((8 * nI j).toInt64.toUInt64 &&& Int64.toUInt64 63)).toInt64 &&& 255).toInt32
def ptL (E : hF) (pl : Nat) (x : Int64) (k : Nat) : Nat → hF
  | 0 => E
  | i + 1 => fs (fs (ptL E pl x k i) 5 (pl + i) (byt x (k - 1 - i))) 6 1 (nI (pl + i + 1))
theorem ptL_61 {E : hF} {pl : Nat} (h : E 6 1 = nI pl) (x : Int64) (k : Nat) : ∀ i, ptL E pl x k i 6 1 = nI (pl + i)
  | 0 => h
  | i + 1 => by
    unfold ptL
    rw [fs_same]
    rfl
theorem pt_i {k i : Nat} (h : i < k) : nI (k - i) - 1 = nI (k - 1 - i) := by
  have e : k - i = (k - 1 - i) + 1 := by omega
  rw [e, nI_pred]
def putR (pl : Nat) (x : Int64) : Int32 := if (ptG 8 0 x 1).1 = 0 ∨ (ptG 8 0 x 1).2.2 = 0 ∨ ¬ lg_cmp (ptG 8 0 x 1).2.1 0 = 0 then -2 else if pl + (ptG 8 0 x 1).1 ≤ 80 then nI (pl + (ptG 8 0 x 1).1) else -4
def putE (E : hF) (pl : Nat) (x : Int64) : hF := if (ptG 8 0 x 1).1 = 0 ∨ (ptG 8 0 x 1).2.2 = 0 ∨ ¬ lg_cmp (ptG 8 0 x 1).2.1 0 = 0 then E else if pl + (ptG 8 0 x 1).1 ≤ 80 then ptL E pl x (ptG 8 0 x 1).1 (ptG 8 0 x 1).1 else E
def undR (r : Nat) : Int32 := if r = 0 then -5 else nI (r - 1)
def undE (E : hF) (r : Nat) : hF := if r = 0 then E else fr (fs E 6 0 (nI (r - 1))) 0 (mvN 250 (E 2) ((r - 1) * 250) (E 0) 0)
def savR (n : Nat) (x : Int32) : Int32 := if wI x 0 1 then nI n else -2
def savE (E : hF) (x : Int32) : hF := if wI x 0 1 then fs (fr E 3 (mvN 250 (E 0) 0 (E 3) (250 * x.toNatClampNeg))) 4 x.toNatClampNeg 1 else E
def resE (E : hF) (r : Nat) (x : Int32) : hF := if wI x 0 1 then (if E 4 x.toNatClampNeg = 0 then E else fr (recE E r) 0 (mvN 250 (recE E r 3) (250 * x.toNatClampNeg) (recE E r 0) 0)) else E
def resR (E : hF) (r : Nat) (x : Int32) : Int32 := if wI x 0 1 then (if E 4 x.toNatClampNeg = 0 then -5 else mvN 250 (recE E r 3) (250 * x.toNatClampNeg) (recE E r 0) 0 4) else -2
theorem ptG_step {k : Nat} {r : Int64} {b : Int32} (h : ¬ lg_cmp (r &&& 255) 0 = 0) (hk : k < 8) : ptG (8 - k) k r b = ptG (8 - (k + 1)) (k + 1) (sh8 r) (if b = 0 then 0 else if wI (r &&& 255).toInt32 33 126 then 1 else 0) := by
  rw [show 8 - k = (8 - (k + 1)) + 1 by omega]
  show (if lg_cmp (r &&& 255) 0 = 0 then (k, r, b) else ptG (8 - (k + 1)) (k + 1) (sh8 r) (if b = 0 then 0 else if wI (r &&& 255).toInt32 33 126 then 1 else 0)) = _
  rw [if_neg h]
