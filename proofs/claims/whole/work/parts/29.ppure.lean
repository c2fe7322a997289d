/-! the pad's characters put together -/
def wfG : Nat → Nat → Int64 → Nat
  | 0, k, _ => k
  | d + 1, k, r => if lg_cmp r 0 = 0 then k else if wI (r &&& 255).toInt32 33 126 then wfG d (k + 1) (sh8 r) else 0
theorem wfG_le : ∀ (d k : Nat) (r : Int64), wfG d k r ≤ k + d
  | 0, k, _ => Nat.le_refl k
  | d + 1, k, r => by
    unfold wfG
    split
    · omega
    · split
      · have := wfG_le d (k + 1) (sh8 r)
        omega
      · omega
theorem wfG_step {k : Nat} {r : Int64} (h : ¬ lg_cmp r 0 = 0) (hk : k < 8) : wfG (8 - k) k r = if wI (r &&& 255).toInt32 33 126 then wfG (8 - (k + 1)) (k + 1) (sh8 r) else 0 := by
  rw [show 8 - k = (8 - (k + 1)) + 1 by omega]
  show (if lg_cmp r 0 = 0 then k else if wI (r &&& 255).toInt32 33 126 then wfG (8 - (k + 1)) (k + 1) (sh8 r) else 0) = _
  rw [if_neg h]
theorem wfG_end {k : Nat} {r : Int64} (h : lg_cmp r 0 = 0) (hk : k < 8) : wfG (8 - k) k r = k := by
  rw [show 8 - k = (8 - (k + 1)) + 1 by omega]
  show (if lg_cmp r 0 = 0 then k else _) = _
  rw [if_pos h]
def ptT (T : Nat → Int32) (pl : Nat) (x : Int64) (m : Nat) : Nat → Nat → Int32
  | 0 => T
  | i + 1 => upd (ptT T pl x m i) (pl + i) (vp_nar .char ((byt x (m - 1 - i)).toUInt32 % 65536).toInt32)
def apdR (pl : Nat) (x : Int64) : Int32 := if wfG 8 0 x = 0 then -2 else if pl + wfG 8 0 x ≤ 80 then nI (pl + wfG 8 0 x) else -4
def apdL (pl : Nat) (x : Int64) : Nat := if wfG 8 0 x = 0 then pl else if pl + wfG 8 0 x ≤ 80 then pl + wfG 8 0 x else pl
def apdT (T : Nat → Int32) (pl : Nat) (x : Int64) : Nat → Int32 := if wfG 8 0 x = 0 then T else if pl + wfG 8 0 x ≤ 80 then ptT T pl x (wfG 8 0 x) (wfG 8 0 x) else T
