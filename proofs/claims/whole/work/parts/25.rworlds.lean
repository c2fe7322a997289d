/-! the pad and the reader of orders -/
def pdW (G : hG) (r : Nat → Nat) (pl : Nat) (T : Nat → Int32) : va_W := [(r 1, .inr (4, [.ref (r 2), .int (nI pl)])), (r 2, .inl (G.2.1 1, 80, .inl T))]
def rcW (r : Nat → Nat) (z : Nat → Int32) : va_W := [(r 0, .inr (3, [.ref (r 1), .int (z 0), .int (z 1), .int (z 2), .int (z 3), .int (z 4), .int (z 5), .int (z 6)]))]
def rdW (G : hG) (r : Nat → Nat) (pl : Nat) (T z : Nat → Int32) : va_W := rcW r z ++ pdW G r pl T
theorem pmR (G : hG) (r : Nat → Nat) (pl : Nat) (T z : Nat → Int32) : (rdW G r pl T z).Perm (pdW G r pl T ++ rcW r z) := List.perm_append_comm
theorem pdWs (G : hG) (r : Nat → Nat) (pl : Nat) (T : Nat → Int32) (k : Nat) (v : Int32) : (pdW G r pl T).set 1 (r 2, .inl (G.2.1 1, 80, .inl (upd T k (vp_nar .char v)))) = pdW G r pl (upd T k (vp_nar .char v)) := rfl
theorem pdWf (G : hG) (r : Nat → Nat) (pl m : Nat) (T : Nat → Int32) : (pdW G r pl T).set 0 (r 1, .inr (4, List.set ([.ref (r 2), .int (nI pl)] : List Value) 1 (.int (nI m)))) = pdW G r m T := rfl
theorem rdWf1 (G : hG) (r : Nat → Nat) (pl : Nat) (T z : Nat → Int32) (v : Int32) : (rdW G r pl T z).set 0 (r 0, .inr (3, List.set ([.ref (r 1), .int (z 0), .int (z 1), .int (z 2), .int (z 3), .int (z 4), .int (z 5), .int (z 6)] : List Value) 1 (.int v))) = rdW G r pl T (upd z 0 v) := rfl
theorem rdWf2 (G : hG) (r : Nat → Nat) (pl : Nat) (T z : Nat → Int32) (v : Int32) : (rdW G r pl T z).set 0 (r 0, .inr (3, List.set ([.ref (r 1), .int (z 0), .int (z 1), .int (z 2), .int (z 3), .int (z 4), .int (z 5), .int (z 6)] : List Value) 2 (.int v))) = rdW G r pl T (upd z 1 v) := rfl
theorem rdWf3 (G : hG) (r : Nat → Nat) (pl : Nat) (T z : Nat → Int32) (v : Int32) : (rdW G r pl T z).set 0 (r 0, .inr (3, List.set ([.ref (r 1), .int (z 0), .int (z 1), .int (z 2), .int (z 3), .int (z 4), .int (z 5), .int (z 6)] : List Value) 3 (.int v))) = rdW G r pl T (upd z 2 v) := rfl
theorem rdWf4 (G : hG) (r : Nat → Nat) (pl : Nat) (T z : Nat → Int32) (v : Int32) : (rdW G r pl T z).set 0 (r 0, .inr (3, List.set ([.ref (r 1), .int (z 0), .int (z 1), .int (z 2), .int (z 3), .int (z 4), .int (z 5), .int (z 6)] : List Value) 4 (.int v))) = rdW G r pl T (upd z 3 v) := rfl
theorem rdWf5 (G : hG) (r : Nat → Nat) (pl : Nat) (T z : Nat → Int32) (v : Int32) : (rdW G r pl T z).set 0 (r 0, .inr (3, List.set ([.ref (r 1), .int (z 0), .int (z 1), .int (z 2), .int (z 3), .int (z 4), .int (z 5), .int (z 6)] : List Value) 5 (.int v))) = rdW G r pl T (upd z 4 v) := rfl
theorem rdWf6 (G : hG) (r : Nat → Nat) (pl : Nat) (T z : Nat → Int32) (v : Int32) : (rdW G r pl T z).set 0 (r 0, .inr (3, List.set ([.ref (r 1), .int (z 0), .int (z 1), .int (z 2), .int (z 3), .int (z 4), .int (z 5), .int (z 6)] : List Value) 6 (.int v))) = rdW G r pl T (upd z 5 v) := rfl
theorem rdWf7 (G : hG) (r : Nat → Nat) (pl : Nat) (T z : Nat → Int32) (v : Int32) : (rdW G r pl T z).set 0 (r 0, .inr (3, List.set ([.ref (r 1), .int (z 0), .int (z 1), .int (z 2), .int (z 3), .int (z 4), .int (z 5), .int (z 6)] : List Value) 7 (.int v))) = rdW G r pl T (upd z 6 v) := rfl
def kAt (T : Nat → Int32) (pl a : Nat) : Int32 := if a < pl then T a else 0
def tkA (T : Nat → Int32) (pl a : Nat) (b x : Int32) : Nat := if b = 0 ∧ kAt T pl a = x then a + 1 else a
def exF (T : Nat → Int32) (pl a : Nat) (b x : Int32) : Int32 := if b = 0 ∧ kAt T pl a = x then b else 1
def rdD (T : Nat → Int32) (pl a : Nat) (b : Int32) : Int32 × Nat × Int32 := if b = 0 ∧ wI (kAt T pl a) 49 57 then (kAt T pl a - 48, a + 1, b) else (0, a, 1)
def rdN (T : Nat → Int32) (pl a : Nat) (b : Int32) : Int32 × Nat × Int32 :=
  if b = 0 ∧ kAt T pl a = 48 then (0, a + 1, b)
  else if (rdD T pl a b).2.2 = 0 ∧ wI (kAt T pl (rdD T pl a b).2.1) 48 57 then (10 * (rdD T pl a b).1 + kAt T pl (rdD T pl a b).2.1 - 48, (rdD T pl a b).2.1 + 1, (rdD T pl a b).2.2)
  else rdD T pl a b
theorem tkA_le (T : Nat → Int32) (pl a : Nat) (b x : Int32) : a ≤ tkA T pl a b x ∧ tkA T pl a b x ≤ a + 1 := by
  unfold tkA
  split <;> omega
theorem rdD_le (T : Nat → Int32) (pl a : Nat) (b : Int32) : a ≤ (rdD T pl a b).2.1 ∧ (rdD T pl a b).2.1 ≤ a + 1 := by
  unfold rdD
  split
  · exact ⟨Nat.le_succ a, Nat.le_refl _⟩
  · exact ⟨Nat.le_refl a, Nat.le_succ a⟩
theorem rdN_le (T : Nat → Int32) (pl a : Nat) (b : Int32) : a ≤ (rdN T pl a b).2.1 ∧ (rdN T pl a b).2.1 ≤ a + 2 := by
  have h1 := rdD_le T pl a b
  unfold rdN
  split
  · exact ⟨Nat.le_succ a, by show a + 1 ≤ a + 2; omega⟩
  · split
    · show a ≤ (rdD T pl a b).2.1 + 1 ∧ (rdD T pl a b).2.1 + 1 ≤ a + 2
      omega
    · omega
