/-! the calls of the reference, second half -/
def stdR (E : hF) (n : Nat) (w1 w2 w3 w4 : Int32) : Int32 := if 0 ≤ whyS E w1 w2 w3 w4 then nI n else whyS E w1 w2 w3 w4
def stdE (E : hF) (n r : Nat) (w1 w2 w3 w4 : Int32) : hF := if 0 ≤ whyS E w1 w2 w3 w4 then cmsE (recE E r) n w1 w2 w3 w4 else E
theorem whyS_n {n c : Nat} {E : hF} (h : mOk n c E) {w1 w2 w3 w4 : Int32} (hw : 0 ≤ whyS E w1 w2 w3 w4) : n < 20 := by
  rcases Nat.lt_or_ge n 20 with q | q
  · exact q
  · have e : n = 20 := by have := h.hn; omega
    have h4 : E 0 4 = 20 := by rw [h.h4, e]; rfl
    unfold whyS at hw
    rw [if_pos h4] at hw
    split at hw
    · exact absurd hw (by decide)
    · split at hw
      · exact absurd hw (by decide)
      · exact absurd hw (by decide)
def whcS (E : hF) (x y : Int32) : Int32 := if ¬ wI x 1 9 ∨ ¬ wI y 0 99 then -2 else if E 0 5 = 6 then -4 else 0
theorem whcS_n {n c : Nat} {E : hF} (h : mOk n c E) {x y : Int32} (hw : 0 ≤ whcS E x y) : c < 6 := by
  rcases Nat.lt_or_ge c 6 with q | q
  · exact q
  · have e : c = 6 := by have := h.hc; omega
    have h4 : E 0 5 = 6 := by rw [h.h5, e]; rfl
    unfold whcS at hw
    rw [if_pos h4] at hw
    split at hw
    · exact absurd hw (by decide)
    · exact absurd hw (by decide)
def cmcE (E : hF) (c : Nat) (x y : Int32) : hF :=
  fs (fs (fs (fs (fs (fs (fs (fs (fs (fs (fs E 0 (208 + 7 * c + 0) 0) 0 (208 + 7 * c + 1) 0) 0 (208 + 7 * c + 2) 0) 0 (208 + 7 * c + 3) 0) 0 (208 + 7 * c + 4) 0) 0 (208 + 7 * c + 5) 0) 0 (208 + 7 * c + 6) 0) 0 (208 + 7 * c + 0) x) 0 (208 + 7 * c + 1) y) 0 (208 + 7 * c + 2) (-6)) 0 5 (nI c + 1)
def crwR (E : hF) (c : Nat) (x y : Int32) : Int32 := if 0 ≤ whcS E x y then nI c else whcS E x y
def crwE (E : hF) (c r : Nat) (x y : Int32) : hF := if 0 ≤ whcS E x y then cmcE (recE E r) c x y else E
def enA (E : hF) (s : Nat) : hF := fs (fs (fs (if E 0 (8 + 10 * s + 7) = -6 then E else fs E 0 (208 + 7 * (E 0 (8 + 10 * s + 7)).toNatClampNeg + 2) (-6)) 0 (8 + 10 * s + 7) (-6)) 0 (8 + 10 * s + 4) 6) 0 (8 + 10 * s + 5) 0
def enS (s : Nat) (r : hF × Int32) : hF × Int32 := if 4 ≤ r.1 0 (8 + 10 * s + 4) then r else (enA r.1 s, r.2 + 1)
def ensE (n : Nat) (E : hF) : hF × Int32 := itN n enS (fs E 0 6 1, 0)
theorem menA {n c : Nat} {E : hF} (h : mOk n c E) {s : Nat} (hs : s < n) : mOk n c (enA E s) := by
  unfold enA
  have h1 : mOk n c (if E 0 (8 + 10 * s + 7) = -6 then E else fs E 0 (208 + 7 * (E 0 (8 + 10 * s + 7)).toNatClampNeg + 2) (-6)) := by
    split
    · exact h
    · exact h.has (Or.inl rfl)
  exact ((h1.by' hs (Or.inl rfl)).part _ hs (by decide) (by decide) (by decide)).part _ hs (by decide) (by decide) (by decide)
theorem menS {n c : Nat} {r : hF × Int32} (h : mOk n c r.1) {s : Nat} (hs : s < n) : mOk n c (enS s r).1 := by
  unfold enS
  split
  · exact h
  · exact menA h hs
theorem menN {n c : Nat} {E : hF} (h : mOk n c E) {k : Nat} (hk : k ≤ n) : mOk n c (itN k enS (fs E 0 6 1, 0)).1 := itN_P (P := fun r : hF × Int32 => mOk n c r.1) (h.head _ (by decide) (by decide) (by decide)) k fun _ _ hi hx => menS hx (by omega)
def endR (n : Nat) (E : hF) (r : Nat) : Int32 := if E 0 6 = 1 then -5 else (ensE n (recE E r)).2
def endE (n : Nat) (E : hF) (r : Nat) : hF := if E 0 6 = 1 then E else (ensE n (recE E r)).1
def fndR (E : hF) (r : Nat) : Int32 := if E 0 7 = 0 then -5 else recE E r 0 7 - 1
def fndE (E : hF) (r : Nat) : hF := if E 0 7 = 0 then E else fs (recE E r) 0 7 (recE E r 0 7 - 1)
def whpS (E : hF) (x : Int32) : Int32 := if wI x 1 99 then (if E 0 3 + x ≤ 9999 then 0 else -5) else -2
theorem whpS_n {E : hF} {x : Int32} (h : 0 ≤ whpS E x) : ∃ j, 1 ≤ j ∧ j ≤ 99 ∧ x = nI j := by
  unfold whpS at h
  split at h
  · rename_i q
    exact wI_lit (a := 1) (b := 99) (by decide) (by decide) q
  · exact absurd h (by decide)
def pasR (n c : Nat) (E : hF) (r : Nat) (x : Int32) : Int32 := if 0 ≤ whpS E x then (psE n c x.toNatClampNeg (recE E r)).2 else whpS E x
def pasE (n c : Nat) (E : hF) (r : Nat) (x : Int32) : hF := if 0 ≤ whpS E x then (psE n c x.toNatClampNeg (recE E r)).1 else E
def lftE (E : hF) (s : Nat) : Int32 := if E 0 (8 + 10 * s + 4) = 4 ∨ E 0 (8 + 10 * s + 4) = 6 then 0 else E 0 (8 + 10 * s + 5)
def ofsE (n : Nat) (E : hF) (x y : Int32) : Int32 := if wI x 0 (nI n - 1) then (if y = 5 then lftE E x.toNatClampNeg else if y = 8 then stoE n E x else if y = 0 ∨ y = 1 ∨ y = 2 ∨ y = 3 ∨ y = 4 ∨ y = 6 ∨ y = 7 ∨ y = 9 then E 0 (8 + 10 * x.toNatClampNeg + y.toNatClampNeg) else -2) else -1
def ofcE (c : Nat) (E : hF) (x y : Int32) : Int32 := if wI x 0 (nI c - 1) then (if wI y 0 6 then E 0 (208 + 7 * x.toNatClampNeg + y.toNatClampNeg) else -2) else -1
def lodE (n : Nat) (E : hF) (x : Int32) : Int32 := if wI x 0 2 then loaE n E x else -1
def couE (n c : Nat) (E : hF) (x : Int32) : Int32 := if x = 0 then E 0 3 else if x = 1 then nI n else if x = 2 then nI c else if x = 3 then cntE n E 0 else if x = 4 then cntE n E 1 else if x = 5 then cntE n E 2 else if x = 6 then cntE n E 3 else if x = 7 then cntE n E 4 else if x = 8 then cntE n E 5 else if x = 9 then cntE n E 6 else if x = 10 then metE n E else if x = 11 then E 0 6 else if x = 12 then E 0 7 else if x = 13 then cosE c E else if x = 14 then wopE n E else if x = 15 then E 0 0 else if x = 16 then E 0 1 else if x = 17 then E 0 2 else if x = 18 then E 6 1 else if x = 19 then E 6 0 else -2
def waiE (n : Nat) (E : hF) (x : Int32) : Int32 := if wI x 0 (nI n - 1) then (if E 0 (8 + 10 * x.toNatClampNeg + 4) = 0 then 1 else if E 0 (8 + 10 * x.toNatClampNeg + 4) = 1 then 2 else if E 0 (8 + 10 * x.toNatClampNeg + 4) = 2 then (if hasB E x.toNatClampNeg then 4 else 3) else if E 0 (8 + 10 * x.toNatClampNeg + 4) = 4 then (if E 0 6 = 0 then 0 else if stoE n E x = 0 then 4 else 5) else 0) else -1
abbrev adP (n : Nat) (E : hF) : Prop := cntE n E 6 + (if E 0 6 = 1 then 0 else cntE n E 4) = nI n
