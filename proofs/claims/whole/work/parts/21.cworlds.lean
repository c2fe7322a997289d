/-! stores into a hall, once for all; the stands and the crews as callees; the class's methods as functions of a hall's rows -/
theorem stWs0 (G : hG) (h : Nat → Nat) (n : Nat) (F : hF) (k : Nat) (v : Int32) : (stW G h n F).set 1 (h 4, .inl (G.2.1 0, 20, .inl (upd (F 0) k v))) = stW G h n (fs F 0 k v) := rfl
theorem stWs1 (G : hG) (h : Nat → Nat) (n : Nat) (F : hF) (k : Nat) (v : Int32) : (stW G h n F).set 2 (h 5, .inl (G.2.1 0, 20, .inl (upd (F 1) k v))) = stW G h n (fs F 1 k v) := rfl
theorem stWs2 (G : hG) (h : Nat → Nat) (n : Nat) (F : hF) (k : Nat) (v : Int32) : (stW G h n F).set 3 (h 6, .inl (G.2.1 0, 20, .inl (upd (F 2) k v))) = stW G h n (fs F 2 k v) := rfl
theorem stWs3 (G : hG) (h : Nat → Nat) (n : Nat) (F : hF) (k : Nat) (v : Int32) : (stW G h n F).set 4 (h 7, .inl (G.2.1 0, 20, .inl (upd (F 3) k v))) = stW G h n (fs F 3 k v) := rfl
theorem stWs4 (G : hG) (h : Nat → Nat) (n : Nat) (F : hF) (k : Nat) (v : Int32) : (stW G h n F).set 5 (h 8, .inl (G.2.1 0, 20, .inl (upd (F 4) k v))) = stW G h n (fs F 4 k v) := rfl
theorem stWs5 (G : hG) (h : Nat → Nat) (n : Nat) (F : hF) (k : Nat) (v : Int32) : (stW G h n F).set 6 (h 9, .inl (G.2.1 0, 20, .inl (upd (F 5) k v))) = stW G h n (fs F 5 k v) := rfl
theorem stWs6 (G : hG) (h : Nat → Nat) (n : Nat) (F : hF) (k : Nat) (v : Int32) : (stW G h n F).set 7 (h 10, .inl (G.2.1 0, 20, .inl (upd (F 6) k v))) = stW G h n (fs F 6 k v) := rfl
theorem stWs7 (G : hG) (h : Nat → Nat) (n : Nat) (F : hF) (k : Nat) (v : Int32) : (stW G h n F).set 8 (h 11, .inl (G.2.1 0, 20, .inl (upd (F 7) k v))) = stW G h n (fs F 7 k v) := rfl
theorem stWs8 (G : hG) (h : Nat → Nat) (n : Nat) (F : hF) (k : Nat) (v : Int32) : (stW G h n F).set 9 (h 12, .inl (G.2.1 0, 20, .inl (upd (F 8) k v))) = stW G h n (fs F 8 k v) := rfl
theorem stWs9 (G : hG) (h : Nat → Nat) (n : Nat) (F : hF) (k : Nat) (v : Int32) : (stW G h n F).set 10 (h 13, .inl (G.2.1 0, 20, .inl (upd (F 9) k v))) = stW G h n (fs F 9 k v) := rfl
theorem crWs10 (G : hG) (h : Nat → Nat) (c : Nat) (F : hF) (k : Nat) (v : Int32) : (crW G h c F).set 1 (h 15, .inl (G.2.1 0, 6, .inl (upd (F 10) k v))) = crW G h c (fs F 10 k v) := rfl
theorem crWs11 (G : hG) (h : Nat → Nat) (c : Nat) (F : hF) (k : Nat) (v : Int32) : (crW G h c F).set 2 (h 16, .inl (G.2.1 0, 6, .inl (upd (F 11) k v))) = crW G h c (fs F 11 k v) := rfl
theorem crWs12 (G : hG) (h : Nat → Nat) (c : Nat) (F : hF) (k : Nat) (v : Int32) : (crW G h c F).set 3 (h 17, .inl (G.2.1 0, 6, .inl (upd (F 12) k v))) = crW G h c (fs F 12 k v) := rfl
theorem crWs13 (G : hG) (h : Nat → Nat) (c : Nat) (F : hF) (k : Nat) (v : Int32) : (crW G h c F).set 4 (h 18, .inl (G.2.1 0, 6, .inl (upd (F 13) k v))) = crW G h c (fs F 13 k v) := rfl
theorem crWs14 (G : hG) (h : Nat → Nat) (c : Nat) (F : hF) (k : Nat) (v : Int32) : (crW G h c F).set 5 (h 19, .inl (G.2.1 0, 6, .inl (upd (F 14) k v))) = crW G h c (fs F 14 k v) := rfl
theorem crWs15 (G : hG) (h : Nat → Nat) (c : Nat) (F : hF) (k : Nat) (v : Int32) : (crW G h c F).set 6 (h 20, .inl (G.2.1 0, 6, .inl (upd (F 15) k v))) = crW G h c (fs F 15 k v) := rfl
theorem haWs0 (G : hG) (h : Nat → Nat) (n c : Nat) (F : hF) (k : Nat) (v : Int32) : (haW G h n c F).set 4 (h 4, .inl (G.2.1 0, 20, .inl (upd (F 0) k v))) = haW G h n c (fs F 0 k v) := rfl
theorem haWs1 (G : hG) (h : Nat → Nat) (n c : Nat) (F : hF) (k : Nat) (v : Int32) : (haW G h n c F).set 5 (h 5, .inl (G.2.1 0, 20, .inl (upd (F 1) k v))) = haW G h n c (fs F 1 k v) := rfl
theorem haWs2 (G : hG) (h : Nat → Nat) (n c : Nat) (F : hF) (k : Nat) (v : Int32) : (haW G h n c F).set 6 (h 6, .inl (G.2.1 0, 20, .inl (upd (F 2) k v))) = haW G h n c (fs F 2 k v) := rfl
theorem haWs3 (G : hG) (h : Nat → Nat) (n c : Nat) (F : hF) (k : Nat) (v : Int32) : (haW G h n c F).set 7 (h 7, .inl (G.2.1 0, 20, .inl (upd (F 3) k v))) = haW G h n c (fs F 3 k v) := rfl
theorem haWs4 (G : hG) (h : Nat → Nat) (n c : Nat) (F : hF) (k : Nat) (v : Int32) : (haW G h n c F).set 8 (h 8, .inl (G.2.1 0, 20, .inl (upd (F 4) k v))) = haW G h n c (fs F 4 k v) := rfl
theorem haWs5 (G : hG) (h : Nat → Nat) (n c : Nat) (F : hF) (k : Nat) (v : Int32) : (haW G h n c F).set 9 (h 9, .inl (G.2.1 0, 20, .inl (upd (F 5) k v))) = haW G h n c (fs F 5 k v) := rfl
theorem haWs6 (G : hG) (h : Nat → Nat) (n c : Nat) (F : hF) (k : Nat) (v : Int32) : (haW G h n c F).set 10 (h 10, .inl (G.2.1 0, 20, .inl (upd (F 6) k v))) = haW G h n c (fs F 6 k v) := rfl
theorem haWs7 (G : hG) (h : Nat → Nat) (n c : Nat) (F : hF) (k : Nat) (v : Int32) : (haW G h n c F).set 11 (h 11, .inl (G.2.1 0, 20, .inl (upd (F 7) k v))) = haW G h n c (fs F 7 k v) := rfl
theorem haWs8 (G : hG) (h : Nat → Nat) (n c : Nat) (F : hF) (k : Nat) (v : Int32) : (haW G h n c F).set 12 (h 12, .inl (G.2.1 0, 20, .inl (upd (F 8) k v))) = haW G h n c (fs F 8 k v) := rfl
theorem haWs9 (G : hG) (h : Nat → Nat) (n c : Nat) (F : hF) (k : Nat) (v : Int32) : (haW G h n c F).set 13 (h 13, .inl (G.2.1 0, 20, .inl (upd (F 9) k v))) = haW G h n c (fs F 9 k v) := rfl
theorem haWs10 (G : hG) (h : Nat → Nat) (n c : Nat) (F : hF) (k : Nat) (v : Int32) : (haW G h n c F).set 15 (h 15, .inl (G.2.1 0, 6, .inl (upd (F 10) k v))) = haW G h n c (fs F 10 k v) := rfl
theorem haWs11 (G : hG) (h : Nat → Nat) (n c : Nat) (F : hF) (k : Nat) (v : Int32) : (haW G h n c F).set 16 (h 16, .inl (G.2.1 0, 6, .inl (upd (F 11) k v))) = haW G h n c (fs F 11 k v) := rfl
theorem haWs12 (G : hG) (h : Nat → Nat) (n c : Nat) (F : hF) (k : Nat) (v : Int32) : (haW G h n c F).set 17 (h 17, .inl (G.2.1 0, 6, .inl (upd (F 12) k v))) = haW G h n c (fs F 12 k v) := rfl
theorem haWs13 (G : hG) (h : Nat → Nat) (n c : Nat) (F : hF) (k : Nat) (v : Int32) : (haW G h n c F).set 18 (h 18, .inl (G.2.1 0, 6, .inl (upd (F 13) k v))) = haW G h n c (fs F 13 k v) := rfl
theorem haWs14 (G : hG) (h : Nat → Nat) (n c : Nat) (F : hF) (k : Nat) (v : Int32) : (haW G h n c F).set 19 (h 19, .inl (G.2.1 0, 6, .inl (upd (F 14) k v))) = haW G h n c (fs F 14 k v) := rfl
theorem haWs15 (G : hG) (h : Nat → Nat) (n c : Nat) (F : hF) (k : Nat) (v : Int32) : (haW G h n c F).set 20 (h 20, .inl (G.2.1 0, 6, .inl (upd (F 15) k v))) = haW G h n c (fs F 15 k v) := rfl
theorem haWs16 (G : hG) (h : Nat → Nat) (n c : Nat) (F : hF) (k : Nat) (v : Int32) : (haW G h n c F).set 1 (h 1, .inl (G.2.1 0, 3, .inl (upd (F 16) k v))) = haW G h n c (fs F 16 k v) := rfl
theorem haWs17 (G : hG) (h : Nat → Nat) (n c : Nat) (F : hF) (k : Nat) (v : Int32) : (haW G h n c F).set 2 (h 2, .inl (G.2.1 0, 3, .inl (upd (F 17) k v))) = haW G h n c (fs F 17 k v) := rfl
theorem haWf4 (G : hG) (h : Nat → Nat) (n c : Nat) (F : hF) (v : Int32) : (haW G h n c F).set 0 (h 0, .inr (1, List.set ([.ref (h 1), .ref (h 2), .ref (h 3), .ref (h 14), .int (F 18 0), .int (F 18 1), .int (F 18 2)] : List Value) 4 (.int v))) = haW G h n c (fs F 18 0 v) := rfl
theorem haWf5 (G : hG) (h : Nat → Nat) (n c : Nat) (F : hF) (v : Int32) : (haW G h n c F).set 0 (h 0, .inr (1, List.set ([.ref (h 1), .ref (h 2), .ref (h 3), .ref (h 14), .int (F 18 0), .int (F 18 1), .int (F 18 2)] : List Value) 5 (.int v))) = haW G h n c (fs F 18 1 v) := rfl
theorem haWf6 (G : hG) (h : Nat → Nat) (n c : Nat) (F : hF) (v : Int32) : (haW G h n c F).set 0 (h 0, .inr (1, List.set ([.ref (h 1), .ref (h 2), .ref (h 3), .ref (h 14), .int (F 18 0), .int (F 18 1), .int (F 18 2)] : List Value) 6 (.int v))) = haW G h n c (fs F 18 2 v) := rfl
theorem stWf0 (G : hG) (h : Nat → Nat) (n m : Nat) (F : hF) : (stW G h n F).set 0 (h 3, .inr (6, List.set ([.int (nI n), .ref (h 4), .ref (h 5), .ref (h 6), .ref (h 7), .ref (h 8), .ref (h 9), .ref (h 10), .ref (h 11), .ref (h 12), .ref (h 13)] : List Value) 0 (.int (nI m)))) = stW G h m F := rfl
theorem crWf0 (G : hG) (h : Nat → Nat) (c m : Nat) (F : hF) : (crW G h c F).set 0 (h 14, .inr (0, List.set ([.int (nI c), .ref (h 15), .ref (h 16), .ref (h 17), .ref (h 18), .ref (h 19), .ref (h 20)] : List Value) 0 (.int (nI m)))) = crW G h m F := rfl
theorem hrS_to {F F' : hF} (e : ∀ j, 10 ≤ j → F' j = F j) (G : hG) (h : Nat → Nat) (c : Nat) : hrS G h c F' = hrS G h c F := by
  unfold hrS hoW crW
  rw [e 10 (by decide), e 11 (by decide), e 12 (by decide), e 13 (by decide), e 14 (by decide), e 15 (by decide), e 16 (by decide), e 17 (by decide), e 18 (by decide)]
theorem hrC_to {F F' : hF} (e : ∀ j, j < 10 ∨ 16 ≤ j → F' j = F j) (G : hG) (h : Nat → Nat) (n : Nat) : hrC G h n F' = hrC G h n F := by
  unfold hrC hoW stW
  rw [e 0 (by decide), e 1 (by decide), e 2 (by decide), e 3 (by decide), e 4 (by decide), e 5 (by decide), e 6 (by decide), e 7 (by decide), e 8 (by decide), e 9 (by decide), e 16 (by decide), e 17 (by decide), e 18 (by decide)]
theorem pmS' {G : hG} {h : Nat → Nat} {n c : Nat} {F F' : hF} (e : ∀ j, 10 ≤ j → F' j = F j) : (stW G h n F' ++ hrS G h c F).Perm (haW G h n c F') := by
  rw [← hrS_to e]
  exact (pmS G h n c F').symm
theorem pmC' {G : hG} {h : Nat → Nat} {n c : Nat} {F F' : hF} (e : ∀ j, j < 10 ∨ 16 ≤ j → F' j = F j) : (crW G h c F' ++ hrC G h n F).Perm (haW G h n c F') := by
  rw [← hrC_to e]
  exact (pmC G h n c F').symm
abbrev hhas (n : Nat) (x : Int32) : Prop := ¬ x < 0 ∧ ¬ nI n ≤ x
theorem has_in {n : Nat} {x : Int32} (hn : n < 2 ^ 31) (h : hhas n x) : ∃ j, j < n ∧ x = nI j := by
  rcases pk_ix x hn with q | q | q
  · exact absurd q h.1
  · exact absurd q h.2
  · exact q
theorem has_nI {n s : Nat} (hn : n < 2 ^ 31) (hs : s < n) : hhas n (nI s) := ⟨nI_pos (by omega), nI_ge hs hn⟩
theorem lt3_in {x : Int32} (h1 : ¬ x < 0) (h2 : x < 3) : ∃ j, j < 3 ∧ x = nI j := by
  rcases pk_ix x (n := 3) (by decide) with q | q | q
  · exact absurd q h1
  · exact absurd h2 (by rw [Int32.lt_iff_toInt_lt, show (3 : Int32) = nI 3 from rfl]; rw [Int32.le_iff_toInt_le] at q; omega)
  · exact q
def hsto (n : Nat) (F : hF) (x : Int32) : Int32 := orN n (fun s => if F 3 s = x ∧ ¬ F 4 s = 6 then (1 : Int32) <<< (nI s &&& 31) else 0)
def hcnt (n : Nat) (F : hF) (w : Int32) : Int32 := sumN n (fun s => if F 4 s = w then 1 else 0)
def hmet (n : Nat) (F : hF) : Int32 := sumN n (fun s => if F 4 s = 1 then F 1 s else 0)
def hwop (n : Nat) (F : hF) : Int32 := sumN n (fun s => if F 4 s = 4 ∧ ¬ F 2 s ≤ 0 ∧ F 6 s = -6 then 1 else 0)
abbrev hbb (n : Nat) (F : hF) (x : Int32) : Prop := hhas n x ∧ (¬ hhas n (F 3 x.toNatClampNeg) ∨ F 4 (F 3 x.toNatClampNeg).toNatClampNeg = 4)
def nbN (n : Nat) (F : hF) : Nat → Nat → Int32
  | 0, _ => -6
  | d + 1, s => if F 4 s = 2 ∧ hbb n F (nI s) then nI s else nbN n F d (s + 1)
def ndN (n : Nat) (F : hF) : Nat → Int32
  | 0 => -6
  | k + 1 => if F 4 k = 4 ∧ hsto n F (nI k) = 0 then nI k else ndN n F k
def clS (s : Nat) (r : hF × Int32) : hF × Int32 := if 4 ≤ r.1 4 s then r else (fs (fs (fs r.1 4 s 6) 5 s 0) 7 s (-6), r.2 + 1)
def hcos (c : Nat) (F : hF) : Int32 := sumN c (fun k => F 13 k * F 11 k)
def laS (k : Nat) (F : hF) : hF := fs F 12 k (-6)
def apS (F : hF) (n : Nat) (w1 w2 w3 w4 : Int32) : hF := fs (fs (fs (fs (fs (fs (fs (fs (fs (fs F 0 n w1) 1 n w2) 2 n w3) 3 n w4) 4 n 0) 5 n w1) 6 n (-6)) 7 n (-6)) 8 n 0) 9 n 0
def apC (F : hF) (c : Nat) (x y : Int32) : hF := fs (fs (fs (fs (fs (fs F 10 c x) 11 c y) 12 c (-6)) 13 c 0) 14 c 0) 15 c 0
def telS (n : Nat) (F : hF) (x y : Int32) : Int32 := if hhas n x then (if y = 0 then F 0 x.toNatClampNeg else if y = 1 then F 1 x.toNatClampNeg else if y = 2 then F 2 x.toNatClampNeg else if y = 3 then F 3 x.toNatClampNeg else if y = 4 then F 4 x.toNatClampNeg else if y = 5 then F 5 x.toNatClampNeg else if y = 6 then F 6 x.toNatClampNeg else if y = 7 then F 7 x.toNatClampNeg else if y = 8 then hsto n F x else if y = 9 then F 8 x.toNatClampNeg else -2) else -1
def telC (c : Nat) (F : hF) (x y : Int32) : Int32 := if hhas c x then (if y = 0 then F 10 x.toNatClampNeg else if y = 1 then F 11 x.toNatClampNeg else if y = 2 then F 12 x.toNatClampNeg else if y = 3 then F 13 x.toNatClampNeg else if y = 4 then F 13 x.toNatClampNeg * F 11 x.toNatClampNeg else if y = 5 then F 14 x.toNatClampNeg else if y = 6 then F 15 x.toNatClampNeg else -2) else -1
def toP (F : hF) (s : Nat) : hF := if F 6 s < 0 then F else if F 6 s < 3 then fs (fs F 17 (F 6 s).toNatClampNeg (F 17 (F 6 s).toNatClampNeg - F 2 s)) 6 s (-6) else F
def btD (F : hF) (s : Nat) : hF := fs (fs (toP F s) 4 s 5) 5 s ((toP F s 0 s + 1) / 2)
def phL (F : hF) : Nat := if F 17 (if F 17 0 ≤ F 17 1 then 0 else 1) ≤ F 17 2 then (if F 17 0 ≤ F 17 1 then 0 else 1) else 2
def poP (F : hF) (s : Nat) : hF := if F 17 (phL F) + F 2 s ≤ F 16 2 then fs (fs F 17 (phL F) (F 17 (phL F) + F 2 s)) 6 s (nI (phL F)) else F
def fiH (F : hF) (j s : Nat) : hF :=
  if F 4 s = 3 then poP (fs (fs (fs (fs F 12 j (-6)) 7 s (-6)) 4 s 4) 14 j (F 14 j + 1)) s
  else if (nI s + F 18 0) - (nI s + F 18 0) / 4 * 4 = 0 then fs (fs (fs (fs (fs F 12 j (-6)) 7 s (-6)) 4 s 6) 15 j (F 15 j + 1)) 18 2 (F 18 2 + 1)
  else fs (fs (fs (fs F 12 j (-6)) 7 s (-6)) 4 s 6) 15 j (F 15 j + 1)
def mx0 (v : Int32) : Int32 := if 0 < v then v else 0
def cwA (F : hF) (x : Int32) (j s : Nat) : hF := fs (fs (fs F 13 j (F 13 j + x)) 8 s (F 8 s + x)) 5 s (mx0 (F 5 s - x * F 10 j))
def ckS (n : Nat) (x : Int32) (j : Nat) (r : hF × Int32) : hF × Int32 :=
  if hhas n (r.1 12 j) then (if mx0 (r.1 5 (r.1 12 j).toNatClampNeg - x * r.1 10 j) ≤ 0 then (fiH (cwA r.1 x j (r.1 12 j).toNatClampNeg) j (r.1 12 j).toNatClampNeg, r.2 + 1) else (cwA r.1 x j (r.1 12 j).toNatClampNeg, r.2)) else r
def cwH (n c : Nat) (x : Int32) (F : hF) : hF × Int32 := itN c (ckS n x) (F, 0)
def llS (s : Nat) (F : hF) : hF := if F 4 s = 1 ∧ ¬ F 18 0 < F 9 s then fs F 4 s 2 else F
def lcN : Nat → Nat → Int32 → hF → hF
  | 0, _, _, F => F
  | d + 1, s, m, F => if F 4 s = 0 then (if m + F 1 s ≤ F 16 0 then lcN d (s + 1) (m + F 1 s) (fs (fs F 4 s 1) 9 s (F 18 0 + F 16 1)) else F) else lcN d (s + 1) m F
def nxH (n : Nat) (F : hF) : Int32 := if F 18 1 = 0 then nbN n F n 0 else ndN n F n
def tkH (F : hF) (j s : Nat) : hF := if F 18 1 = 0 then fs (fs (fs F 12 j (nI s)) 7 s (nI j)) 4 s 3 else btD (fs (fs F 12 j (nI s)) 7 s (nI j)) s
def ctN (n : Nat) : Nat → Nat → hF → hF
  | 0, _, F => F
  | d + 1, j, F => if F 12 j = -6 then (if hhas n (nxH n F) then ctN n d (j + 1) (tkH F j (nxH n F).toNatClampNeg) else F) else ctN n d (j + 1) F
def p1A (n c : Nat) (F : hF) : hF := ctN n c 0 (lcN n 0 (hmet n (itN n llS F)) (itN n llS F))
def p1H (n c : Nat) (F : hF) : hF := fs (cwH n c 1 (p1A n c F)).1 18 0 ((cwH n c 1 (p1A n c F)).1 18 0 + 1)
def p1R (n c : Nat) (F : hF) : Int32 := (cwH n c 1 (p1A n c F)).2
def qaS (F : hF) (s : Nat) (q : Int32) : Int32 := if F 4 s = 1 then (if F 9 s - F 18 0 < q then F 9 s - F 18 0 else q) else q
def qbS (n : Nat) (F : hF) (j : Nat) (q : Int32) : Int32 := if hhas n (F 12 j) then (if F 10 j ≤ 0 then q else if (F 5 (F 12 j).toNatClampNeg - 1) / F 10 j < q then (F 5 (F 12 j).toNatClampNeg - 1) / F 10 j else q) else q
def qhH (n c : Nat) (F : hF) : Int32 := itN c (qbS n F) (itN n (qaS F) 1000)
def pqH (n c : Nat) (x : Int32) (F : hF) : hF := if 0 < x then fs (cwH n c x F).1 18 0 ((cwH n c x F).1 18 0 + x) else F
abbrev aiP (n : Nat) (F : hF) : Prop := nI n = (if F 18 1 = 0 then hcnt n F 6 + hcnt n F 4 else hcnt n F 6)
def mnI (x y : Int32) : Int32 := if y < x then y else x
def huN (n c : Nat) (st most : Int32) : Nat → hF → Int32 × hF
  | 0, F => (if aiP n F then F 18 0 - st else -6, F)
  | d + 1, F => if aiP n F then (F 18 0 - st, F) else if 0 < st + most - F 18 0 then (if p1R n c F = 0 then huN n c st most d (pqH n c (mnI (qhH n c (p1H n c F)) (st + most - F 18 0 - 1)) (p1H n c F)) else huN n c st most d (p1H n c F)) else (-6, F)
theorem clS_row {j : Nat} (hj : 10 ≤ j) (s : Nat) (r : hF × Int32) : (clS s r).1 j = r.1 j := by
  unfold clS
  split
  · rfl
  · simp only [fs]
    rw [if_neg (by omega), if_neg (by omega), if_neg (by omega)]
theorem clN_row {j : Nat} (hj : 10 ≤ j) (F : hF) : ∀ k, (itN k clS (F, 0)).1 j = F j
  | 0 => rfl
  | k + 1 => (clS_row hj k _).trans (clN_row hj F k)
theorem laN_row {j : Nat} (hj : j ≠ 12) (F : hF) : ∀ k, itN k laS F j = F j
  | 0 => rfl
  | k + 1 => (fs_ne _ _ _ hj).trans (laN_row hj F k)
theorem i_lt_le {x y : Int32} (h : x < y) (h2 : y ≤ x) : False := by
  rw [Int32.lt_iff_toInt_lt] at h
  rw [Int32.le_iff_toInt_le] at h2
  omega
theorem i_nlt {x y : Int32} (h : ¬ x < y) : y ≤ x := by
  rw [Int32.lt_iff_toInt_lt] at h
  rw [Int32.le_iff_toInt_le]
  omega
