/-! the program's hall and the reference's row, side by side -/
abbrev vB (x : Int32) (a b : Int) : Prop := a ≤ x.toInt ∧ x.toInt ≤ b
def pj (j : Nat) : Nat := if j = 9 then 8 else j
def qj (j : Nat) : Nat := if j < 4 then j + 10 else j + 9
def hloa (n : Nat) (F : hF) (x : Int32) : Int32 := sumN n (fun s => if F 6 s = x then F 2 s else 0)
theorem sumN_c {f g : Nat → Int32} : ∀ n, (∀ s, s < n → f s = g s) → sumN n f = sumN n g
  | 0, _ => rfl
  | n + 1, h => by
    show sumN n f + f n = sumN n g + g n
    rw [sumN_c n (fun s hs => h s (Nat.lt_succ_of_lt hs)), h n (Nat.lt_succ_self n)]
theorem orN_c {f g : Nat → Int32} : ∀ n, (∀ s, s < n → f s = g s) → orN n f = orN n g
  | 0, _ => rfl
  | n + 1, h => by
    show orN n f ||| f n = orN n g ||| g n
    rw [orN_c n (fun s hs => h s (Nat.lt_succ_of_lt hs)), h n (Nat.lt_succ_self n)]
theorem sumN_u {f g : Nat → Int32} {s : Nat} (hg : ∀ i, i ≠ s → g i = f i) : ∀ n, s < n → sumN n g = sumN n f - f s + g s
  | 0, h => absurd h (Nat.not_lt_zero s)
  | n + 1, h => by
    show sumN n g + g n = sumN n f + f n - f s + g s
    by_cases e : s = n
    · subst e
      rw [sumN_c s (fun i hi => hg i (by omega)), Int32.add_sub_cancel]
    · rw [sumN_u hg n (by omega), hg n (by omega), Int32.sub_eq_add_neg, Int32.sub_eq_add_neg]
      ac_rfl
theorem ifc {P Q : Prop} [Decidable P] [Decidable Q] {x y : Int32} (h : P ↔ Q) : (if P then x else y) = if Q then x else y := by
  by_cases p : P
  · rw [if_pos p, if_pos (h.mp p)]
  · rw [if_neg p, if_neg (fun q => p (h.mpr q))]
theorem fs_id {F : hF} {j i : Nat} {v : Int32} (h : F j i = v) : fs F j i v = F := by
  funext j' i'
  rw [fs_at]
  split
  · next e => rw [e.1, e.2, h]
  · rfl
theorem nI_inj6 {a b : Nat} (ha : a < 2 ^ 31) (hb : b < 2 ^ 31) (h : nI a = nI b) : a = b := (nI_eq ha hb).mp h
theorem vB_n {x : Int32} {a b : Int} (h : vB x a b) (h0 : 0 ≤ a) : ∃ v : Nat, x = nI v ∧ a ≤ v ∧ (v : Int) ≤ b := by
  obtain ⟨h1, h2⟩ := h
  have h3 : x.toInt < 2 ^ 31 := Int32.toInt_lt x
  refine ⟨x.toInt.toNat, Int32.toInt_inj.mp ?_, by omega, by omega⟩
  rw [nI_toInt (by omega)]
  omega
theorem vB_of {v : Nat} {a b : Int} (hv : v < 2 ^ 31) (h1 : a ≤ v) (h2 : (v : Int) ≤ b) : vB (nI v) a b := by
  unfold vB
  rw [nI_toInt hv]
  exact ⟨h1, h2⟩
/-- what holds of a hall between two hours -/
def hI (n c : Nat) (F : hF) : Prop :=
  (∀ s, s < n → vB (F 0 s) 1 99) ∧ (∀ s, s < n → vB (F 4 s) 0 6) ∧ (∀ s, s < n → vB (F 5 s) 0 99) ∧
  (∀ s, s < n → F 6 s = -6 ∨ F 6 s = 0 ∨ F 6 s = 1 ∨ F 6 s = 2) ∧
  (∀ s, s < n → (F 4 s = 0 ∨ F 4 s = 1 ∨ F 4 s = 2 ∨ F 4 s = 3) → F 6 s = -6) ∧
  (∀ k, k < c → vB (F 10 k) 1 9) ∧
  (∀ k, k < c → F 12 k = -6 ∨ ∃ s, s < n ∧ F 12 k = nI s ∧ F 7 s = nI k ∧ F 4 s = (if F 18 1 = 1 then 5 else 3)) ∧
  (F 18 1 = 0 ∨ F 18 1 = 1) ∧ vB (F 16 0) 1 60 ∧ vB (F 16 1) 1 9 ∧ vB (F 16 2) 1 999 ∧
  (∀ p, p < 3 → F 17 p = hloa n F (nI p)) ∧
  (∀ s, s < n → F 3 s = -6 ∨ ∃ b, b < n ∧ F 3 s = nI b)
/-- the same numbers in both -/
def rl (n c : Nat) (F E : hF) : Prop :=
  (∀ s j, s < n → j < 10 → j ≠ 8 → E 0 (8 + 10 * s + j) = F (pj j) s) ∧ (∀ k j, k < c → j < 7 → j ≠ 4 → E 0 (208 + 7 * k + j) = F (qj j) k) ∧
  (∀ k, k < c → E 0 (208 + 7 * k + 4) = F 13 k * F 11 k) ∧ E 0 0 = F 16 0 ∧ E 0 1 = F 16 1 ∧ E 0 2 = F 16 2 ∧ E 0 3 = F 18 0 ∧ E 0 6 = F 18 1 ∧ E 0 7 = F 18 2
/-- how long the lorries at the dock stay -/
def stq (n : Nat) (t : Nat → Nat) (F E : hF) : Prop := ∀ s, s < n → F 4 s = 1 → ∃ v, t s ≤ v ∧ v ≤ 9 ∧ F 9 s = F 18 0 + nI v ∧ E 0 (8 + 10 * s + 8) = nI (v - t s)
def sm (n c h e : Nat) (t : Nat → Nat) (F E : hF) : Prop :=
  n ≤ 20 ∧ c ≤ 6 ∧ h ≤ 30000 ∧ e ≤ 6 ∧ hI n c F ∧ F 18 0 = nI h ∧ vB (F 18 2) 0 (6 * h + e) ∧ rl n c F E ∧ stq n t F E ∧ mOk n c E
section RL
variable {n c : Nat} {F E : hF}
theorem rl.A (h : rl n c F E) {s : Nat} (hs : s < n) (j : Nat) (hj : j < 10) (h8 : j ≠ 8) : E 0 (8 + 10 * s + j) = F (pj j) s := h.1 s j hs hj h8
theorem rl.B (h : rl n c F E) {k : Nat} (hk : k < c) (j : Nat) (hj : j < 7) (h4 : j ≠ 4) : E 0 (208 + 7 * k + j) = F (qj j) k := h.2.1 k j hk hj h4
theorem rl.part (h : rl n c F E) (hn : n ≤ 20) {s : Nat} (hs : s < n) (j : Nat) (v : Int32) (hj : j < 10) (h8 : j ≠ 8) : rl n c (fs F (pj j) s v) (fs E 0 (8 + 10 * s + j) v) := by
  obtain ⟨a1, a2, a3, a4, a5, a6, a7, a8, a9⟩ := h
  have hp : pj j < 9 := by unfold pj; split <;> omega
  refine ⟨fun s' j' hs' hj' h8' => ?_, fun k j' hk hj' h4 => ?_, fun k hk => ?_, ?_, ?_, ?_, ?_, ?_, ?_⟩
  · rw [fs_at, fs_at]
    by_cases e : s' = s ∧ j' = j
    · rw [if_pos (by omega), if_pos (by rw [e.1, e.2]; exact ⟨rfl, rfl⟩)]
    · rw [if_neg (by omega), if_neg (by unfold pj; intro q; obtain ⟨q1, q2⟩ := q; split at q1 <;> split at q1 <;> omega)]
      exact a1 s' j' hs' hj' h8'
  · rw [fs_at, fs_at, if_neg (by omega), if_neg (by unfold qj; intro q; obtain ⟨q1, q2⟩ := q; split at q1 <;> omega)]
    exact a2 k j' hk hj' h4
  · rw [fs_at, fs_at, fs_at, if_neg (by omega), if_neg (by omega), if_neg (by omega)]
    exact a3 k hk
  · rw [fs_at, fs_at, if_neg (by omega), if_neg (by omega)]; exact a4
  · rw [fs_at, fs_at, if_neg (by omega), if_neg (by omega)]; exact a5
  · rw [fs_at, fs_at, if_neg (by omega), if_neg (by omega)]; exact a6
  · rw [fs_at, fs_at, if_neg (by omega), if_neg (by omega)]; exact a7
  · rw [fs_at, fs_at, if_neg (by omega), if_neg (by omega)]; exact a8
  · rw [fs_at, fs_at, if_neg (by omega), if_neg (by omega)]; exact a9
theorem rl.crew (h : rl n c F E) (hn : n ≤ 20) {k : Nat} (j : Nat) (v : Int32) (hj : j < 7) (h4 : j ≠ 4) (h1 : j ≠ 1) (h3 : j ≠ 3) : rl n c (fs F (qj j) k v) (fs E 0 (208 + 7 * k + j) v) := by
  obtain ⟨a1, a2, a3, a4, a5, a6, a7, a8, a9⟩ := h
  have hp : 10 ≤ qj j ∧ qj j < 16 ∧ qj j ≠ 13 ∧ qj j ≠ 11 := by unfold qj; split <;> omega
  refine ⟨fun s' j' hs' hj' h8' => ?_, fun k' j' hk hj' h4' => ?_, fun k' hk => ?_, ?_, ?_, ?_, ?_, ?_, ?_⟩
  · rw [fs_at, fs_at, if_neg (by omega), if_neg (by unfold pj; intro q; obtain ⟨q1, q2⟩ := q; split at q1 <;> omega)]
    exact a1 s' j' hs' hj' h8'
  · rw [fs_at, fs_at]
    by_cases e : k' = k ∧ j' = j
    · rw [if_pos (by omega), if_pos (by rw [e.1, e.2]; exact ⟨rfl, rfl⟩)]
    · rw [if_neg (by omega), if_neg (by unfold qj; intro q; obtain ⟨q1, q2⟩ := q; split at q1 <;> split at q1 <;> omega)]
      exact a2 k' j' hk hj' h4'
  · rw [fs_at, fs_at, fs_at, if_neg (by omega), if_neg (by omega), if_neg (by omega)]
    exact a3 k' hk
  · rw [fs_at, fs_at, if_neg (by omega), if_neg (by omega)]; exact a4
  · rw [fs_at, fs_at, if_neg (by omega), if_neg (by omega)]; exact a5
  · rw [fs_at, fs_at, if_neg (by omega), if_neg (by omega)]; exact a6
  · rw [fs_at, fs_at, if_neg (by omega), if_neg (by omega)]; exact a7
  · rw [fs_at, fs_at, if_neg (by omega), if_neg (by omega)]; exact a8
  · rw [fs_at, fs_at, if_neg (by omega), if_neg (by omega)]; exact a9
theorem rl.wk (h : rl n c F E) (hn : n ≤ 20) {k : Nat} (hk0 : k < c) : rl n c (fs F 13 k (F 13 k + 1)) (fs (fs E 0 (208 + 7 * k + 3) (E 0 (208 + 7 * k + 3) + 1)) 0 (208 + 7 * k + 4) (E 0 (208 + 7 * k + 4) + E 0 (208 + 7 * k + 1))) := by
  obtain ⟨a1, a2, a3, a4, a5, a6, a7, a8, a9⟩ := h
  refine ⟨fun s' j' hs' hj' h8' => ?_, fun k' j' hk hj' h4' => ?_, fun k' hk => ?_, ?_, ?_, ?_, ?_, ?_, ?_⟩
  · rw [fs_at, fs_at, fs_at, if_neg (by omega), if_neg (by omega), if_neg (by unfold pj; intro q; obtain ⟨q1, q2⟩ := q; split at q1 <;> omega)]
    exact a1 s' j' hs' hj' h8'
  · rw [fs_at, fs_at, fs_at, if_neg (by omega)]
    by_cases e : k' = k ∧ j' = 3
    · rw [if_pos (by omega), if_pos (by rw [e.1, e.2]; exact ⟨rfl, rfl⟩), a2 k 3 hk0 (by decide) (by decide)]
      rfl
    · rw [if_neg (by omega), if_neg (by unfold qj; intro q; obtain ⟨q1, q2⟩ := q; split at q1 <;> omega)]
      exact a2 k' j' hk hj' h4'
  · rw [fs_at, fs_at, fs_at, fs_at]
    by_cases e : k' = k
    · rw [if_pos (by omega), if_pos ⟨rfl, e⟩, if_neg (by omega), e, a3 k hk0, a2 k 1 hk0 (by decide) (by decide), Int32.add_mul, Int32.one_mul]
      rfl
    · rw [if_neg (by omega), if_neg (by omega), if_neg (by omega), if_neg (by omega)]
      exact a3 k' hk
  · rw [fs_at, fs_at, fs_at, if_neg (by omega), if_neg (by omega), if_neg (by omega)]; exact a4
  · rw [fs_at, fs_at, fs_at, if_neg (by omega), if_neg (by omega), if_neg (by omega)]; exact a5
  · rw [fs_at, fs_at, fs_at, if_neg (by omega), if_neg (by omega), if_neg (by omega)]; exact a6
  · rw [fs_at, fs_at, fs_at, if_neg (by omega), if_neg (by omega), if_neg (by omega)]; exact a7
  · rw [fs_at, fs_at, fs_at, if_neg (by omega), if_neg (by omega), if_neg (by omega)]; exact a8
  · rw [fs_at, fs_at, fs_at, if_neg (by omega), if_neg (by omega), if_neg (by omega)]; exact a9
theorem rl.stays (h : rl n c F E) (hn : n ≤ 20) {s : Nat} (hs : s < n) (v : Int32) : rl n c F (fs E 0 (8 + 10 * s + 8) v) := by
  obtain ⟨a1, a2, a3, a4, a5, a6, a7, a8, a9⟩ := h
  refine ⟨fun s' j' hs' hj' h8' => ?_, fun k j' hk hj' h4 => ?_, fun k hk => ?_, ?_, ?_, ?_, ?_, ?_, ?_⟩
  · rw [fs_at, if_neg (by omega)]; exact a1 s' j' hs' hj' h8'
  · rw [fs_at, if_neg (by omega)]; exact a2 k j' hk hj' h4
  · rw [fs_at, if_neg (by omega)]; exact a3 k hk
  · rw [fs_at, if_neg (by omega)]; exact a4
  · rw [fs_at, if_neg (by omega)]; exact a5
  · rw [fs_at, if_neg (by omega)]; exact a6
  · rw [fs_at, if_neg (by omega)]; exact a7
  · rw [fs_at, if_neg (by omega)]; exact a8
  · rw [fs_at, if_neg (by omega)]; exact a9
theorem rl.congr {F' : hF} (h : rl n c F E) (k0 : ∀ j i, j ≠ 9 → j ≠ 17 → F' j i = F j i) : rl n c F' E := by
  obtain ⟨a1, a2, a3, a4, a5, a6, a7, a8, a9⟩ := h
  refine ⟨fun s' j' hs' hj' h8' => ?_, fun k j' hk hj' h4 => ?_, fun k hk => ?_, ?_, ?_, ?_, ?_, ?_, ?_⟩
  · rw [k0 _ _ (by unfold pj; split <;> omega) (by unfold pj; split <;> omega)]; exact a1 s' j' hs' hj' h8'
  · rw [k0 _ _ (by unfold qj; split <;> omega) (by unfold qj; split <;> omega)]; exact a2 k j' hk hj' h4
  · rw [k0 _ _ (by decide) (by decide), k0 _ _ (by decide) (by decide)]; exact a3 k hk
  · rw [k0 _ _ (by decide) (by decide)]; exact a4
  · rw [k0 _ _ (by decide) (by decide)]; exact a5
  · rw [k0 _ _ (by decide) (by decide)]; exact a6
  · rw [k0 _ _ (by decide) (by decide)]; exact a7
  · rw [k0 _ _ (by decide) (by decide)]; exact a8
  · rw [k0 _ _ (by decide) (by decide)]; exact a9
/-- a number of the head: i of the reference is (j, i') of the hall -/
theorem rl.head (h : rl n c F E) (i j i' : Nat) (v : Int32) (hi : (i = 0 ∧ j = 16 ∧ i' = 0) ∨ (i = 1 ∧ j = 16 ∧ i' = 1) ∨ (i = 2 ∧ j = 16 ∧ i' = 2) ∨ (i = 3 ∧ j = 18 ∧ i' = 0) ∨ (i = 6 ∧ j = 18 ∧ i' = 1) ∨ (i = 7 ∧ j = 18 ∧ i' = 2)) : rl n c (fs F j i' v) (fs E 0 i v) := by
  obtain ⟨a1, a2, a3, a4, a5, a6, a7, a8, a9⟩ := h
  refine ⟨fun s' j' hs' hj' h8' => ?_, fun k j' hk hj' h4 => ?_, fun k hk => ?_, ?_, ?_, ?_, ?_, ?_, ?_⟩
  · rw [fs_at, fs_at, if_neg (by omega), if_neg (by unfold pj; intro q; obtain ⟨q1, q2⟩ := q; split at q1 <;> omega)]
    exact a1 s' j' hs' hj' h8'
  · rw [fs_at, fs_at, if_neg (by omega), if_neg (by unfold qj; intro q; obtain ⟨q1, q2⟩ := q; split at q1 <;> omega)]
    exact a2 k j' hk hj' h4
  · rw [fs_at, fs_at, fs_at, if_neg (by omega), if_neg (by omega), if_neg (by omega)]
    exact a3 k hk
  · rw [fs_at, fs_at]
    by_cases e : i = 0
    · rw [if_pos (by omega), if_pos (by omega)]
    · rw [if_neg (by omega), if_neg (by omega)]; exact a4
  · rw [fs_at, fs_at]
    by_cases e : i = 1
    · rw [if_pos (by omega), if_pos (by omega)]
    · rw [if_neg (by omega), if_neg (by omega)]; exact a5
  · rw [fs_at, fs_at]
    by_cases e : i = 2
    · rw [if_pos (by omega), if_pos (by omega)]
    · rw [if_neg (by omega), if_neg (by omega)]; exact a6
  · rw [fs_at, fs_at]
    by_cases e : i = 3
    · rw [if_pos (by omega), if_pos (by omega)]
    · rw [if_neg (by omega), if_neg (by omega)]; exact a7
  · rw [fs_at, fs_at]
    by_cases e : i = 6
    · rw [if_pos (by omega), if_pos (by omega)]
    · rw [if_neg (by omega), if_neg (by omega)]; exact a8
  · rw [fs_at, fs_at]
    by_cases e : i = 7
    · rw [if_pos (by omega), if_pos (by omega)]
    · rw [if_neg (by omega), if_neg (by omega)]; exact a9
theorem rl.met (h : rl n c F E) : metE n E = hmet n F := sumN_c n fun s hs => by
  rw [h.A hs 4 (by decide) (by decide), h.A hs 1 (by decide) (by decide)]; rfl
theorem rl.cnt (h : rl n c F E) (w : Int32) : cntE n E w = hcnt n F w := sumN_c n fun s hs => by
  rw [h.A hs 4 (by decide) (by decide)]; rfl
theorem rl.sto (h : rl n c F E) (x : Int32) : stoE n E x = hsto n F x := orN_c n fun s hs => by
  rw [h.A hs 3 (by decide) (by decide), h.A hs 4 (by decide) (by decide)]; rfl
theorem rl.loa (h : rl n c F E) (x : Int32) : loaE n E x = hloa n F x := sumN_c n fun s hs => by
  rw [h.A hs 6 (by decide) (by decide), h.A hs 2 (by decide) (by decide)]; rfl
theorem rl.cos (h : rl n c F E) : cosE c E = hcos c F := sumN_c c fun k hk => h.2.2.1 k hk
theorem rl.wop (h : rl n c F E) : wopE n E = hwop n F := sumN_c n fun s hs => by
  rw [h.A hs 4 (by decide) (by decide), h.A hs 6 (by decide) (by decide), h.A hs 2 (by decide) (by decide)]
  show (if F 4 s = 4 ∧ F 6 s = -6 ∧ ¬ F 2 s ≤ 0 then (1 : Int32) else 0) = if F 4 s = 4 ∧ ¬ F 2 s ≤ 0 ∧ F 6 s = -6 then 1 else 0
  refine ifc ?_
  constructor
  · rintro ⟨q1, q2, q3⟩; exact ⟨q1, q3, q2⟩
  · rintro ⟨q1, q2, q3⟩; exact ⟨q1, q3, q2⟩
end RL
theorem stq.to {n : Nat} {t : Nat → Nat} {F E F' E' : hF} (h : stq n t F E) (h4 : ∀ s, s < n → F' 4 s = 1 → F 4 s = 1) (h9 : ∀ s, F' 9 s = F 9 s) (h18 : F' 18 0 = F 18 0) (h8 : ∀ s, s < n → E' 0 (8 + 10 * s + 8) = E 0 (8 + 10 * s + 8)) : stq n t F' E' := by
  intro s hs q
  obtain ⟨v, b1, b2, b3, b4⟩ := h s hs (h4 s hs q)
  exact ⟨v, b1, b2, by rw [h9, h18]; exact b3, by rw [h8 s hs]; exact b4⟩
theorem hI_how {n c : Nat} {F : hF} (h : hI n c F) {s : Nat} {v : Int32} (h3 : F 4 s ≠ 3) (h5 : F 4 s ≠ 5) (h6 : F 6 s = -6) (hv : vB v 0 6) : hI n c (fs F 4 s v) := by
  obtain ⟨a1, a2, a3, a4, a5, a6, a7, a8, a9, a10, a11, a12, a13⟩ := h
  refine ⟨a1, fun t ht => ?_, a3, a4, fun t ht q => ?_, a6, fun k hk => ?_, a8, a9, a10, a11, a12, a13⟩
  · rw [fs_at]
    split
    · exact hv
    · exact a2 t ht
  · show F 6 t = -6
    by_cases e : t = s
    · rw [e]; exact h6
    · refine a5 t ht ?_
      rw [fs_at, if_neg (by omega)] at q
      exact q
  · rcases a7 k hk with q | ⟨t, ht, q1, q2, q3⟩
    · exact Or.inl q
    · refine Or.inr ⟨t, ht, q1, q2, ?_⟩
      have e : t ≠ s := fun e => by
        rw [e] at q3
        split at q3
        · exact h5 q3
        · exact h3 q3
      show fs F 4 s v 4 t = if F 18 1 = 1 then 5 else 3
      rw [fs_at, if_neg (by omega)]
      exact q3
/-! lorries leave -/
theorem hw_ne {v : Nat} (hv : v ≤ 9) {h : Nat} (hh : h ≤ 30000) : (¬ nI h < nI h + nI v) ↔ v = 0 := by
  rw [nI_add, nI_ltI (by omega) (by omega)]
  omega
theorem sm_leave {n c h e : Nat} {F E : hF} (H : sm n c h e (fun _ => 0) F E) {s : Nat} (hs : s < n) : sm n c h e (fun _ => 0) (llS s F) (lvS s E) := by
  obtain ⟨hn, hc, hh, he, a, a0, al, r, t, m⟩ := H
  have r4 : E 0 (8 + 10 * s + 4) = F 4 s := r.A hs 4 (by decide) (by decide)
  by_cases q : F 4 s = 1
  · obtain ⟨v, b1, b2, b3, b4⟩ := t s hs q
    dsimp only at b4
    have k1 : (¬ F 18 0 < F 9 s) ↔ v = 0 := by rw [b3, a0]; exact hw_ne b2 hh
    have k2 : E 0 (8 + 10 * s + 8) = 0 ↔ v = 0 := by
      rw [b4, ← nI_0, nI_eq (by omega) (by omega)]
      omega
    by_cases z : v = 0
    · have e1 : llS s F = fs F 4 s 2 := if_pos ⟨q, k1.mpr z⟩
      have e2 : lvS s E = fs E 0 (8 + 10 * s + 4) 2 := if_pos ⟨by rw [r4]; exact q, k2.mpr z⟩
      rw [e1, e2]
      refine ⟨hn, hc, hh, he, hI_how a (by rw [q]; decide) (by rw [q]; decide) (a.2.2.2.2.1 s hs (Or.inr (Or.inl q))) (by decide), a0, al, r.part hn hs 4 2 (by decide) (by decide), t.to (fun s' hs' z' => ?_) (fun _ => rfl) rfl (fun s' hs' => ?_), m.part _ hs (by decide) (by decide) (by decide)⟩
      · rw [fs_at] at z'
        split at z'
        · exact absurd z' (by decide)
        · exact z'
      · rw [fs_at, if_neg (by omega)]
    · have e1 : llS s F = F := if_neg (fun y => z (k1.mp y.2))
      have e2 : lvS s E = E := if_neg (fun y => z (k2.mp y.2))
      rw [e1, e2]
      exact ⟨hn, hc, hh, he, a, a0, al, r, t, m⟩
  · have e1 : llS s F = F := if_neg (fun y => q y.1)
    have e2 : lvS s E = E := if_neg (fun y => q (by rw [← r4]; exact y.1))
    rw [e1, e2]
    exact ⟨hn, hc, hh, he, a, a0, al, r, t, m⟩
theorem sm_leaveN {n c h e : Nat} {F E : hF} (H : sm n c h e (fun _ => 0) F E) : ∀ k, k ≤ n → sm n c h e (fun _ => 0) (itN k llS F) (itN k lvS E)
  | 0, _ => H
  | k + 1, hk => sm_leave (sm_leaveN H k (by omega)) (by omega)
/-- no lorry at the dock is to leave -/
def dk (n : Nat) (F : hF) : Prop := ∀ s, s < n → F 4 s = 1 → F 18 0 < F 9 s
theorem dk_leave (F : hF) : ∀ k, dk k (itN k llS F)
  | 0, s, hs, _ => absurd hs (Nat.not_lt_zero s)
  | k + 1, s, hs, q => by
    have ih := dk_leave F k
    have q' : llS k (itN k llS F) 4 s = 1 := q
    show llS k (itN k llS F) 18 0 < llS k (itN k llS F) 9 s
    generalize itN k llS F = F' at ih q' ⊢
    unfold llS at q' ⊢
    split at q'
    · next y =>
      rw [if_pos y]
      rw [fs_at] at q'
      split at q'
      · exact absurd q' (by decide)
      · next w => exact ih s (by omega) q'
    · next y =>
      rw [if_neg y]
      by_cases w : s = k
      · subst w
        exact Classical.byContradiction fun z => y ⟨q', z⟩
      · exact ih s (by omega) q'
/-! lorries come -/
theorem hmet_come {n : Nat} {F : hF} {s : Nat} (hs : s < n) (q : F 4 s = 0) (v : Int32) : hmet n (fs (fs F 4 s 1) 9 s v) = hmet n F + F 1 s := by
  unfold hmet
  rw [sumN_u (s := s) (f := fun s => if F 4 s = 1 then F 1 s else 0) ?_ n hs]
  · show sumN n _ - (if F 4 s = 1 then F 1 s else 0) + (if fs (fs F 4 s 1) 9 s v 4 s = 1 then F 1 s else 0) = _
    rw [if_neg (by rw [q]; decide), if_pos (by rw [fs_at, if_neg (by omega), fs_same]), Int32.sub_zero]
  · intro i hi
    show (if fs (fs F 4 s 1) 9 s v 4 i = 1 then F 1 i else 0) = _
    have e : fs (fs F 4 s 1) 9 s v 4 i = F 4 i := by rw [fs_at, if_neg (by omega), fs_at, if_neg (by omega)]
    rw [e]
theorem sm_come {n c h e : Nat} : ∀ (d s : Nat) (F E : hF), s + d = n → sm n c h e (fun _ => 0) F E → dk n F → sm n c h e (fun _ => 0) (lcN d s (hmet n F) F) (cmE n d s E) ∧ dk n (lcN d s (hmet n F) F)
  | 0, _, _, _, _, H, D => ⟨H, D⟩
  | d + 1, s, F, E, hd, H, D => by
    have hs : s < n := by omega
    obtain ⟨hn, hc, hh, he, a, a0, al, r, t, m⟩ := id H
    have r4 : E 0 (8 + 10 * s + 4) = F 4 s := r.A hs 4 (by decide) (by decide)
    have r1 : E 0 (8 + 10 * s + 1) = F 1 s := r.A hs 1 (by decide) (by decide)
    have rm := r.met
    have r16 : E 0 0 = F 16 0 := r.2.2.2.1
    have r161 : E 0 1 = F 16 1 := r.2.2.2.2.1
    show sm n c h e _ (if F 4 s = 0 then (if hmet n F + F 1 s ≤ F 16 0 then lcN d (s + 1) (hmet n F + F 1 s) (fs (fs F 4 s 1) 9 s (F 18 0 + F 16 1)) else F) else lcN d (s + 1) (hmet n F) F) (if E 0 (8 + 10 * s + 4) = 0 then (if E 0 0 < metE n E + E 0 (8 + 10 * s + 1) then E else cmE n d (s + 1) (fs (fs E 0 (8 + 10 * s + 4) 1) 0 (8 + 10 * s + 8) (E 0 1))) else cmE n d (s + 1) E) ∧ dk n (if F 4 s = 0 then (if hmet n F + F 1 s ≤ F 16 0 then lcN d (s + 1) (hmet n F + F 1 s) (fs (fs F 4 s 1) 9 s (F 18 0 + F 16 1)) else F) else lcN d (s + 1) (hmet n F) F)
    rw [r4, r1, rm, r16, r161]
    by_cases q : F 4 s = 0
    · rw [if_pos q, if_pos q]
      by_cases w : hmet n F + F 1 s ≤ F 16 0
      · rw [if_pos w, if_neg (fun y => i_lt_le y w), ← hmet_come hs q (F 18 0 + F 16 1)]
        obtain ⟨v, v1, v2, v3⟩ := vB_n a.2.2.2.2.2.2.2.2.2.1 (by decide)
        refine sm_come d (s + 1) _ _ (by omega) ⟨hn, hc, hh, he, ?_, a0, al, ?_, ?_, ?_⟩ ?_
        · exact hI_how a (by rw [q]; decide) (by rw [q]; decide) (a.2.2.2.2.1 s hs (Or.inl q)) (by decide)
        · exact ((r.part hn hs 4 1 (by decide) (by decide)).stays hn hs _).congr fun j i h9 h17 => by rw [fs_ne _ _ _ h9]; rfl
        · intro s' hs' q'
          by_cases e : s' = s
          · subst e
            refine ⟨v, Nat.zero_le v, by omega, ?_, ?_⟩
            · rw [fs_same, v1]; rfl
            · rw [fs_same, v1]; rfl
          · have q2 : F 4 s' = 1 := by
              rw [fs_at, if_neg (by omega), fs_at, if_neg (by omega)] at q'
              exact q'
            obtain ⟨v', b1, b2, b3, b4⟩ := t s' hs' q2
            refine ⟨v', b1, b2, ?_, ?_⟩
            · rw [fs_at, if_neg (by omega)]; exact b3
            · rw [fs_at, if_neg (by omega), fs_at, if_neg (by omega)]; exact b4
        · exact (m.part _ hs (by decide) (by decide) (by decide)).part _ hs (by decide) (by decide) (by decide)
        · intro s' hs' q'
          by_cases e : s' = s
          · subst e
            show F 18 0 < _
            rw [fs_same, a0, v1, nI_add]
            exact nI_lt (by omega) (by omega)
          · rw [fs_at, if_neg (by omega), fs_at, if_neg (by omega)] at q'
            show F 18 0 < _
            rw [fs_at, if_neg (by omega)]
            exact D s' hs' q'
      · rw [if_neg w, if_pos (Int32.not_le.mp w)]
        exact ⟨H, D⟩
    · rw [if_neg q, if_neg q]
      exact sm_come d (s + 1) F E (by omega) H D
theorem sm_stay {n c h e : Nat} {F E : hF} (H : sm n c h e (fun _ => 0) F E) (D : dk n F) : ∀ k, k ≤ n → sm n c h e (fun s => if s < k then 1 else 0) F (itN k tkS E)
  | 0, _ => by
    obtain ⟨hn, hc, hh, he, a, a0, al, r, t, m⟩ := H
    refine ⟨hn, hc, hh, he, a, a0, al, r, fun s hs q => ?_, m⟩
    dsimp only
    rw [if_neg (Nat.not_lt_zero s)]
    exact t s hs q
  | k + 1, hk => by
    obtain ⟨hn, hc, hh, he, a, a0, al, r, t, m⟩ := sm_stay H D k (by omega)
    show sm n c h e _ F (tkS k (itN k tkS E))
    generalize itN k tkS E = E' at r t m ⊢
    have r4 : E' 0 (8 + 10 * k + 4) = F 4 k := r.A (by omega) 4 (by decide) (by decide)
    by_cases q : F 4 k = 1
    · have e2 : tkS k E' = fs E' 0 (8 + 10 * k + 8) (E' 0 (8 + 10 * k + 8) - 1) := if_pos (by rw [r4]; exact q)
      rw [e2]
      refine ⟨hn, hc, hh, he, a, a0, al, r.stays hn (by omega) _, fun s hs q' => ?_, m.part _ (by omega) (by decide) (by decide) (by decide)⟩
      obtain ⟨v, b1, b2, b3, b4⟩ := t s hs q'
      dsimp only at b1 b4 ⊢
      have hlt := D s hs q'
      rw [b3, a0, nI_add, nI_ltI (by omega) (by omega)] at hlt
      by_cases e : s = k
      · subst e
        refine ⟨v, by rw [if_pos (Nat.lt_succ_self s)]; omega, b2, b3, ?_⟩
        rw [if_neg (Nat.lt_irrefl s)] at b4
        rw [fs_same, b4, if_pos (Nat.lt_succ_self s), show v - 0 = (v - 1) + 1 by omega, nI_pred]
      · refine ⟨v, by split <;> omega, b2, b3, ?_⟩
        rw [fs_at, if_neg (by omega), b4]
        by_cases w : s < k
        · rw [if_pos w, if_pos (by omega)]
        · rw [if_neg w, if_neg (by omega)]
    · have e2 : tkS k E' = E' := if_neg (by rw [r4]; exact q)
      rw [e2]
      refine ⟨hn, hc, hh, he, a, a0, al, r, fun s hs q' => ?_, m⟩
      have e : s ≠ k := fun e => q (by rw [← e]; exact q')
      obtain ⟨v, b1, b2, b3, b4⟩ := t s hs q'
      dsimp only at b1 b4 ⊢
      have hlt := D s hs q'
      rw [b3, a0, nI_add, nI_ltI (by omega) (by omega)] at hlt
      refine ⟨v, by split <;> omega, b2, b3, ?_⟩
      rw [b4]
      by_cases w : s < k
      · rw [if_pos w, if_pos (by omega)]
      · rw [if_neg w, if_neg (by omega)]
/-- the lorries' part of an hour -/
def loH (n : Nat) (F : hF) : hF := lcN n 0 (hmet n (itN n llS F)) (itN n llS F)
theorem sm_lor {n c h e : Nat} {F E : hF} (H : sm n c h e (fun _ => 0) F E) : sm n c h e (fun _ => 1) (loH n F) (lorE n E) ∧ dk n (loH n F) := by
  obtain ⟨g1, g2⟩ := sm_come n 0 _ _ (by omega) (sm_leaveN H n (Nat.le_refl n)) (dk_leave F n)
  obtain ⟨hn, hc, hh, he, a, a0, al, r, t, m⟩ := sm_stay g1 g2 n (Nat.le_refl n)
  refine ⟨⟨hn, hc, hh, he, a, a0, al, r, fun s hs q => ?_, m⟩, g2⟩
  obtain ⟨v, b1, b2, b3, b4⟩ := t s hs q
  dsimp only at b1 b4
  rw [if_pos hs] at b1 b4
  exact ⟨v, b1, b2, b3, b4⟩
