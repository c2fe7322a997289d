/-! crews take stands -/
theorem hloa_u {n : Nat} {F F' : hF} {s : Nat} (hs : s < n) {v : Int32} (h6 : ∀ i, F' 6 i = if i = s then v else F 6 i) (h2 : ∀ i, F' 2 i = F 2 i) (x : Int32) : hloa n F' x = hloa n F x - (if F 6 s = x then F 2 s else 0) + (if v = x then F 2 s else 0) := by
  unfold hloa
  rw [sumN_u (s := s) (f := fun s => if F 6 s = x then F 2 s else 0) ?_ n hs]
  · show sumN n _ - (if F 6 s = x then F 2 s else 0) + (if F' 6 s = x then F' 2 s else 0) = _
    rw [h6, if_pos rfl, h2]
  · intro i hi
    show (if F' 6 i = x then F' 2 i else 0) = _
    rw [h6, if_neg hi, h2]
theorem hloa_c {n : Nat} {F F' : hF} (h6 : ∀ i, F' 6 i = F 6 i) (h2 : ∀ i, F' 2 i = F 2 i) (x : Int32) : hloa n F' x = hloa n F x :=
  sumN_c n fun s _ => by rw [h6, h2]
theorem ne6 {p : Nat} (hp : p < 3) : ¬ (-6 : Int32) = nI p := fun e => nI_ne6 (by omega) e.symm
/-- a phase taken off -/
theorem toP_at {F : hF} {s : Nat} (a4 : F 6 s = -6 ∨ F 6 s = 0 ∨ F 6 s = 1 ∨ F 6 s = 2) (j i : Nat) : toP F s j i = if j = 6 ∧ i = s then -6 else if j = 17 ∧ (i < 3 ∧ F 6 s = nI i) then F 17 i - F 2 s else F j i := by
  rcases a4 with q | q | q | q
  · have e : toP F s = F := if_pos (by rw [q]; decide)
    rw [e]
    split
    · next y => rw [y.1, y.2, q]
    · rw [if_neg (fun y => ne6 y.2.1 (by rw [← q]; exact y.2.2))]
  all_goals
    have e : toP F s = fs (fs F 17 (F 6 s).toNatClampNeg (F 17 (F 6 s).toNatClampNeg - F 2 s)) 6 s (-6) := by
      unfold toP
      rw [if_neg (by rw [q]; decide), if_pos (by rw [q]; decide)]
    rw [e, fs_at, q]
    split
    · rfl
    · rw [fs_at]
      split
      · next y =>
        rw [y.2, y.1, if_pos ⟨rfl, by decide, by decide⟩]
      · next y =>
        rw [if_neg (fun z => y ⟨z.1, ?_⟩)]
        have z2 := z.2.2
        have z1 := z.2.1
        rcases (show i = 0 ∨ i = 1 ∨ i = 2 by omega) with rfl | rfl | rfl <;> first | rfl | exact absurd z2 (by decide)
theorem btD_at {F : hF} {s : Nat} (a4 : F 6 s = -6 ∨ F 6 s = 0 ∨ F 6 s = 1 ∨ F 6 s = 2) (k : Nat) (j i : Nat) : btD (fs (fs F 12 k (nI s)) 7 s (nI k)) s j i = if j = 5 ∧ i = s then (F 0 s + 1) / 2 else if j = 4 ∧ i = s then 5 else if j = 6 ∧ i = s then -6 else if j = 17 ∧ (i < 3 ∧ F 6 s = nI i) then F 17 i - F 2 s else if j = 7 ∧ i = s then nI k else if j = 12 ∧ i = k then nI s else F j i := by
  unfold btD
  have h := fun j i => toP_at (F := fs (fs F 12 k (nI s)) 7 s (nI k)) (s := s) a4 j i
  have h0 : toP (fs (fs F 12 k (nI s)) 7 s (nI k)) s 0 s = F 0 s := by
    rw [h, if_neg (by omega), if_neg (by omega)]
    rfl
  rw [h0, fs_at, fs_at, h]
  show (if j = 5 ∧ i = s then _ else if j = 4 ∧ i = s then _ else if j = 6 ∧ i = s then _ else if j = 17 ∧ (i < 3 ∧ F 6 s = nI i) then F 17 i - F 2 s else fs (fs F 12 k (nI s)) 7 s (nI k) j i) = _
  rw [fs_at, fs_at]
theorem hI_take0 {n c : Nat} {F : hF} (h : hI n c F) {s j : Nat} (hs : s < n) (z : F 18 1 = 0) (q : F 4 s = 2) : hI n c (fs (fs (fs F 12 j (nI s)) 7 s (nI j)) 4 s 3) := by
  obtain ⟨a1, a2, a3, a4, a5, a6, a7, a8, a9, a10, a11, a12, a13⟩ := h
  refine ⟨a1, fun t ht => ?_, a3, a4, fun t ht w => ?_, a6, fun k hk => ?_, a8, a9, a10, a11, a12, a13⟩
  · rw [fs_at]
    split
    · decide
    · exact a2 t ht
  · show F 6 t = -6
    by_cases e : t = s
    · rw [e]; exact a5 s hs (Or.inr (Or.inr (Or.inl q)))
    · refine a5 t ht ?_
      rw [fs_at, if_neg (by omega)] at w
      exact w
  · show fs F 12 j (nI s) 12 k = -6 ∨ ∃ t, t < n ∧ fs F 12 j (nI s) 12 k = nI t ∧ fs (fs F 12 j (nI s)) 7 s (nI j) 7 t = nI k ∧ fs (fs (fs F 12 j (nI s)) 7 s (nI j)) 4 s 3 4 t = if F 18 1 = 1 then 5 else 3
    rw [if_neg (by rw [z]; decide)]
    by_cases e : k = j
    · subst e
      exact Or.inr ⟨s, hs, fs_same _ _ _ _, fs_same _ _ _ _, fs_same _ _ _ _⟩
    · rw [fs_at, if_neg (by omega)]
      rcases a7 k hk with y | ⟨t, ht, q1, q2, q3⟩
      · exact Or.inl y
      · rw [if_neg (by rw [z]; decide)] at q3
        have e2 : t ≠ s := fun e => by rw [e, q] at q3; exact absurd q3 (by decide)
        refine Or.inr ⟨t, ht, q1, ?_, ?_⟩
        · rw [fs_at, if_neg (by omega)]; exact q2
        · rw [fs_at, if_neg (by omega)]; exact q3
theorem half_vB {x : Int32} (h : vB x 1 99) : vB ((x + 1) / 2) 0 99 := by
  obtain ⟨v, v1, v2, v3⟩ := vB_n h (by decide)
  rw [v1, nI_1, show (2 : Int32) = nI 2 from rfl, pk_div (by omega) (by decide) (by decide)]
  exact vB_of (by omega) (by omega) (by omega)
theorem hI_take1 {n c : Nat} {F : hF} (h : hI n c F) {s j : Nat} (hs : s < n) (z : F 18 1 = 1) (q : F 4 s = 4) : hI n c (btD (fs (fs F 12 j (nI s)) 7 s (nI j)) s) := by
  obtain ⟨a1, a2, a3, a4, a5, a6, a7, a8, a9, a10, a11, a12, a13⟩ := h
  have hp := btD_at (k := j) (a4 s hs)
  generalize btD (fs (fs F 12 j (nI s)) 7 s (nI j)) s = F' at hp
  have r0 : ∀ i, F' 0 i = F 0 i := fun i => by simp [hp]
  have r2 : ∀ i, F' 2 i = F 2 i := fun i => by simp [hp]
  have r3 : ∀ i, F' 3 i = F 3 i := fun i => by simp [hp]
  have r4 : ∀ i, F' 4 i = if i = s then 5 else F 4 i := fun i => by simp [hp]
  have r5 : ∀ i, F' 5 i = if i = s then (F 0 s + 1) / 2 else F 5 i := fun i => by simp [hp]
  have r6 : ∀ i, F' 6 i = if i = s then -6 else F 6 i := fun i => by simp [hp]
  have r7 : ∀ i, F' 7 i = if i = s then nI j else F 7 i := fun i => by simp [hp]
  have r10 : ∀ i, F' 10 i = F 10 i := fun i => by simp [hp]
  have r12 : ∀ i, F' 12 i = if i = j then nI s else F 12 i := fun i => by simp [hp]
  have r16 : ∀ i, F' 16 i = F 16 i := fun i => by simp [hp]
  have r17 : ∀ i, F' 17 i = if i < 3 ∧ F 6 s = nI i then F 17 i - F 2 s else F 17 i := fun i => by simp [hp]
  have r18 : ∀ i, F' 18 i = F 18 i := fun i => by simp [hp]
  refine ⟨fun t ht => by rw [r0]; exact a1 t ht, fun t ht => ?_, fun t ht => ?_, fun t ht => ?_, fun t ht w => ?_, fun k hk => by rw [r10]; exact a6 k hk, fun k hk => ?_, by rw [r18]; exact a8, by rw [r16]; exact a9, by rw [r16]; exact a10, by rw [r16]; exact a11, fun p hp3 => ?_, fun t ht => by rw [r3]; exact a13 t ht⟩
  · rw [r4]
    split
    · decide
    · exact a2 t ht
  · rw [r5]
    split
    · exact half_vB (a1 s hs)
    · exact a3 t ht
  · rw [r6]
    split
    · exact Or.inl rfl
    · exact a4 t ht
  · rw [r6]
    split
    · rfl
    · next e =>
      rw [r4, if_neg e] at w
      exact a5 t ht w
  · rw [r12, r18, if_pos z]
    by_cases e : k = j
    · subst e
      exact Or.inr ⟨s, hs, if_pos rfl, by rw [r7, if_pos rfl], by rw [r4, if_pos rfl]⟩
    · rw [if_neg e]
      rcases a7 k hk with y | ⟨t, ht, q1, q2, q3⟩
      · exact Or.inl y
      · rw [if_pos z] at q3
        have e2 : t ≠ s := fun e => by rw [e, q] at q3; exact absurd q3 (by decide)
        exact Or.inr ⟨t, ht, q1, by rw [r7, if_neg e2]; exact q2, by rw [r4, if_neg e2]; exact q3⟩
  · rw [r17, hloa_u hs r6 r2, if_neg (ne6 hp3), Int32.add_zero, ← a12 p hp3]
    by_cases e : F 6 s = nI p
    · rw [if_pos ⟨hp3, e⟩, if_pos e]
    · rw [if_neg (fun y => e y.2), if_neg e, Int32.sub_zero]
/-- the stand that is next, in both -/
theorem hasB_eq {n c : Nat} {F E : hF} (a : hI n c F) (r : rl n c F E) (hn : n ≤ 20) {s : Nat} (hs : s < n) : hasB E s ↔ hbb n F (nI s) := by
  have r3 : E 0 (8 + 10 * s + 3) = F 3 s := r.A hs 3 (by decide) (by decide)
  show (E 0 (8 + 10 * s + 3) = -6 ∨ E 0 (8 + 10 * (E 0 (8 + 10 * s + 3)).toNatClampNeg + 4) = 4) ↔ hhas n (nI s) ∧ (¬ hhas n (F 3 (nI s).toNatClampNeg) ∨ F 4 (F 3 (nI s).toNatClampNeg).toNatClampNeg = 4)
  rw [r3, nI_clamp (by omega)]
  rcases a.2.2.2.2.2.2.2.2.2.2.2.2 s hs with q | ⟨b, hb, q⟩
  · rw [q]
    refine ⟨fun _ => ⟨has_nI (by omega) hs, Or.inl (fun y => absurd y.1 (fun w => w (by decide)))⟩, fun _ => Or.inl rfl⟩
  · rw [q, nI_clamp (by omega), r.A hb 4 (by decide) (by decide)]
    show (nI b = -6 ∨ F 4 b = 4) ↔ _
    constructor
    · rintro (y | y)
      · exact absurd y (nI_ne6 (by omega))
      · exact ⟨has_nI (by omega) hs, Or.inr y⟩
    · rintro ⟨_, y | y⟩
      · exact absurd (has_nI (by omega) hb) y
      · exact Or.inr y
theorem nx_eq {n c : Nat} {F E : hF} (a : hI n c F) (r : rl n c F E) (hn : n ≤ 20) : nxE n E = nxH n F := by
  have r6 : E 0 6 = F 18 1 := r.2.2.2.2.2.2.2.1
  rcases a.2.2.2.2.2.2.2.1 with z | z
  · have e : ∀ k, k ≤ n → itN k (nxS n E) (-6) = nbN n F k (n - k) := by
      intro k
      induction k with
      | zero => intro _; rfl
      | succ k ih =>
        intro hk
        have hs : n - 1 - k < n := by omega
        show nxS n E k (itN k (nxS n E) (-6)) = if F 4 (n - (k + 1)) = 2 ∧ hbb n F (nI (n - (k + 1))) then nI (n - (k + 1)) else nbN n F k (n - (k + 1) + 1)
        rw [ih (by omega)]
        unfold nxS
        rw [r6, if_neg (by rw [z]; decide), show n - (k + 1) + 1 = n - k by omega, show n - (k + 1) = n - 1 - k by omega]
        refine ifc ?_
        rw [r.A hs 4 (by decide) (by decide), hasB_eq a r hn hs]
        rfl
    have e2 := e n (Nat.le_refl n)
    rw [Nat.sub_self] at e2
    show itN n (nxS n E) (-6) = if F 18 1 = 0 then nbN n F n 0 else ndN n F n
    rw [if_pos z]
    exact e2
  · have e : ∀ k, k ≤ n → itN k (nxS n E) (-6) = ndN n F k := by
      intro k
      induction k with
      | zero => intro _; rfl
      | succ k ih =>
        intro hk
        show nxS n E k (itN k (nxS n E) (-6)) = if F 4 k = 4 ∧ hsto n F (nI k) = 0 then nI k else ndN n F k
        rw [ih (by omega)]
        unfold nxS
        rw [r6, if_pos z, r.A (by omega) 4 (by decide) (by decide), r.sto]
        rfl
    show itN n (nxS n E) (-6) = if F 18 1 = 0 then nbN n F n 0 else ndN n F n
    rw [if_neg (by rw [z]; decide)]
    exact e n (Nat.le_refl n)
theorem nbN_of {n : Nat} {F : hF} : ∀ d s, s + d ≤ n → nbN n F d s = -6 ∨ ∃ t, t < n ∧ nbN n F d s = nI t ∧ F 4 t = 2 ∧ hbb n F (nI t)
  | 0, _, _ => Or.inl rfl
  | d + 1, s, h => by
    unfold nbN
    split
    · next q => exact Or.inr ⟨s, by omega, rfl, q.1, q.2⟩
    · exact nbN_of d (s + 1) (by omega)
theorem ndN_of {n : Nat} {F : hF} : ∀ k, k ≤ n → ndN n F k = -6 ∨ ∃ t, t < n ∧ ndN n F k = nI t ∧ F 4 t = 4 ∧ hsto n F (nI t) = 0
  | 0, _ => Or.inl rfl
  | k + 1, h => by
    unfold ndN
    split
    · next q => exact Or.inr ⟨k, by omega, rfl, q.1, q.2⟩
    · exact ndN_of k (by omega)
theorem nxH_of {n : Nat} {F : hF} (a8 : F 18 1 = 0 ∨ F 18 1 = 1) : nxH n F = -6 ∨ ∃ t, t < n ∧ nxH n F = nI t ∧ F 4 t = (if F 18 1 = 1 then 4 else 2) := by
  unfold nxH
  rcases a8 with z | z
  · rw [if_pos z]
    rcases nbN_of (n := n) (F := F) n 0 (by omega) with q | ⟨t, h1, h2, h3, _⟩
    · exact Or.inl q
    · exact Or.inr ⟨t, h1, h2, by rw [if_neg (by rw [z]; decide)]; exact h3⟩
  · rw [if_neg (by rw [z]; decide)]
    rcases ndN_of (n := n) (F := F) n (Nat.le_refl n) with q | ⟨t, h1, h2, h3, _⟩
    · exact Or.inl q
    · exact Or.inr ⟨t, h1, h2, by rw [if_pos z]; exact h3⟩
theorem has_6 {n : Nat} : ¬ hhas n (-6) := fun h => h.1 (by decide)
theorem sm_take {n c h e : Nat} {t : Nat → Nat} {F E : hF} (H : sm n c h e t F E) {s j : Nat} (hs : s < n) (hj : j < c) (q : F 4 s = (if F 18 1 = 1 then 4 else 2)) : sm n c h e t (tkH F j s) (taE E j s) := by
  obtain ⟨hn, hc, hh, he, a, a0, al, r, w, m⟩ := H
  have r6 : E 0 6 = F 18 1 := r.2.2.2.2.2.2.2.1
  have hm := mtaE m hj hs
  rcases a.2.2.2.2.2.2.2.1 with z | z
  · have e1 : tkH F j s = fs (fs (fs F 12 j (nI s)) 7 s (nI j)) 4 s 3 := if_pos z
    have e2 : taE E j s = fs (fs (fs E 0 (208 + 7 * j + 2) (nI s)) 0 (8 + 10 * s + 7) (nI j)) 0 (8 + 10 * s + 4) 3 := if_neg (by rw [r6, z]; decide)
    rw [if_neg (by rw [z]; decide)] at q
    rw [e2] at hm
    rw [e1, e2]
    refine ⟨hn, hc, hh, he, hI_take0 a hs z q, a0, al, ((r.crew hn 2 (nI s) (by decide) (by decide) (by decide) (by decide)).part hn hs 7 (nI j) (by decide) (by decide)).part hn hs 4 3 (by decide) (by decide), w.to (fun s' _ y => ?_) (fun _ => rfl) rfl (fun s' _ => ?_), hm⟩
    · rw [fs_at] at y
      split at y
      · exact absurd y (by decide)
      · exact y
    · rw [fs_at, if_neg (by omega), fs_at, if_neg (by omega), fs_at, if_neg (by omega)]
  · have e1 : tkH F j s = btD (fs (fs F 12 j (nI s)) 7 s (nI j)) s := if_neg (by rw [z]; decide)
    have e2 : taE E j s = fs (fs (fs (fs (fs E 0 (208 + 7 * j + 2) (nI s)) 0 (8 + 10 * s + 7) (nI j)) 0 (8 + 10 * s + 4) 5) 0 (8 + 10 * s + 5) ((E 0 (8 + 10 * s + 0) + 1) / 2)) 0 (8 + 10 * s + 6) (-6) := if_pos (by rw [r6]; exact z)
    rw [if_pos z] at q
    rw [e2] at hm
    rw [e1, e2]
    have r0 : E 0 (8 + 10 * s + 0) = F 0 s := r.A hs 0 (by decide) (by decide)
    have hp := btD_at (k := j) (a.2.2.2.1 s hs)
    refine ⟨hn, hc, hh, he, hI_take1 a hs z q, ?_, ?_, ?_, w.to (fun s' _ y => ?_) (fun i => ?_) ?_ (fun s' _ => ?_), hm⟩
    · rw [hp]; simp; exact a0
    · rw [hp]; simp; exact al
    · refine ((((((r.crew hn 2 (nI s) (by decide) (by decide) (by decide) (by decide)).part hn hs 7 (nI j) (by decide) (by decide)).part hn hs 4 5 (by decide) (by decide)).part hn hs 5 ((E 0 (8 + 10 * s + 0) + 1) / 2) (by decide) (by decide)).part hn hs 6 (-6) (by decide) (by decide))).congr fun j' i h9 h17 => ?_
      rw [hp, r0, fs_at, fs_at, fs_at, fs_at, fs_at]
      show _ = if j' = 6 ∧ i = s then -6 else if j' = 5 ∧ i = s then (F 0 s + 1) / 2 else if j' = 4 ∧ i = s then 5 else if j' = 7 ∧ i = s then nI j else if j' = 12 ∧ i = j then nI s else F j' i
      repeat' split
      all_goals first | rfl | omega
    · rw [hp] at y
      simp at y
      split at y
      · exact absurd y (by decide)
      · exact y
    · rw [hp]; simp
    · rw [hp]; simp
    · rw [fs_at, if_neg (by omega), fs_at, if_neg (by omega), fs_at, if_neg (by omega), fs_at, if_neg (by omega), fs_at, if_neg (by omega)]
theorem c1_stop {n : Nat} {E : hF} (q : nxE n E = -6) (k : Nat) : c1S n k E = E := by
  unfold c1S
  split
  · rfl
  · rfl
theorem itN_plus {α : Type} (f : Nat → α → α) (a : α) (j : Nat) : ∀ d, (∀ k, j ≤ k → f k (itN j f a) = itN j f a) → itN (j + d) f a = itN j f a
  | 0, _ => rfl
  | d + 1, h => by
    show f (j + d) (itN (j + d) f a) = itN j f a
    rw [itN_plus f a j d h]
    exact h (j + d) (by omega)
theorem sm_takes {n c h e : Nat} {t : Nat → Nat} {E0 : hF} : ∀ (d j : Nat) (F : hF), j + d = c → sm n c h e t F (itN j (c1S n) E0) → sm n c h e t (ctN n d j F) (itN c (c1S n) E0)
  | 0, j, F, hd, H => by
    have e : j = c := by omega
    subst e
    exact H
  | d + 1, j, F, hd, H => by
    have hj : j < c := by omega
    obtain ⟨hn, hc, hh, he, a, a0, al, r, w, m⟩ := id H
    have r2 : itN j (c1S n) E0 0 (208 + 7 * j + 2) = F 12 j := r.B hj 2 (by decide) (by decide)
    have hx := nx_eq a r hn
    have step : itN (j + 1) (c1S n) E0 = c1S n j (itN j (c1S n) E0) := rfl
    have hs : c1S n j (itN j (c1S n) E0) = if F 12 j = -6 then (if nxH n F = -6 then itN j (c1S n) E0 else taE (itN j (c1S n) E0) j (nxH n F).toNatClampNeg) else itN j (c1S n) E0 := by
      have g : ∀ E' : hF, E' 0 (208 + 7 * j + 2) = F 12 j → nxE n E' = nxH n F → c1S n j E' = if F 12 j = -6 then (if nxH n F = -6 then E' else taE E' j (nxH n F).toNatClampNeg) else E' := fun E' h1 h2 => by
        unfold c1S
        rw [h1, h2]
      exact g _ r2 hx
    show sm n c h e t (if F 12 j = -6 then (if hhas n (nxH n F) then ctN n d (j + 1) (tkH F j (nxH n F).toNatClampNeg) else F) else ctN n d (j + 1) F) _
    by_cases q : F 12 j = -6
    · rw [if_pos q]
      rcases nxH_of (n := n) a.2.2.2.2.2.2.2.1 with y | ⟨s, h1, h2, h3⟩
      · rw [if_neg (by rw [y]; exact has_6)]
        have e : itN c (c1S n) E0 = itN j (c1S n) E0 := by
          rw [← hd]
          exact itN_plus _ _ j (d + 1) (fun k _ => c1_stop (by rw [hx]; exact y) k)
        rw [e]
        exact H
      · rw [if_pos (by rw [h2]; exact has_nI (by omega) h1)]
        refine sm_takes d (j + 1) _ (by omega) ?_
        rw [step, hs, if_pos q, if_neg (by rw [h2]; exact nI_ne6 (by omega)), h2, nI_clamp (by omega)]
        exact sm_take H h1 hj h3
    · rw [if_neg q]
      refine sm_takes d (j + 1) F (by omega) ?_
      rw [step, hs, if_neg q]
      exact H
