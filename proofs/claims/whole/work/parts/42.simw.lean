/-! crews work -/
theorem mx0_vB {x y : Int32} (hx : vB x 0 99) (hy : vB y 0 9000) : vB (mx0 (x - y)) 0 99 ∧ (mx0 (x - y)).toInt = max 0 (x.toInt - y.toInt) := by
  obtain ⟨a, a1, a2, a3⟩ := vB_n hx (by decide)
  obtain ⟨b, b1, b2, b3⟩ := vB_n hy (by decide)
  have e : (x - y).toInt = x.toInt - y.toInt := by
    rw [a1, b1, pk_sub_toInt (by omega) (by omega), nI_toInt (by omega), nI_toInt (by omega)]
  have ex : x.toInt = a := by rw [a1]; exact nI_toInt (by omega)
  have ey : y.toInt = b := by rw [b1]; exact nI_toInt (by omega)
  unfold mx0
  split
  · next q =>
    rw [Int32.lt_iff_toInt_lt, Int32.toInt_zero, e] at q
    unfold vB
    rw [e]
    omega
  · next q =>
    rw [Int32.lt_iff_toInt_lt, Int32.toInt_zero, e] at q
    unfold vB
    rw [Int32.toInt_zero]
    omega
theorem cwA_at (F : hF) (x : Int32) (k s j i : Nat) : cwA F x k s j i = if j = 5 ∧ i = s then mx0 (F 5 s - x * F 10 k) else if j = 8 ∧ i = s then F 8 s + x else if j = 13 ∧ i = k then F 13 k + x else F j i := by
  unfold cwA
  rw [fs_at, fs_at, fs_at]
theorem cwA_row {F : hF} {x : Int32} {k s j : Nat} (h5 : j ≠ 5) (h8 : j ≠ 8) (h13 : j ≠ 13) : cwA F x k s j = F j := by
  unfold cwA
  rw [fs_ne _ _ _ h5, fs_ne _ _ _ h8, fs_ne _ _ _ h13]
theorem mul_vB {m : Nat} (hm : m ≤ 1000) {y : Int32} (hy : vB y 1 9) : vB (nI m * y) 0 9000 ∧ (nI m * y).toInt = m * y.toInt := by
  obtain ⟨b, b1, b2, b3⟩ := vB_n hy (by decide)
  have hb : b ≤ 9 := by omega
  have h1 : m * b ≤ 1000 * 9 := Nat.mul_le_mul hm hb
  rw [b1, pk_mul]
  refine ⟨vB_of (by omega) (by omega) (by omega), ?_⟩
  rw [nI_toInt (by omega), nI_toInt (by omega)]
  exact Int.natCast_mul m b
theorem hI_cwA {n c : Nat} {F : hF} (h : hI n c F) {s k m : Nat} (hk : k < c) (hs : s < n) (hm : m ≤ 1000) : hI n c (cwA F (nI m) k s) := by
  obtain ⟨a1, a2, a3, a4, a5, a6, a7, a8, a9, a10, a11, a12, a13⟩ := h
  refine ⟨a1, a2, fun t ht => ?_, a4, a5, a6, a7, a8, a9, a10, a11, a12, a13⟩
  rw [cwA_at]
  split
  · exact (mx0_vB (a3 s hs) (mul_vB hm (a6 k hk)).1).1
  · rw [if_neg (by omega), if_neg (by omega)]
    exact a3 t ht
/-- a crew works an hour without finishing, in both -/
theorem woL_eq {n c : Nat} {F E : hF} (a : hI n c F) (r : rl n c F E) {s k : Nat} (hs : s < n) (hk : k < c) : (woL E k s ≤ 0 ↔ mx0 (F 5 s - 1 * F 10 k) ≤ 0) ∧ (if woL E k s ≤ 0 then 0 else woL E k s) = mx0 (F 5 s - 1 * F 10 k) := by
  have e : woL E k s = F 5 s - 1 * F 10 k := by
    unfold woL
    rw [r.A hs 5 (by decide) (by decide), r.B hk 0 (by decide) (by decide), Int32.one_mul]
    rfl
  rw [e]
  generalize F 5 s - 1 * F 10 k = z
  unfold mx0
  by_cases q : z ≤ 0
  · rw [if_pos q, if_neg (fun y => i_lt_le y q)]
    exact ⟨⟨fun _ => by decide, fun _ => q⟩, rfl⟩
  · rw [if_neg q, if_pos (Int32.not_le.mp q)]
    exact ⟨Iff.rfl, rfl⟩
theorem sm_work {n c h e : Nat} {t : Nat → Nat} {F E : hF} (H : sm n c h e t F E) {s k : Nat} (hs : s < n) (hk : k < c) {x : Int32} (hx : x = mx0 (F 5 s - 1 * F 10 k)) : sm n c h e t (cwA F 1 k s) (woA E k s x) := by
  obtain ⟨hn, hc, hh, he, a, a0, al, r, w, m⟩ := H
  have hm := mwoA (k := k) m x hs
  have hI1 := hI_cwA a (m := 1) hk hs (by decide)
  unfold woA at hm ⊢
  have e9 : E 0 (8 + 10 * s + 9) = F 8 s := r.A hs 9 (by decide) (by decide)
  have g := ((r.part hn hs 5 x (by decide) (by decide)).part hn hs 9 (F 8 s + 1) (by decide) (by decide)).wk hn hk
  rw [show ∀ v w, (fs (fs E 0 (8 + 10 * s + 5) v) 0 (8 + 10 * s + 9) w) 0 (208 + 7 * k + 3) = E 0 (208 + 7 * k + 3) from fun v w => by rw [fs_at, if_neg (by omega), fs_at, if_neg (by omega)],
    show ∀ v w, (fs (fs E 0 (8 + 10 * s + 5) v) 0 (8 + 10 * s + 9) w) 0 (208 + 7 * k + 4) = E 0 (208 + 7 * k + 4) from fun v w => by rw [fs_at, if_neg (by omega), fs_at, if_neg (by omega)],
    show ∀ v w, (fs (fs E 0 (8 + 10 * s + 5) v) 0 (8 + 10 * s + 9) w) 0 (208 + 7 * k + 1) = E 0 (208 + 7 * k + 1) from fun v w => by rw [fs_at, if_neg (by omega), fs_at, if_neg (by omega)]] at g
  refine ⟨hn, hc, hh, he, hI1, a0, al, ?_, w.to (fun s' _ y => y) (fun i => ?_) ?_ (fun s' _ => ?_), hm⟩
  · rw [e9]
    refine g.congr fun j i h9 h17 => ?_
    show cwA F 1 k s j i = fs (fs (fs F 5 s x) 8 s (F 8 s + 1)) 13 k (F 13 k + 1) j i
    rw [cwA_at, fs_at, fs_at, fs_at, ← hx]
    repeat' split
    all_goals first | rfl | omega
  · rw [cwA_row (by decide) (by decide) (by decide)]
  · rw [cwA_row (by decide) (by decide) (by decide)]
  · rw [fs_at, if_neg (by omega), fs_at, if_neg (by omega), fs_at, if_neg (by omega), fs_at, if_neg (by omega)]
/-! a stand is done -/
/-- the phase that takes a stand -/
def phV (F : hF) (s : Nat) : Int32 := if F 17 (phL F) + F 2 s ≤ F 16 2 then nI (phL F) else -6
theorem phL_lt (F : hF) : phL F < 3 := by
  unfold phL
  by_cases q : F 17 0 ≤ F 17 1
  · rw [if_pos q]
    split <;> omega
  · rw [if_neg q]
    split <;> omega
theorem phV_or (F : hF) (s : Nat) : phV F s = -6 ∨ phV F s = 0 ∨ phV F s = 1 ∨ phV F s = 2 := by
  unfold phV
  split
  · have h := phL_lt F
    rcases (show phL F = 0 ∨ phL F = 1 ∨ phL F = 2 by omega) with e | e | e <;> rw [e]
    · exact Or.inr (Or.inl rfl)
    · exact Or.inr (Or.inr (Or.inl rfl))
    · exact Or.inr (Or.inr (Or.inr rfl))
  · exact Or.inl rfl
theorem poP_at {F : hF} {s : Nat} (a4 : F 6 s = -6) (j i : Nat) : poP F s j i = if j = 6 ∧ i = s then phV F s else if j = 17 ∧ (i < 3 ∧ phV F s = nI i) then F 17 i + F 2 s else F j i := by
  unfold poP phV
  by_cases q : F 17 (phL F) + F 2 s ≤ F 16 2
  · rw [if_pos q, if_pos q, fs_at]
    have h := phL_lt F
    split
    · rfl
    · rw [fs_at]
      split
      · next y =>
        rw [if_pos ⟨y.1, by omega, by rw [y.2]⟩, y.2]
      · next y =>
        rw [if_neg (fun z => y ⟨z.1, (nI_inj6 (by omega) (by omega) z.2.2).symm⟩)]
  · rw [if_neg q, if_neg q]
    split
    · next y => rw [y.1, y.2, a4]
    · rw [if_neg (fun z => ne6 z.2.1 z.2.2)]
/-- built -/
def fiC (F : hF) (k s : Nat) : hF := fs (fs (fs (fs F 12 k (-6)) 7 s (-6)) 4 s 4) 14 k (F 14 k + 1)
theorem fiC_phV (F : hF) (k s : Nat) : phV (fiC F k s) s = phV F s := rfl
theorem fi3_at {F : hF} {k s : Nat} (a4 : F 6 s = -6) (j i : Nat) : poP (fiC F k s) s j i = if j = 6 ∧ i = s then phV F s else if j = 17 ∧ (i < 3 ∧ phV F s = nI i) then F 17 i + F 2 s else if j = 14 ∧ i = k then F 14 k + 1 else if j = 4 ∧ i = s then 4 else if j = 7 ∧ i = s then -6 else if j = 12 ∧ i = k then -6 else F j i := by
  rw [poP_at (F := fiC F k s) a4, fiC_phV]
  show (if j = 6 ∧ i = s then phV F s else if j = 17 ∧ (i < 3 ∧ phV F s = nI i) then F 17 i + F 2 s else fiC F k s j i) = _
  unfold fiC
  rw [fs_at, fs_at, fs_at, fs_at]
theorem fi3_hI {n c : Nat} {F : hF} (h : hI n c F) (hc : c ≤ 6) {s k : Nat} (hk : k < c) (hs : s < n) (q7 : F 7 s = nI k) (q4 : F 4 s = 3) : hI n c (poP (fiC F k s) s) := by
  obtain ⟨a1, a2, a3, a4, a5, a6, a7, a8, a9, a10, a11, a12, a13⟩ := h
  have w6 : F 6 s = -6 := a5 s hs (Or.inr (Or.inr (Or.inr q4)))
  have hp := fi3_at (k := k) w6
  generalize poP (fiC F k s) s = F' at hp
  have r0 : ∀ i, F' 0 i = F 0 i := fun i => by simp [hp]
  have r2 : ∀ i, F' 2 i = F 2 i := fun i => by simp [hp]
  have r3 : ∀ i, F' 3 i = F 3 i := fun i => by simp [hp]
  have r4 : ∀ i, F' 4 i = if i = s then 4 else F 4 i := fun i => by simp [hp]
  have r5 : ∀ i, F' 5 i = F 5 i := fun i => by simp [hp]
  have r6 : ∀ i, F' 6 i = if i = s then phV F s else F 6 i := fun i => by simp [hp]
  have r7 : ∀ i, F' 7 i = if i = s then -6 else F 7 i := fun i => by simp [hp]
  have r10 : ∀ i, F' 10 i = F 10 i := fun i => by simp [hp]
  have r12 : ∀ i, F' 12 i = if i = k then -6 else F 12 i := fun i => by simp [hp]
  have r16 : ∀ i, F' 16 i = F 16 i := fun i => by simp [hp]
  have r17 : ∀ i, F' 17 i = if i < 3 ∧ phV F s = nI i then F 17 i + F 2 s else F 17 i := fun i => by simp [hp]
  have r18 : ∀ i, F' 18 i = F 18 i := fun i => by simp [hp]
  refine ⟨fun t ht => by rw [r0]; exact a1 t ht, fun t ht => ?_, fun t ht => by rw [r5]; exact a3 t ht, fun t ht => ?_, fun t ht w => ?_, fun k hk => by rw [r10]; exact a6 k hk, fun k' hk' => ?_, by rw [r18]; exact a8, by rw [r16]; exact a9, by rw [r16]; exact a10, by rw [r16]; exact a11, fun p hp3 => ?_, fun t ht => by rw [r3]; exact a13 t ht⟩
  · rw [r4]
    split
    · decide
    · exact a2 t ht
  · rw [r6]
    split
    · exact phV_or F s
    · exact a4 t ht
  · rw [r6]
    by_cases e : t = s
    · rw [r4, if_pos e] at w
      exact absurd w (by decide)
    · rw [r4, if_neg e] at w
      rw [if_neg e]
      exact a5 t ht w
  · rw [r12, r18]
    by_cases e : k' = k
    · exact Or.inl (if_pos e)
    · rw [if_neg e]
      rcases a7 k' hk' with y | ⟨t, ht, q1, q2, q3⟩
      · exact Or.inl y
      · have e2 : t ≠ s := fun e2 => by
          rw [e2, q7] at q2
          exact e (nI_inj6 (by omega) (by omega) q2).symm
        exact Or.inr ⟨t, ht, q1, by rw [r7, if_neg e2]; exact q2, by rw [r4, if_neg e2]; exact q3⟩
  · rw [r17, hloa_u hs r6 r2, w6, if_neg (ne6 hp3), Int32.sub_zero, ← a12 p hp3]
    by_cases e : phV F s = nI p
    · rw [if_pos ⟨hp3, e⟩, if_pos e]
    · rw [if_neg (fun y => e y.2), if_neg e, Int32.add_zero]
/-- gone -/
def fiD (F : hF) (k s : Nat) : hF := fs (fs (fs (fs F 12 k (-6)) 7 s (-6)) 4 s 6) 15 k (F 15 k + 1)
theorem fi6_hI {n c : Nat} {F : hF} (h : hI n c F) (hc : c ≤ 6) {s k : Nat} (hk : k < c) (q7 : F 7 s = nI k) : hI n c (fiD F k s) := by
  obtain ⟨a1, a2, a3, a4, a5, a6, a7, a8, a9, a10, a11, a12, a13⟩ := h
  refine ⟨a1, fun t ht => ?_, a3, a4, fun t ht w => ?_, a6, fun k' hk' => ?_, a8, a9, a10, a11, a12, a13⟩
  · show vB (fs (fs (fs F 12 k (-6)) 7 s (-6)) 4 s 6 4 t) 0 6
    rw [fs_at]
    split
    · decide
    · exact a2 t ht
  · show F 6 t = -6
    have w' : fs (fs (fs F 12 k (-6)) 7 s (-6)) 4 s 6 4 t = 0 ∨ fs (fs (fs F 12 k (-6)) 7 s (-6)) 4 s 6 4 t = 1 ∨ fs (fs (fs F 12 k (-6)) 7 s (-6)) 4 s 6 4 t = 2 ∨ fs (fs (fs F 12 k (-6)) 7 s (-6)) 4 s 6 4 t = 3 := w
    rw [fs_at] at w'
    by_cases e : t = s
    · rw [if_pos ⟨rfl, e⟩] at w'
      exact absurd w' (by decide)
    · rw [if_neg (by omega)] at w'
      exact a5 t ht w'
  · show fs F 12 k (-6) 12 k' = -6 ∨ ∃ t, t < n ∧ fs F 12 k (-6) 12 k' = nI t ∧ fs (fs F 12 k (-6)) 7 s (-6) 7 t = nI k' ∧ fs (fs (fs F 12 k (-6)) 7 s (-6)) 4 s 6 4 t = if F 18 1 = 1 then 5 else 3
    by_cases e : k' = k
    · rw [e, fs_same]
      exact Or.inl rfl
    · rw [fs_at, if_neg (by omega)]
      rcases a7 k' hk' with y | ⟨t, ht, q1, q2, q3⟩
      · exact Or.inl y
      · have e2 : t ≠ s := fun e2 => by
          rw [e2, q7] at q2
          exact e (nI_inj6 (by omega) (by omega) q2).symm
        refine Or.inr ⟨t, ht, q1, ?_, ?_⟩
        · rw [fs_at, if_neg (by omega)]; exact q2
        · rw [fs_at, if_neg (by omega)]; exact q3
theorem loa_eq3 {n c : Nat} {F E E' : hF} (a : hI n c F) (r : rl n c F E) (k6 : ∀ s, s < n → E' 0 (8 + 10 * s + 6) = E 0 (8 + 10 * s + 6)) (k2 : ∀ s, s < n → E' 0 (8 + 10 * s + 2) = E 0 (8 + 10 * s + 2)) {p : Nat} (hp : p < 3) : loaE n E' (nI p) = F 17 p := by
  rw [a.2.2.2.2.2.2.2.2.2.2.2.1 p hp, ← r.loa]
  exact sumN_c n fun s hs => by rw [k6 s hs, k2 s hs]
theorem ll_eq {n c : Nat} {F E E' : hF} (a : hI n c F) (r : rl n c F E) (k6 : ∀ s, s < n → E' 0 (8 + 10 * s + 6) = E 0 (8 + 10 * s + 6)) (k2 : ∀ s, s < n → E' 0 (8 + 10 * s + 2) = E 0 (8 + 10 * s + 2)) : llE n E' = phL F := by
  have e0 : loaE n E' 0 = F 17 0 := loa_eq3 a r k6 k2 (p := 0) (by decide)
  have e1 : loaE n E' 1 = F 17 1 := loa_eq3 a r k6 k2 (p := 1) (by decide)
  have e2 : loaE n E' 2 = F 17 2 := loa_eq3 a r k6 k2 (p := 2) (by decide)
  unfold llE phL
  rw [e0, e1, e2]
  by_cases q : F 17 0 ≤ F 17 1
  · rw [if_pos q]
    have e : loaE n E' (nI 0) = F 17 0 := e0
    rw [e]
  · rw [if_neg q]
    have e : loaE n E' (nI 1) = F 17 1 := e1
    rw [e]
theorem sm_fin {n c h e : Nat} {t : Nat → Nat} {F E : hF} (H : sm n c h e t F E) (he1 : e < 6) {s k : Nat} (hs : s < n) (hk : k < c) (q12 : F 12 k = nI s) : sm n c h (e + 1) t (fiH F k s) (fiE n E k s) := by
  obtain ⟨hn, hc, hh, he, a, a0, al, r, w, m⟩ := H
  have hm := mfiE (k := k) m hs
  have r4 : E 0 (8 + 10 * s + 4) = F 4 s := r.A hs 4 (by decide) (by decide)
  have hq : F 7 s = nI k ∧ F 4 s = (if F 18 1 = 1 then 5 else 3) := by
    rcases a.2.2.2.2.2.2.1 k hk with y | ⟨t', ht', y1, y2, y3⟩
    · rw [q12] at y
      exact absurd y (nI_ne6 (by omega))
    · rw [q12] at y1
      have e1 := nI_inj6 (by omega) (by omega) y1
      rw [e1]
      exact ⟨y2, y3⟩
  obtain ⟨q7, q4⟩ := hq
  by_cases z : F 4 s = 3
  · have e1 : fiH F k s = poP (fiC F k s) s := if_pos z
    have e2 : fiE n E k s = fs (fs (fs (fiA E k s) 0 (8 + 10 * s + 4) 4) 0 (8 + 10 * s + 6) (fiB n E k s)) 0 (208 + 7 * k + 5) (E 0 (208 + 7 * k + 5) + 1) := if_pos (by rw [r4]; exact z)
    have w6 : F 6 s = -6 := a.2.2.2.2.1 s hs (Or.inr (Or.inr (Or.inr z)))
    have hp := fi3_at (k := k) w6
    have hB : fiB n E k s = phV F s := by
      have k6 : ∀ s', s' < n → fiA E k s 0 (8 + 10 * s' + 6) = E 0 (8 + 10 * s' + 6) := fun s' hs' => by
        unfold fiA
        rw [fs_at, if_neg (by omega), fs_at, if_neg (by omega)]
      have k2 : ∀ s', s' < n → fiA E k s 0 (8 + 10 * s' + 2) = E 0 (8 + 10 * s' + 2) := fun s' hs' => by
        unfold fiA
        rw [fs_at, if_neg (by omega), fs_at, if_neg (by omega)]
      have l1 := ll_eq a r k6 k2
      have l2 := loa_eq3 (E' := fs (fiA E k s) 0 (8 + 10 * s + 4) 4) a r (fun s' hs' => by rw [fs_at, if_neg (by omega)]; exact k6 s' hs') (fun s' hs' => by rw [fs_at, if_neg (by omega)]; exact k2 s' hs') (phL_lt F)
      unfold fiB phV
      rw [l1, l2, r.2.2.2.2.2.1, r.A hs 2 (by decide) (by decide)]
      show (if F 16 2 < F 17 (phL F) + F 2 s then (-6 : Int32) else nI (phL F)) = _
      by_cases y : F 17 (phL F) + F 2 s ≤ F 16 2
      · rw [if_pos y, if_neg (fun x => i_lt_le x y)]
      · rw [if_neg y, if_pos (Int32.not_le.mp y)]
    rw [e2] at hm
    rw [e1, e2]
    refine ⟨hn, hc, hh, by omega, fi3_hI a hc hk hs q7 z, ?_, ?_, ?_, w.to (fun s' _ y => ?_) (fun i => ?_) ?_ (fun s' _ => ?_), hm⟩
    · rw [hp]; simp; exact a0
    · rw [hp]; simp; exact ⟨al.1, by have := al.2; omega⟩
    · rw [hB, r.B hk 5 (by decide) (by decide)]
      have g1 := r.crew hn 2 (-6) (by decide) (by decide) (by decide) (by decide) (k := k)
      have g2 := (g1.part hn hs 7 (-6) (by decide) (by decide)).part hn hs 4 4 (by decide) (by decide)
      have g3 := (g2.part hn hs 6 (phV F s) (by decide) (by decide)).crew hn 5 (F (qj 5) k + 1) (by decide) (by decide) (by decide) (by decide) (k := k)
      refine g3.congr fun j' i h9 h17 => ?_
      rw [hp, fs_at, fs_at, fs_at, fs_at, fs_at]
      show _ = if j' = 14 ∧ i = k then F 14 k + 1 else if j' = 6 ∧ i = s then phV F s else if j' = 4 ∧ i = s then 4 else if j' = 7 ∧ i = s then -6 else if j' = 12 ∧ i = k then -6 else F j' i
      repeat' split
      all_goals first | rfl | omega
    · rw [hp] at y
      simp at y
      split at y
      · exact absurd y (by decide)
      · exact y
    · rw [hp]; simp
    · rw [hp]; simp
    · unfold fiA
      rw [fs_at, if_neg (by omega), fs_at, if_neg (by omega), fs_at, if_neg (by omega), fs_at, if_neg (by omega), fs_at, if_neg (by omega)]
  · have e2 : fiE n E k s = fs (fs (fs (fiA E k s) 0 (8 + 10 * s + 4) 6) 0 (208 + 7 * k + 6) (E 0 (208 + 7 * k + 6) + 1)) 0 7 (E 0 7 + (if (nI s + E 0 3) - (nI s + E 0 3) / 4 * 4 = 0 then 1 else 0)) := if_neg (by rw [r4]; exact z)
    rw [e2] at hm
    have hr : rl n c (fiD F k s) (fs (fs (fiA E k s) 0 (8 + 10 * s + 4) 6) 0 (208 + 7 * k + 6) (E 0 (208 + 7 * k + 6) + 1)) := by
      rw [r.B hk 6 (by decide) (by decide)]
      exact (((r.crew hn 2 (-6) (by decide) (by decide) (by decide) (by decide) (k := k)).part hn hs 7 (-6) (by decide) (by decide)).part hn hs 4 6 (by decide) (by decide)).crew hn 6 (F (qj 6) k + 1) (by decide) (by decide) (by decide) (by decide) (k := k)
    have hst : ∀ E' : hF, (∀ s', s' < n → E' 0 (8 + 10 * s' + 8) = E 0 (8 + 10 * s' + 8)) → stq n t (fiD F k s) E' := fun E' k8 => w.to (fun s' _ y => by
      have y' : fs (fs (fs F 12 k (-6)) 7 s (-6)) 4 s 6 4 s' = 1 := y
      rw [fs_at] at y'
      split at y'
      · exact absurd y' (by decide)
      · exact y') (fun i => rfl) rfl k8
    have h6 := fi6_hI a hc hk q7
    have r3 : E 0 3 = F 18 0 := r.2.2.2.2.2.2.1
    have r7 : E 0 7 = F 18 2 := r.2.2.2.2.2.2.2.2
    have k8 : ∀ v s', s' < n → fs (fs (fs (fiA E k s) 0 (8 + 10 * s + 4) 6) 0 (208 + 7 * k + 6) (E 0 (208 + 7 * k + 6) + 1)) 0 7 v 0 (8 + 10 * s' + 8) = E 0 (8 + 10 * s' + 8) := fun v s' hs' => by
      unfold fiA
      rw [fs_at, if_neg (by omega), fs_at, if_neg (by omega), fs_at, if_neg (by omega), fs_at, if_neg (by omega), fs_at, if_neg (by omega)]
    rw [e2, r3, r7]
    rw [r3, r7] at hm
    by_cases y : (nI s + F 18 0) - (nI s + F 18 0) / 4 * 4 = 0
    · have e1 : fiH F k s = fs (fiD F k s) 18 2 (F 18 2 + 1) := by
        unfold fiH
        rw [if_neg z, if_pos y]
        rfl
      rw [if_pos y] at hm ⊢
      rw [e1]
      obtain ⟨v, v1, v2, v3⟩ := vB_n al (by decide)
      refine ⟨hn, hc, hh, by omega, h6, a0, ?_, hr.head 7 18 2 _ (by omega), ?_, hm⟩
      · rw [fs_same, v1, nI_1]
        exact vB_of (by omega) (by omega) (by omega)
      · exact (hst _ (k8 _)).to (fun s' _ y => y) (fun i => rfl) rfl (fun s' _ => rfl)
    · have e1 : fiH F k s = fiD F k s := by
        unfold fiH
        rw [if_neg z, if_neg y]
        rfl
      rw [if_neg y, Int32.add_zero] at hm ⊢
      rw [e1]
      refine ⟨hn, hc, hh, by omega, h6, a0, ⟨al.1, by have := al.2; show (F 18 2).toInt ≤ _; omega⟩, ?_, hst _ (k8 _), hm⟩
      have g := hr.head 7 18 2 (F 18 2) (by omega)
      rw [fs_id (show fiD F k s 18 2 = F 18 2 from rfl)] at g
      exact g
theorem sm_e {n c h e e' : Nat} {t : Nat → Nat} {F E : hF} (H : sm n c h e t F E) (h1 : e ≤ e') (h2 : e' ≤ 6) : sm n c h e' t F E := by
  obtain ⟨hn, hc, hh, he, a, a0, al, r, w, m⟩ := H
  exact ⟨hn, hc, hh, h2, a, a0, ⟨al.1, by have := al.2; omega⟩, r, w, m⟩
theorem sm_ck {n c h e : Nat} {t : Nat → Nat} {F E : hF} {x y : Int32} (H : sm n c h e t F E) (he1 : e < 6) {k : Nat} (hk : k < c) (hxy : x = y) : sm n c h (e + 1) t (ckS n 1 k (F, x)).1 (c2S n k (E, y)).1 ∧ (ckS n 1 k (F, x)).2 = (c2S n k (E, y)).2 := by
  obtain ⟨hn, hc, hh, he, a, a0, al, r, w, m⟩ := id H
  have r2 : E 0 (208 + 7 * k + 2) = F 12 k := r.B hk 2 (by decide) (by decide)
  rcases a.2.2.2.2.2.2.1 k hk with q | ⟨s, hs, q, q2, q3⟩
  · have e1 : ckS n 1 k (F, x) = (F, x) := if_neg (by show ¬ hhas n (F 12 k); rw [q]; exact has_6)
    have e2 : c2S n k (E, y) = (E, y) := if_pos (by show E 0 (208 + 7 * k + 2) = -6; rw [r2, q])
    rw [e1, e2]
    exact ⟨sm_e H (by omega) (by omega), hxy⟩
  · have cl : (F 12 k).toNatClampNeg = s := by rw [q, nI_clamp (by omega)]
    have e1 : ckS n 1 k (F, x) = if mx0 (F 5 s - 1 * F 10 k) ≤ 0 then (fiH (cwA F 1 k s) k s, x + 1) else (cwA F 1 k s, x) := by
      rw [← cl]
      exact if_pos (by show hhas n (F 12 k); rw [q]; exact has_nI (by omega) hs)
    have e2 : c2S n k (E, y) = (woE n E k s, if woL E k s ≤ 0 then y + 1 else y) := by
      rw [← cl, ← r2]
      exact if_neg (by show ¬ E 0 (208 + 7 * k + 2) = -6; rw [r2, q]; exact nI_ne6 (by omega))
    obtain ⟨k1, k2⟩ := woL_eq a r hs hk
    rw [e1, e2]
    unfold woE
    by_cases z : woL E k s ≤ 0
    · rw [if_pos z] at k2
      rw [if_pos z, if_pos z, if_pos (k1.mp z)]
      exact ⟨sm_fin (sm_work H hs hk k2) he1 hs hk (by rw [cwA_row (by decide) (by decide) (by decide)]; exact q), by rw [hxy]⟩
    · rw [if_neg z] at k2
      rw [if_neg z, if_neg z, if_neg (fun y => z (k1.mpr y))]
      exact ⟨sm_e (sm_work H hs hk k2) (by omega) (by omega), hxy⟩
theorem sm_cw {n c h : Nat} {t : Nat → Nat} {F E : hF} (H : sm n c h 0 t F E) : ∀ k, k ≤ c → sm n c h k t (itN k (ckS n 1) (F, 0)).1 (itN k (c2S n) (E, 0)).1 ∧ (itN k (ckS n 1) (F, 0)).2 = (itN k (c2S n) (E, 0)).2
  | 0, _ => ⟨H, rfl⟩
  | k + 1, hk => by
    obtain ⟨g1, g2⟩ := sm_cw H k (by omega)
    have hc := H.2.1
    exact sm_ck g1 (by omega) (by omega) g2
theorem sm_hour {n c h : Nat} {F E : hF} (hh1 : h < 30000) (H : sm n c h 0 (fun _ => 0) F E) : sm n c (h + 1) 0 (fun _ => 0) (p1H n c F) (poE n c E) ∧ p1R n c F = poR n c E := by
  have g0 := (sm_lor H).1
  have g1 := sm_takes (E0 := lorE n E) c 0 (loH n F) (by omega) g0
  obtain ⟨g2, g3⟩ := sm_cw g1 c (Nat.le_refl c)
  refine ⟨?_, g3⟩
  obtain ⟨hn, hc, hh, he, a, a0, al, r, w, m⟩ := g2
  have hm : mOk n c (poE n c E) := mpoE H.2.2.2.2.2.2.2.2.2
  show sm n c (h + 1) 0 (fun _ => 0) (fs (itN c (ckS n 1) (ctN n c 0 (loH n F), 0)).1 18 0 ((itN c (ckS n 1) (ctN n c 0 (loH n F), 0)).1 18 0 + 1)) (fs (itN c (c2S n) (itN c (c1S n) (lorE n E), 0)).1 0 3 ((itN c (c2S n) (itN c (c1S n) (lorE n E), 0)).1 0 3 + 1))
  have hm' : mOk n c (fs (itN c (c2S n) (itN c (c1S n) (lorE n E), 0)).1 0 3 ((itN c (c2S n) (itN c (c1S n) (lorE n E), 0)).1 0 3 + 1)) := hm
  generalize (itN c (ckS n 1) (ctN n c 0 (loH n F), 0)).1 = F' at a a0 al r w ⊢
  generalize (itN c (c2S n) (itN c (c1S n) (lorE n E), 0)).1 = E' at r w hm' ⊢
  refine ⟨hn, hc, by omega, by decide, a, ?_, ⟨al.1, by have := al.2; show (F' 18 2).toInt ≤ _; omega⟩, ?_, fun s hs q => ?_, hm'⟩
  · rw [fs_same, a0, nI_1]
  · rw [r.2.2.2.2.2.2.1]
    exact r.head 3 18 0 _ (by omega)
  · obtain ⟨v, b1, b2, b3, b4⟩ := w s hs q
    dsimp only at b1 b4
    refine ⟨v - 1, Nat.zero_le _, by omega, ?_, ?_⟩
    · show F' 9 s = fs F' 18 0 (F' 18 0 + 1) 18 0 + nI (v - 1)
      rw [fs_same, b3, a0, nI_1, nI_add, nI_add, show h + 1 + (v - 1) = h + v by omega]
    · rw [fs_at, if_neg (by omega), b4]
      rfl
