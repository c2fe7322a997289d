/-! the calls that change something, second half -/
def SV (n c : Nat) (F E : hF) : Prop := ∃ h, h ≤ 9999 ∧ sm n c h 0 (fun _ => 0) F E
theorem wI_has {n : Nat} {x : Int32} (hn : n ≤ 20) : wI x 0 (nI n - 1) ↔ hhas n x := by
  constructor
  · intro h
    obtain ⟨j, hj, e⟩ := wI_in (by omega) h
    rw [e]
    exact has_nI (by omega) hj
  · intro h
    obtain ⟨j, hj, e⟩ := has_in (by omega) h
    rw [e]
    refine ⟨nI_pos (by omega), ?_⟩
    rw [show n = (n - 1) + 1 by omega, nI_pred]
    exact nI_nlt (by omega) (by omega)
theorem op_set {n c : Nat} {F E : hF} (H : SV n c F E) (x v : Int32) :
    (isvP x v ∧ (chT3 F x v).1 = E 0 x.toNatClampNeg ∧ 0 ≤ (chT3 F x v).1 ∧ SV n c (chT3 F x v).2 (fs E 0 x.toNatClampNeg v)) ∨ (¬ isvP x v ∧ chT3 F x v = (-2, F)) := by
  obtain ⟨h, hh, H⟩ := H
  rcases sm_set H x v with ⟨a, b, c, d⟩ | g
  · exact Or.inl ⟨a, b, c, h, hh, d⟩
  · exact Or.inr g
theorem op_add {n c : Nat} {F E : hF} (H : SV n c F E) (w1 w2 w3 w4 : Int32) :
    (whyS E w1 w2 w3 w4 = 0 ∧ adT n F w1 w2 w3 w4 = (nI n, n + 1, apS F n w1 w2 w3 w4) ∧ SV (n + 1) c (apS F n w1 w2 w3 w4) (cmsE E n w1 w2 w3 w4)) ∨ (whyS E w1 w2 w3 w4 < 0 ∧ adT n F w1 w2 w3 w4 = (whyS E w1 w2 w3 w4, n, F)) := by
  obtain ⟨h, hh, H⟩ := H
  obtain ⟨hn, hc, _, _, a, a0, al, r, w, m⟩ := id H
  have m4 : E 0 4 = nI n := m.h4
  have r6 : E 0 6 = F 18 1 := r.2.2.2.2.2.2.2.1
  have a8 := a.2.2.2.2.2.2.2.1
  unfold adT whyS
  rw [m4, r6]
  by_cases c1 : wI w1 1 99
  · by_cases c2 : wI w2 1 20
    · by_cases c3 : wI w3 0 99
      · rw [if_pos c1, if_pos c2, if_pos c3, if_neg (fun y => by rcases y with y | y | y; exact y c1; exact y c2; exact y c3)]
        by_cases c4 : w4 = -6 ∨ hhas n w4
        · rw [if_pos c4, if_neg (fun y => by
            rcases c4 with z | z
            · exact y.1 z
            · exact y.2 ((wI_has hn).mpr z))]
          by_cases c5 : n < 20
          · rw [if_pos c5, if_neg (fun y => by have := nI_inj6 (a := n) (b := 20) (by omega) (by decide) y; omega)]
            rcases a8 with z | z
            · rw [if_pos z]
              by_cases c6 : hhas n w4 ∧ F 4 w4.toNatClampNeg = 6
              · obtain ⟨j, hj, e⟩ := has_in (by omega) c6.1
                have c6' := c6.2
                rw [e, nI_clamp (by omega)] at c6'
                rw [if_pos c6, if_pos (Or.inr ⟨by rw [e]; exact nI_ne6 (by omega), by rw [e, nI_clamp (by omega), r.A hj 4 (by decide) (by decide)]; exact c6'⟩)]
                exact Or.inr ⟨by decide, rfl⟩
              · rw [if_neg c6, if_neg (fun y => by
                  rcases y with y | ⟨y1, y2⟩
                  · rw [z] at y; exact absurd y (by decide)
                  · have hw := c4.resolve_left y1
                    obtain ⟨j, hj, e⟩ := has_in (by omega) hw
                    refine c6 ⟨hw, ?_⟩
                    rw [e, nI_clamp (by omega), r.A hj 4 (by decide) (by decide)] at y2
                    rw [e, nI_clamp (by omega)]
                    exact y2)]
                refine Or.inl ⟨rfl, rfl, h, hh, sm_addS H c5 (wI_vB c1 (by decide) (by decide)) ?_⟩
                rcases c4 with y | y
                · exact Or.inl y
                · obtain ⟨j, hj, e⟩ := has_in (by omega) y
                  exact Or.inr ⟨j, hj, e⟩
            · rw [if_neg (show ¬ F 18 1 = 0 by rw [z]; decide), if_pos (Or.inl z)]
              exact Or.inr ⟨by decide, rfl⟩
          · have e : n = 20 := by omega
            rw [if_neg c5, if_pos (by rw [e]; rfl)]
            exact Or.inr ⟨by decide, rfl⟩
        · rw [if_neg c4, if_pos ⟨fun y => c4 (Or.inl y), fun y => c4 (Or.inr ((wI_has hn).mp y))⟩]
          exact Or.inr ⟨by decide, rfl⟩
      · rw [if_pos c1, if_pos c2, if_neg c3, if_pos (Or.inr (Or.inr c3))]
        exact Or.inr ⟨by decide, rfl⟩
    · rw [if_pos c1, if_neg c2, if_pos (Or.inr (Or.inl c2))]
      exact Or.inr ⟨by decide, rfl⟩
  · rw [if_neg c1, if_pos (Or.inl c1)]
    exact Or.inr ⟨by decide, rfl⟩
/-! crew -/
theorem apC_10 (F : hF) (c : Nat) (x y : Int32) : apC F c x y 10 c = x := by
  unfold apC
  rw [fs_ne _ _ _ (by decide), fs_ne _ _ _ (by decide), fs_ne _ _ _ (by decide), fs_ne _ _ _ (by decide), fs_ne _ _ _ (by decide), fs_same]
theorem apC_11 (F : hF) (c : Nat) (x y : Int32) : apC F c x y 11 c = y := by
  unfold apC
  rw [fs_ne _ _ _ (by decide), fs_ne _ _ _ (by decide), fs_ne _ _ _ (by decide), fs_ne _ _ _ (by decide), fs_same]
theorem apC_12 (F : hF) (c : Nat) (x y : Int32) : apC F c x y 12 c = -6 := by
  unfold apC
  rw [fs_ne _ _ _ (by decide), fs_ne _ _ _ (by decide), fs_ne _ _ _ (by decide), fs_same]
theorem apC_13 (F : hF) (c : Nat) (x y : Int32) : apC F c x y 13 c = 0 := by
  unfold apC
  rw [fs_ne _ _ _ (by decide), fs_ne _ _ _ (by decide), fs_same]
theorem apC_14 (F : hF) (c : Nat) (x y : Int32) : apC F c x y 14 c = 0 := by
  unfold apC
  rw [fs_ne _ _ _ (by decide), fs_same]
theorem apC_15 (F : hF) (c : Nat) (x y : Int32) : apC F c x y 15 c = 0 := by
  unfold apC
  rw [fs_same]
theorem apC_old (F : hF) (c : Nat) (x y : Int32) {i : Nat} (hi : i ≠ c) (j : Nat) : apC F c x y j i = F j i := by
  unfold apC
  rw [fs_at, if_neg (fun y => hi y.2), fs_at, if_neg (fun y => hi y.2), fs_at, if_neg (fun y => hi y.2), fs_at, if_neg (fun y => hi y.2), fs_at, if_neg (fun y => hi y.2), fs_at, if_neg (fun y => hi y.2)]
theorem apC_big (F : hF) (c : Nat) (x y : Int32) {j : Nat} (hj : j < 10 ∨ 16 ≤ j) : apC F c x y j = F j := by
  unfold apC
  rw [fs_ne _ _ _ (by omega), fs_ne _ _ _ (by omega), fs_ne _ _ _ (by omega), fs_ne _ _ _ (by omega), fs_ne _ _ _ (by omega), fs_ne _ _ _ (by omega)]
theorem cmc_0 (E : hF) (c : Nat) (x y : Int32) : cmcE E c x y 0 (208 + 7 * c + 0) = x := by
  unfold cmcE
  rw [fs_at, if_neg (by omega), fs_at, if_neg (by omega), fs_at, if_neg (by omega), fs_same]
theorem cmc_1 (E : hF) (c : Nat) (x y : Int32) : cmcE E c x y 0 (208 + 7 * c + 1) = y := by
  unfold cmcE
  rw [fs_at, if_neg (by omega), fs_at, if_neg (by omega), fs_same]
theorem cmc_2 (E : hF) (c : Nat) (x y : Int32) : cmcE E c x y 0 (208 + 7 * c + 2) = -6 := by
  unfold cmcE
  rw [fs_at, if_neg (by omega), fs_same]
theorem cmc_3 (E : hF) (c : Nat) (x y : Int32) : cmcE E c x y 0 (208 + 7 * c + 3) = 0 := by
  unfold cmcE
  rw [fs_at, if_neg (by omega), fs_at, if_neg (by omega), fs_at, if_neg (by omega), fs_at, if_neg (by omega), fs_at, if_neg (by omega), fs_at, if_neg (by omega), fs_at, if_neg (by omega), fs_same]
theorem cmc_4 (E : hF) (c : Nat) (x y : Int32) : cmcE E c x y 0 (208 + 7 * c + 4) = 0 := by
  unfold cmcE
  rw [fs_at, if_neg (by omega), fs_at, if_neg (by omega), fs_at, if_neg (by omega), fs_at, if_neg (by omega), fs_at, if_neg (by omega), fs_at, if_neg (by omega), fs_same]
theorem cmc_5 (E : hF) (c : Nat) (x y : Int32) : cmcE E c x y 0 (208 + 7 * c + 5) = 0 := by
  unfold cmcE
  rw [fs_at, if_neg (by omega), fs_at, if_neg (by omega), fs_at, if_neg (by omega), fs_at, if_neg (by omega), fs_at, if_neg (by omega), fs_same]
theorem cmc_6 (E : hF) (c : Nat) (x y : Int32) : cmcE E c x y 0 (208 + 7 * c + 6) = 0 := by
  unfold cmcE
  rw [fs_at, if_neg (by omega), fs_at, if_neg (by omega), fs_at, if_neg (by omega), fs_at, if_neg (by omega), fs_same]
theorem cmc_o (E : hF) (c : Nat) (x y : Int32) {i : Nat} (h5 : i ≠ 5) (hi : i < 208 + 7 * c ∨ 208 + 7 * c + 6 < i) : cmcE E c x y 0 i = E 0 i := by
  unfold cmcE
  rw [fs_at, if_neg (by omega), fs_at, if_neg (by omega), fs_at, if_neg (by omega), fs_at, if_neg (by omega), fs_at, if_neg (by omega), fs_at, if_neg (by omega), fs_at, if_neg (by omega), fs_at, if_neg (by omega), fs_at, if_neg (by omega), fs_at, if_neg (by omega), fs_at, if_neg (by omega)]
theorem sm_addC {n c h : Nat} {F E : hF} (H : sm n c h 0 (fun _ => 0) F E) (hc6 : c < 6) {x y : Int32} (h1 : vB x 1 9) : sm n (c + 1) h 0 (fun _ => 0) (apC F c x y) (cmcE E c x y) := by
  obtain ⟨hn, hc, hh, he, a, a0, al, r, w, m⟩ := H
  obtain ⟨a1, a2, a3, a4, a5, a6, a7, a8, a9, a10, a11, a12, a13⟩ := a
  obtain ⟨r1, r2, r3, r4, r5, r6, r7, r8, r9⟩ := r
  have old : ∀ j i, i ≠ c → apC F c x y j i = F j i := fun j i hi => apC_old F c x y hi j
  have big : ∀ j i, (j < 10 ∨ 16 ≤ j) → apC F c x y j i = F j i := fun j i hj => congrFun (apC_big F c x y hj) i
  have eo : ∀ i, i ≠ 5 → (i < 208 + 7 * c ∨ 208 + 7 * c + 6 < i) → cmcE E c x y 0 i = E 0 i := fun i h5 hi => cmc_o E c x y h5 hi
  refine ⟨hn, by omega, hh, he, ⟨fun s hs => ?_, fun s hs => ?_, fun s hs => ?_, fun s hs => ?_, fun s hs => ?_, fun k hk => ?_, fun k hk => ?_, ?_, ?_, ?_, ?_, fun p hp => ?_, fun s hs => ?_⟩, ?_, ?_, ⟨fun s j hs hj h8 => ?_, fun k j hk hj hj4 => ?_, fun k hk => ?_, ?_, ?_, ?_, ?_, ?_, ?_⟩, fun s hs q => ?_, mcmcE m hc6 x y⟩
  · rw [big _ _ (by decide)]; exact a1 s hs
  · rw [big _ _ (by decide)]; exact a2 s hs
  · rw [big _ _ (by decide)]; exact a3 s hs
  · rw [big _ _ (by decide)]; exact a4 s hs
  · rw [big 4 _ (by decide), big 6 _ (by decide)]; exact a5 s hs
  · by_cases e : k = c
    · rw [e, apC_10]; exact h1
    · rw [old _ _ e]; exact a6 k (by omega)
  · by_cases e : k = c
    · rw [e, apC_12]; exact Or.inl rfl
    · rw [old _ _ e]
      rcases a7 k (by omega) with y | ⟨t, ht, y1, y2, y3⟩
      · exact Or.inl y
      · exact Or.inr ⟨t, ht, y1, by rw [big _ _ (by decide)]; exact y2, by rw [big 4 _ (by decide), big 18 _ (by decide)]; exact y3⟩
  · rw [big _ _ (by decide)]; exact a8
  · rw [big _ _ (by decide)]; exact a9
  · rw [big _ _ (by decide)]; exact a10
  · rw [big _ _ (by decide)]; exact a11
  · rw [big _ _ (by decide), a12 p hp]
    exact (hloa_c (fun i => big _ _ (by decide)) (fun i => big _ _ (by decide)) _).symm
  · rw [big _ _ (by decide)]; exact a13 s hs
  · rw [big _ _ (by decide)]; exact a0
  · rw [big _ _ (by decide)]; exact al
  · rw [eo _ (by omega) (by omega), big _ _ (by unfold pj; split <;> omega)]; exact r1 s j hs hj h8
  · by_cases e : k = c
    · subst e
      rcases (show j = 0 ∨ j = 1 ∨ j = 2 ∨ j = 3 ∨ j = 5 ∨ j = 6 by omega) with rfl | rfl | rfl | rfl | rfl | rfl
      · exact (cmc_0 E k x y).trans (apC_10 F k x y).symm
      · exact (cmc_1 E k x y).trans (apC_11 F k x y).symm
      · exact (cmc_2 E k x y).trans (apC_12 F k x y).symm
      · exact (cmc_3 E k x y).trans (apC_13 F k x y).symm
      · exact (cmc_5 E k x y).trans (apC_14 F k x y).symm
      · exact (cmc_6 E k x y).trans (apC_15 F k x y).symm
    · rw [eo _ (by omega) (by omega), old _ _ e]; exact r2 k j (by omega) hj hj4
  · by_cases e : k = c
    · rw [e, cmc_4, apC_13, Int32.zero_mul]
    · rw [eo _ (by omega) (by omega), old _ _ e, old _ _ e]; exact r3 k (by omega)
  · rw [eo _ (by omega) (by omega), big _ _ (by decide)]; exact r4
  · rw [eo _ (by omega) (by omega), big _ _ (by decide)]; exact r5
  · rw [eo _ (by omega) (by omega), big _ _ (by decide)]; exact r6
  · rw [eo _ (by omega) (by omega), big _ _ (by decide)]; exact r7
  · rw [eo _ (by omega) (by omega), big _ _ (by decide)]; exact r8
  · rw [eo _ (by omega) (by omega), big _ _ (by decide)]; exact r9
  · rw [big _ _ (by decide)] at q
    obtain ⟨v, b1, b2, b3, b4⟩ := w s hs q
    exact ⟨v, b1, b2, by rw [big 9 _ (by decide), big 18 _ (by decide)]; exact b3, by rw [eo _ (by omega) (by omega)]; exact b4⟩
theorem op_crew1 {n c h : Nat} {F E : hF} (H : sm n c h 0 (fun _ => 0) F E) (x y : Int32) :
    (whcS E x y = 0 ∧ c < 6 ∧ acT c F x y = (nI c, c + 1, apC F c x y) ∧ sm n (c + 1) h 0 (fun _ => 0) (apC F c x y) (cmcE E c x y)) ∨ (whcS E x y < 0 ∧ acT c F x y = (whcS E x y, c, F)) := by
  have m5 : E 0 5 = nI c := H.2.2.2.2.2.2.2.2.2.h5
  have hc := H.2.1
  unfold acT whcS
  rw [m5]
  by_cases c1 : wI x 1 9
  · by_cases c2 : wI y 0 99
    · rw [if_pos (show wI x 1 9 ∧ wI y 0 99 from ⟨c1, c2⟩), if_neg (show ¬ (¬ wI x 1 9 ∨ ¬ wI y 0 99) from fun z => by rcases z with z | z; exact z c1; exact z c2)]
      by_cases c5 : c < 6
      · rw [if_pos c5, if_neg (show ¬ nI c = 6 from fun z => by have := nI_inj6 (a := c) (b := 6) (by omega) (by decide) z; omega)]
        exact Or.inl ⟨rfl, c5, rfl, sm_addC H c5 (wI_vB c1 (by decide) (by decide))⟩
      · have e : c = 6 := by omega
        rw [if_neg c5, if_pos (show nI c = 6 by rw [e]; rfl)]
        exact Or.inr ⟨by decide, rfl⟩
    · rw [if_neg (show ¬ (wI x 1 9 ∧ wI y 0 99) from fun z => c2 z.2), if_pos (show ¬ wI x 1 9 ∨ ¬ wI y 0 99 from Or.inr c2)]
      exact Or.inr ⟨by decide, rfl⟩
  · rw [if_neg (show ¬ (wI x 1 9 ∧ wI y 0 99) from fun z => c1 z.1), if_pos (show ¬ wI x 1 9 ∨ ¬ wI y 0 99 from Or.inl c1)]
    exact Or.inr ⟨by decide, rfl⟩
theorem op_crew {n c : Nat} {F E : hF} (H : SV n c F E) (x y : Int32) :
    (whcS E x y = 0 ∧ acT c F x y = (nI c, c + 1, apC F c x y) ∧ SV n (c + 1) (apC F c x y) (cmcE E c x y)) ∨ (whcS E x y < 0 ∧ acT c F x y = (whcS E x y, c, F)) := by
  obtain ⟨h, hh, H⟩ := H
  rcases op_crew1 H x y with ⟨a, _, b, d⟩ | g
  · exact Or.inl ⟨a, b, h, hh, d⟩
  · exact Or.inr g
/-! find, pass -/
theorem op_find {n c : Nat} {F E : hF} (H : SV n c F E) :
    (¬ E 0 7 = 0 ∧ fiT F = (E 0 7 - 1, fs F 18 2 (E 0 7 - 1)) ∧ 0 ≤ E 0 7 - 1 ∧ SV n c (fs F 18 2 (E 0 7 - 1)) (fs E 0 7 (E 0 7 - 1))) ∨ (E 0 7 = 0 ∧ fiT F = (-5, F)) := by
  obtain ⟨h, hh, H⟩ := H
  obtain ⟨hn, hc, hh2, he, a, a0, al, r, w, m⟩ := H
  have r7 : E 0 7 = F 18 2 := r.2.2.2.2.2.2.2.2
  obtain ⟨v, v1, v2, v3⟩ := vB_n al (by decide)
  unfold fiT
  rw [r7, v1]
  by_cases z : v = 0
  · subst z
    exact Or.inr ⟨rfl, if_neg (by decide)⟩
  · left
    have hp : (0 : Int32) < nI v := by rw [← nI_0]; exact nI_lt (by omega) (by omega)
    have e : nI v - 1 = nI (v - 1) := by rw [show v = (v - 1) + 1 by omega, nI_pred]; rfl
    rw [if_pos hp, e]
    refine ⟨fun y => z (nI_inj6 (a := v) (b := 0) (by omega) (by decide) y), rfl, nI_pos' (by omega), h, hh, hn, hc, hh2, he, a, a0, ?_, r.head 7 18 2 _ (by omega), w.to (fun _ _ y => y) (fun _ => rfl) rfl (fun s hs => by rw [fs_at, if_neg (by omega)]), m.head _ (by decide) (by decide) (by decide)⟩
    rw [fs_same]
    exact vB_of (by omega) (by omega) (by omega)
theorem sm_ph {n c h : Nat} {F E : hF} (H : sm n c h 0 (fun _ => 0) F E) : ∀ k, h + k ≤ 30000 → sm n c (h + k) 0 (fun _ => 0) (itN k (phS n c) (F, 0)).1 (itN k (psS n c) (E, 0)).1 ∧ (itN k (phS n c) (F, 0)).2 = (itN k (psS n c) (E, 0)).2 ∧ ∃ v, v ≤ 6 * k ∧ (itN k (phS n c) (F, 0)).2 = nI v
  | 0, _ => ⟨H, rfl, 0, by omega, rfl⟩
  | k + 1, hk => by
    obtain ⟨g1, g2, v, g3, g4⟩ := sm_ph H k (by omega)
    obtain ⟨q1, q2⟩ := sm_hour (by omega) g1
    obtain ⟨u, u1, u2⟩ := p1R_n n c (itN k (phS n c) (F, 0)).1
    have hc := H.2.1
    refine ⟨q1, ?_, v + u, by omega, ?_⟩
    · show (itN k (phS n c) (F, 0)).2 + p1R n c (itN k (phS n c) (F, 0)).1 = (itN k (psS n c) (E, 0)).2 + poR n c (itN k (psS n c) (E, 0)).1
      rw [g2, q2]
    · show (itN k (phS n c) (F, 0)).2 + p1R n c (itN k (phS n c) (F, 0)).1 = nI (v + u)
      rw [g4, u2, nI_add]
theorem op_pass {n c : Nat} {F E : hF} (H : SV n c F E) (x : Int32) :
    (whpS E x = 0 ∧ (phT n c F x).1 = (psE n c x.toNatClampNeg E).2 ∧ 0 ≤ (phT n c F x).1 ∧ SV n c (phT n c F x).2 (psE n c x.toNatClampNeg E).1) ∨ (whpS E x < 0 ∧ phT n c F x = (whpS E x, F)) := by
  obtain ⟨h, hh, H⟩ := H
  obtain ⟨hn, hc, hh2, he, a, a0, al, r, w, m⟩ := id H
  have r3 : E 0 3 = F 18 0 := r.2.2.2.2.2.2.1
  unfold phT whpS
  rw [r3]
  by_cases c1 : wI x 1 99
  · rw [if_pos c1, if_pos c1]
    obtain ⟨j, j1, j2, e⟩ := wI_lit (a := 1) (b := 99) (by decide) (by decide) c1
    by_cases c2 : F 18 0 + x ≤ 9999
    · rw [if_pos c2, if_pos c2, e, nI_clamp (by omega)]
      have g : h + j ≤ 9999 := by
        rw [a0, e, nI_add] at c2
        exact (nI_leI (a := h + j) (b := 9999) (by omega) (by decide)).mp c2
      obtain ⟨g1, g2, v, g3, g4⟩ := sm_ph H j (by omega)
      refine Or.inl ⟨rfl, g2, ?_, h + j, g, g1⟩
      show 0 ≤ (itN j (phS n c) (F, 0)).2
      rw [g4]
      exact nI_pos' (by omega)
    · rw [if_neg c2, if_neg c2]
      exact Or.inr ⟨by decide, rfl⟩
  · rw [if_neg c1, if_neg c1]
    exact Or.inr ⟨by decide, rfl⟩
