/-! the calls that change something, alike in both -/
def eqF (F F' : hF) : Prop := ∀ j i, ((j < 10 ∧ i < 20) ∨ (10 ≤ j ∧ j < 16 ∧ i < 6) ∨ (16 ≤ j ∧ j < 19 ∧ i < 3)) → F' j i = F j i
theorem mOk.ee {n c : Nat} {E E' : hF} (h : mOk n c E) (k : ∀ i, i < 250 → E' 0 i = E 0 i) : mOk n c E' := by
  obtain ⟨a1, a2, a3, a4, a5, a6, a7⟩ := h
  refine ⟨a1, a2, by rw [k _ (by omega)]; exact a3, by rw [k _ (by omega)]; exact a4, fun s hs => ?_, fun s hs => ?_, fun s hs => ?_⟩
  · rw [k _ (by omega)]; exact a5 s hs
  · rw [k _ (by omega)]; exact a6 s hs
  · rw [k _ (by omega)]; exact a7 s hs
theorem sm.ee {n c h e : Nat} {t : Nat → Nat} {F E E' : hF} (H : sm n c h e t F E) (k : ∀ i, i < 250 → E' 0 i = E 0 i) : sm n c h e t F E' := by
  obtain ⟨hn, hc, hh, he, a, a0, al, r, w, m⟩ := H
  obtain ⟨r1, r2, r3, r4, r5, r6, r7, r8, r9⟩ := r
  refine ⟨hn, hc, hh, he, a, a0, al, ⟨fun s j hs hj h8 => ?_, fun s j hs hj h4 => ?_, fun s hs => ?_, ?_, ?_, ?_, ?_, ?_, ?_⟩, fun s hs q => ?_, m.ee k⟩
  · rw [k _ (by omega)]; exact r1 s j hs hj h8
  · rw [k _ (by omega)]; exact r2 s j hs hj h4
  · rw [k _ (by omega)]; exact r3 s hs
  · rw [k _ (by omega)]; exact r4
  · rw [k _ (by omega)]; exact r5
  · rw [k _ (by omega)]; exact r6
  · rw [k _ (by omega)]; exact r7
  · rw [k _ (by omega)]; exact r8
  · rw [k _ (by omega)]; exact r9
  · obtain ⟨v, b1, b2, b3, b4⟩ := w s hs q
    exact ⟨v, b1, b2, b3, by rw [k _ (by omega)]; exact b4⟩
theorem rl.ff {n c : Nat} {F F' E : hF} (r : rl n c F E) (hn : n ≤ 20) (hc : c ≤ 6) (k : eqF F F') : rl n c F' E := by
  obtain ⟨r1, r2, r3, r4, r5, r6, r7, r8, r9⟩ := r
  refine ⟨fun s j hs hj h8 => ?_, fun s j hs hj h4 => ?_, fun s hs => ?_, ?_, ?_, ?_, ?_, ?_, ?_⟩
  · rw [k _ _ (by unfold pj; split <;> omega)]; exact r1 s j hs hj h8
  · rw [k _ _ (by unfold qj; split <;> omega)]; exact r2 s j hs hj h4
  · rw [k _ _ (by omega), k _ _ (by omega)]; exact r3 s hs
  · rw [k _ _ (by omega)]; exact r4
  · rw [k _ _ (by omega)]; exact r5
  · rw [k _ _ (by omega)]; exact r6
  · rw [k _ _ (by omega)]; exact r7
  · rw [k _ _ (by omega)]; exact r8
  · rw [k _ _ (by omega)]; exact r9
theorem hI.ff {n c : Nat} {F F' : hF} (a : hI n c F) (hn : n ≤ 20) (hc : c ≤ 6) (k : eqF F F') : hI n c F' := by
  obtain ⟨a1, a2, a3, a4, a5, a6, a7, a8, a9, a10, a11, a12, a13⟩ := a
  refine ⟨fun s hs => ?_, fun s hs => ?_, fun s hs => ?_, fun s hs => ?_, fun s hs => ?_, fun s hs => ?_, fun s hs => ?_, ?_, ?_, ?_, ?_, fun p hp => ?_, fun s hs => ?_⟩
  · rw [k _ _ (by omega)]; exact a1 s hs
  · rw [k _ _ (by omega)]; exact a2 s hs
  · rw [k _ _ (by omega)]; exact a3 s hs
  · rw [k _ _ (by omega)]; exact a4 s hs
  · rw [k 4 s (by omega), k 6 s (by omega)]; exact a5 s hs
  · rw [k _ _ (by omega)]; exact a6 s hs
  · rw [k 12 s (by omega)]
    rcases a7 s hs with y | ⟨t, ht, y1, y2, y3⟩
    · exact Or.inl y
    · exact Or.inr ⟨t, ht, y1, by rw [k 7 t (by omega)]; exact y2, by rw [k 4 t (by omega), k 18 1 (by omega)]; exact y3⟩
  · rw [k _ _ (by omega)]; exact a8
  · rw [k _ _ (by omega)]; exact a9
  · rw [k _ _ (by omega)]; exact a10
  · rw [k _ _ (by omega)]; exact a11
  · rw [k 17 p (by omega), a12 p hp]
    exact sumN_c n fun s hs => by rw [k 6 s (by omega), k 2 s (by omega)]
  · rw [k _ _ (by omega)]; exact a13 s hs
theorem sm.ff {n c h e : Nat} {t : Nat → Nat} {F F' E : hF} (H : sm n c h e t F E) (k : eqF F F') : sm n c h e t F' E := by
  obtain ⟨hn, hc, hh, he, a, a0, al, r, w, m⟩ := H
  refine ⟨hn, hc, hh, he, a.ff hn hc k, by rw [k _ _ (by omega)]; exact a0, by rw [k _ _ (by omega)]; exact al, r.ff hn hc k, fun s hs q => ?_, m⟩
  rw [k 4 s (by omega)] at q
  obtain ⟨v, b1, b2, b3, b4⟩ := w s hs q
  exact ⟨v, b1, b2, by rw [k 9 s (by omega), k 18 0 (by omega)]; exact b3, b4⟩
theorem hcF_eq (F F' : hF) : eqF F (hcF F F') := by
  intro j i h
  unfold hcF
  rw [fs_at, fs_at, fs_at]
  by_cases e18 : j = 18
  · subst e18
    rcases (show i = 0 ∨ i = 1 ∨ i = 2 by omega) with rfl | rfl | rfl
    · rw [if_neg (by omega), if_neg (by omega), if_pos ⟨rfl, rfl⟩]
    · rw [if_neg (by omega), if_pos ⟨rfl, rfl⟩]
    · rw [if_pos ⟨rfl, rfl⟩]
  · rw [if_neg (fun y => e18 y.1), if_neg (fun y => e18 y.1), if_neg (fun y => e18 y.1)]
    unfold ccF
    by_cases w : 10 ≤ j ∧ j < 10 + 6
    · rw [if_pos w]
      exact cp_at (by omega) _ _
    · rw [if_neg w]
      unfold scF
      by_cases w2 : j < 10
      · rw [if_pos w2]
        exact cp_at (by omega) _ _
      · rw [if_neg w2]
        unfold ssF
        rw [if_pos (by omega)]
        exact cp_at (by omega) _ _
theorem wI_vB {v a b : Int32} {A B : Int} (h : wI v a b) (ha : a.toInt = A) (hb : b.toInt = B) : vB v A B := by
  obtain ⟨h1, h2⟩ := h
  rw [Int32.lt_iff_toInt_lt, ha] at h1
  rw [Int32.lt_iff_toInt_lt, hb] at h2
  exact ⟨by omega, by omega⟩
theorem vB_nn {x : Int32} {a b : Int} (h : vB x a b) (h0 : 0 ≤ a) : 0 ≤ x := by
  rw [Int32.le_iff_toInt_le, Int32.toInt_zero]
  have := h.1
  omega
/-! set -/
theorem hI_set {n c : Nat} {F : hF} (a : hI n c F) {j : Nat} {v : Int32} (hj : (j = 0 ∧ vB v 1 60) ∨ (j = 1 ∧ vB v 1 9) ∨ (j = 2 ∧ vB v 1 999)) : hI n c (fs F 16 j v) := by
  obtain ⟨a1, a2, a3, a4, a5, a6, a7, a8, a9, a10, a11, a12, a13⟩ := a
  refine ⟨a1, a2, a3, a4, a5, a6, a7, a8, ?_, ?_, ?_, a12, a13⟩
  · rw [fs_at]
    split
    · next e => rcases hj with g | g | g
                · exact g.2
                · omega
                · omega
    · exact a9
  · rw [fs_at]
    split
    · next e => rcases hj with g | g | g
                · omega
                · exact g.2
                · omega
    · exact a10
  · rw [fs_at]
    split
    · next e => rcases hj with g | g | g
                · omega
                · omega
                · exact g.2
    · exact a11
theorem sm_set {n c h : Nat} {F E : hF} (H : sm n c h 0 (fun _ => 0) F E) (x v : Int32) :
    (isvP x v ∧ (chT3 F x v).1 = E 0 x.toNatClampNeg ∧ 0 ≤ (chT3 F x v).1 ∧ sm n c h 0 (fun _ => 0) (chT3 F x v).2 (fs E 0 x.toNatClampNeg v)) ∨ (¬ isvP x v ∧ chT3 F x v = (-2, F)) := by
  obtain ⟨hn, hc, hh, he, a, a0, al, r, w, m⟩ := id H
  by_cases q : isvP x v
  · left
    obtain ⟨j, hj, hx⟩ := isvP_n q
    have hcl : x.toNatClampNeg = j := by rw [hx, nI_clamp (by omega)]
    have hb : (j = 0 ∧ vB v 1 60) ∨ (j = 1 ∧ vB v 1 9) ∨ (j = 2 ∧ vB v 1 999) := by
      rcases q with ⟨e, g⟩ | ⟨e, g⟩ | ⟨e, g⟩
      · exact Or.inl ⟨nI_inj6 (by omega) (by decide) (hx.symm.trans e), wI_vB g (by decide) (by decide)⟩
      · exact Or.inr (Or.inl ⟨nI_inj6 (by omega) (by decide) (hx.symm.trans e), wI_vB g (by decide) (by decide)⟩)
      · exact Or.inr (Or.inr ⟨nI_inj6 (by omega) (by decide) (hx.symm.trans e), wI_vB g (by decide) (by decide)⟩)
    have hw : wI v 1 (hMst j) := by
      rcases q with ⟨e, g⟩ | ⟨e, g⟩ | ⟨e, g⟩
      · rw [nI_inj6 (a := j) (b := 0) (by omega) (by decide) (hx.symm.trans e)]; exact g
      · rw [nI_inj6 (a := j) (b := 1) (by omega) (by decide) (hx.symm.trans e)]; exact g
      · rw [nI_inj6 (a := j) (b := 2) (by omega) (by decide) (hx.symm.trans e)]; exact g
    have e1 : chT3 F x v = (F 16 j, fs F 16 j v) := by
      unfold chT3
      rw [hcl, if_pos ⟨by rw [hx]; exact nI_pos (by omega), by rw [hx]; exact nI_lt (b := 3) hj (by decide)⟩, if_pos hw]
    rw [e1, hcl]
    refine ⟨q, ?_, ?_, hn, hc, hh, he, hI_set a hb, a0, al, ?_, w.to (fun _ _ y => y) (fun _ => rfl) rfl (fun s hs => by rw [fs_at, if_neg (by omega)]), m.head _ (by omega) (by omega) (by omega)⟩
    · rcases (show j = 0 ∨ j = 1 ∨ j = 2 by omega) with rfl | rfl | rfl
      · exact r.2.2.2.1.symm
      · exact r.2.2.2.2.1.symm
      · exact r.2.2.2.2.2.1.symm
    · show 0 ≤ F 16 j
      rcases (show j = 0 ∨ j = 1 ∨ j = 2 by omega) with rfl | rfl | rfl
      · exact vB_nn a.2.2.2.2.2.2.2.2.1 (by decide)
      · exact vB_nn a.2.2.2.2.2.2.2.2.2.1 (by decide)
      · exact vB_nn a.2.2.2.2.2.2.2.2.2.2.1 (by decide)
    · exact r.head j 16 j v (by omega)
  · refine Or.inr ⟨q, ?_⟩
    unfold chT3
    split
    · next y =>
      obtain ⟨j, hj, hx⟩ := lt3_in y.1 y.2
      rw [hx, nI_clamp (by omega), if_neg]
      intro g
      apply q
      rcases (show j = 0 ∨ j = 1 ∨ j = 2 by omega) with rfl | rfl | rfl
      · exact Or.inl ⟨hx, g⟩
      · exact Or.inr (Or.inl ⟨hx, g⟩)
      · exact Or.inr (Or.inr ⟨hx, g⟩)
    · rfl
/-! stand -/
theorem apS_0 (F : hF) (n : Nat) (w1 w2 w3 w4 : Int32) : apS F n w1 w2 w3 w4 0 n = w1 := by
  unfold apS
  rw [fs_ne _ _ _ (by decide), fs_ne _ _ _ (by decide), fs_ne _ _ _ (by decide), fs_ne _ _ _ (by decide), fs_ne _ _ _ (by decide), fs_ne _ _ _ (by decide), fs_ne _ _ _ (by decide), fs_ne _ _ _ (by decide), fs_ne _ _ _ (by decide), fs_same]
theorem apS_1 (F : hF) (n : Nat) (w1 w2 w3 w4 : Int32) : apS F n w1 w2 w3 w4 1 n = w2 := by
  unfold apS
  rw [fs_ne _ _ _ (by decide), fs_ne _ _ _ (by decide), fs_ne _ _ _ (by decide), fs_ne _ _ _ (by decide), fs_ne _ _ _ (by decide), fs_ne _ _ _ (by decide), fs_ne _ _ _ (by decide), fs_ne _ _ _ (by decide), fs_same]
theorem apS_2 (F : hF) (n : Nat) (w1 w2 w3 w4 : Int32) : apS F n w1 w2 w3 w4 2 n = w3 := by
  unfold apS
  rw [fs_ne _ _ _ (by decide), fs_ne _ _ _ (by decide), fs_ne _ _ _ (by decide), fs_ne _ _ _ (by decide), fs_ne _ _ _ (by decide), fs_ne _ _ _ (by decide), fs_ne _ _ _ (by decide), fs_same]
theorem apS_3 (F : hF) (n : Nat) (w1 w2 w3 w4 : Int32) : apS F n w1 w2 w3 w4 3 n = w4 := by
  unfold apS
  rw [fs_ne _ _ _ (by decide), fs_ne _ _ _ (by decide), fs_ne _ _ _ (by decide), fs_ne _ _ _ (by decide), fs_ne _ _ _ (by decide), fs_ne _ _ _ (by decide), fs_same]
theorem apS_4 (F : hF) (n : Nat) (w1 w2 w3 w4 : Int32) : apS F n w1 w2 w3 w4 4 n = 0 := by
  unfold apS
  rw [fs_ne _ _ _ (by decide), fs_ne _ _ _ (by decide), fs_ne _ _ _ (by decide), fs_ne _ _ _ (by decide), fs_ne _ _ _ (by decide), fs_same]
theorem apS_5 (F : hF) (n : Nat) (w1 w2 w3 w4 : Int32) : apS F n w1 w2 w3 w4 5 n = w1 := by
  unfold apS
  rw [fs_ne _ _ _ (by decide), fs_ne _ _ _ (by decide), fs_ne _ _ _ (by decide), fs_ne _ _ _ (by decide), fs_same]
theorem apS_6 (F : hF) (n : Nat) (w1 w2 w3 w4 : Int32) : apS F n w1 w2 w3 w4 6 n = -6 := by
  unfold apS
  rw [fs_ne _ _ _ (by decide), fs_ne _ _ _ (by decide), fs_ne _ _ _ (by decide), fs_same]
theorem apS_7 (F : hF) (n : Nat) (w1 w2 w3 w4 : Int32) : apS F n w1 w2 w3 w4 7 n = -6 := by
  unfold apS
  rw [fs_ne _ _ _ (by decide), fs_ne _ _ _ (by decide), fs_same]
theorem apS_8 (F : hF) (n : Nat) (w1 w2 w3 w4 : Int32) : apS F n w1 w2 w3 w4 8 n = 0 := by
  unfold apS
  rw [fs_ne _ _ _ (by decide), fs_same]
theorem apS_9 (F : hF) (n : Nat) (w1 w2 w3 w4 : Int32) : apS F n w1 w2 w3 w4 9 n = 0 := by
  unfold apS
  rw [fs_same]
theorem apS_old (F : hF) (n : Nat) (w1 w2 w3 w4 : Int32) {i : Nat} (hi : i ≠ n) (j : Nat) : apS F n w1 w2 w3 w4 j i = F j i := by
  unfold apS
  rw [fs_at, if_neg (fun y => hi y.2), fs_at, if_neg (fun y => hi y.2), fs_at, if_neg (fun y => hi y.2), fs_at, if_neg (fun y => hi y.2), fs_at, if_neg (fun y => hi y.2), fs_at, if_neg (fun y => hi y.2), fs_at, if_neg (fun y => hi y.2), fs_at, if_neg (fun y => hi y.2), fs_at, if_neg (fun y => hi y.2), fs_at, if_neg (fun y => hi y.2)]
theorem apS_big (F : hF) (n : Nat) (w1 w2 w3 w4 : Int32) {j : Nat} (hj : 10 ≤ j) : apS F n w1 w2 w3 w4 j = F j := by
  unfold apS
  rw [fs_ne _ _ _ (by omega), fs_ne _ _ _ (by omega), fs_ne _ _ _ (by omega), fs_ne _ _ _ (by omega), fs_ne _ _ _ (by omega), fs_ne _ _ _ (by omega), fs_ne _ _ _ (by omega), fs_ne _ _ _ (by omega), fs_ne _ _ _ (by omega), fs_ne _ _ _ (by omega)]
theorem cms_0 (E : hF) (n : Nat) (w1 w2 w3 w4 : Int32) : cmsE E n w1 w2 w3 w4 0 (8 + 10 * n + 0) = w1 := by
  unfold cmsE
  rw [fs_at, if_neg (by omega), fs_at, if_neg (by omega), fs_at, if_neg (by omega), fs_at, if_neg (by omega), fs_at, if_neg (by omega), fs_at, if_neg (by omega), fs_at, if_neg (by omega), fs_at, if_neg (by omega), fs_at, if_neg (by omega), fs_at, if_neg (by omega), fs_same]
theorem cms_1 (E : hF) (n : Nat) (w1 w2 w3 w4 : Int32) : cmsE E n w1 w2 w3 w4 0 (8 + 10 * n + 1) = w2 := by
  unfold cmsE
  rw [fs_at, if_neg (by omega), fs_at, if_neg (by omega), fs_at, if_neg (by omega), fs_at, if_neg (by omega), fs_at, if_neg (by omega), fs_at, if_neg (by omega), fs_at, if_neg (by omega), fs_at, if_neg (by omega), fs_at, if_neg (by omega), fs_same]
theorem cms_2 (E : hF) (n : Nat) (w1 w2 w3 w4 : Int32) : cmsE E n w1 w2 w3 w4 0 (8 + 10 * n + 2) = w3 := by
  unfold cmsE
  rw [fs_at, if_neg (by omega), fs_at, if_neg (by omega), fs_at, if_neg (by omega), fs_at, if_neg (by omega), fs_at, if_neg (by omega), fs_at, if_neg (by omega), fs_at, if_neg (by omega), fs_at, if_neg (by omega), fs_same]
theorem cms_3 (E : hF) (n : Nat) (w1 w2 w3 w4 : Int32) : cmsE E n w1 w2 w3 w4 0 (8 + 10 * n + 3) = w4 := by
  unfold cmsE
  rw [fs_at, if_neg (by omega), fs_at, if_neg (by omega), fs_at, if_neg (by omega), fs_at, if_neg (by omega), fs_at, if_neg (by omega), fs_at, if_neg (by omega), fs_at, if_neg (by omega), fs_same]
theorem cms_4 (E : hF) (n : Nat) (w1 w2 w3 w4 : Int32) : cmsE E n w1 w2 w3 w4 0 (8 + 10 * n + 4) = 0 := by
  unfold cmsE
  rw [fs_at, if_neg (by omega), fs_at, if_neg (by omega), fs_at, if_neg (by omega), fs_at, if_neg (by omega), fs_at, if_neg (by omega), fs_at, if_neg (by omega), fs_same]
theorem cms_5 (E : hF) (n : Nat) (w1 w2 w3 w4 : Int32) : cmsE E n w1 w2 w3 w4 0 (8 + 10 * n + 5) = w1 := by
  unfold cmsE
  rw [fs_at, if_neg (by omega), fs_at, if_neg (by omega), fs_at, if_neg (by omega), fs_at, if_neg (by omega), fs_at, if_neg (by omega), fs_same]
theorem cms_6 (E : hF) (n : Nat) (w1 w2 w3 w4 : Int32) : cmsE E n w1 w2 w3 w4 0 (8 + 10 * n + 6) = -6 := by
  unfold cmsE
  rw [fs_at, if_neg (by omega), fs_at, if_neg (by omega), fs_at, if_neg (by omega), fs_at, if_neg (by omega), fs_same]
theorem cms_7 (E : hF) (n : Nat) (w1 w2 w3 w4 : Int32) : cmsE E n w1 w2 w3 w4 0 (8 + 10 * n + 7) = -6 := by
  unfold cmsE
  rw [fs_at, if_neg (by omega), fs_at, if_neg (by omega), fs_at, if_neg (by omega), fs_same]
theorem cms_8 (E : hF) (n : Nat) (w1 w2 w3 w4 : Int32) : cmsE E n w1 w2 w3 w4 0 (8 + 10 * n + 8) = 0 := by
  unfold cmsE
  rw [fs_at, if_neg (by omega), fs_at, if_neg (by omega), fs_same]
theorem cms_9 (E : hF) (n : Nat) (w1 w2 w3 w4 : Int32) : cmsE E n w1 w2 w3 w4 0 (8 + 10 * n + 9) = 0 := by
  unfold cmsE
  rw [fs_at, if_neg (by omega), fs_same]
theorem cms_4h (E : hF) (n : Nat) (w1 w2 w3 w4 : Int32) : cmsE E n w1 w2 w3 w4 0 4 = nI n + 1 := by
  unfold cmsE
  rw [fs_same]
theorem cms_o (E : hF) (n : Nat) (w1 w2 w3 w4 : Int32) {i : Nat} (h4 : i ≠ 4) (hi : i < 8 + 10 * n ∨ 8 + 10 * n + 9 < i) : cmsE E n w1 w2 w3 w4 0 i = E 0 i := by
  unfold cmsE
  rw [fs_at, if_neg (by omega), fs_at, if_neg (by omega), fs_at, if_neg (by omega), fs_at, if_neg (by omega), fs_at, if_neg (by omega), fs_at, if_neg (by omega), fs_at, if_neg (by omega), fs_at, if_neg (by omega), fs_at, if_neg (by omega), fs_at, if_neg (by omega), fs_at, if_neg (by omega)]
theorem sm_addS {n c h : Nat} {F E : hF} (H : sm n c h 0 (fun _ => 0) F E) (hn20 : n < 20) {w1 w2 w3 w4 : Int32} (h1 : vB w1 1 99) (h4 : w4 = -6 ∨ ∃ b, b < n ∧ w4 = nI b) : sm (n + 1) c h 0 (fun _ => 0) (apS F n w1 w2 w3 w4) (cmsE E n w1 w2 w3 w4) := by
  obtain ⟨hn, hc, hh, he, a, a0, al, r, w, m⟩ := H
  obtain ⟨a1, a2, a3, a4, a5, a6, a7, a8, a9, a10, a11, a12, a13⟩ := a
  obtain ⟨r1, r2, r3, r4, r5, r6, r7, r8, r9⟩ := r
  obtain ⟨m1, m2, m3, m4, m5, m6, m7⟩ := m
  have old : ∀ j i, i ≠ n → apS F n w1 w2 w3 w4 j i = F j i := fun j i hi => apS_old F n w1 w2 w3 w4 hi j
  have big : ∀ j i, 10 ≤ j → apS F n w1 w2 w3 w4 j i = F j i := fun j i hj => congrFun (apS_big F n w1 w2 w3 w4 hj) i
  have eo : ∀ i, i ≠ 4 → (i < 8 + 10 * n ∨ 8 + 10 * n + 9 < i) → cmsE E n w1 w2 w3 w4 0 i = E 0 i := fun i h4 hi => cms_o E n w1 w2 w3 w4 h4 hi
  have ne0 := apS_0 F n w1 w2 w3 w4
  have ne3 := apS_3 F n w1 w2 w3 w4
  have ne4 := apS_4 F n w1 w2 w3 w4
  have ne5 := apS_5 F n w1 w2 w3 w4
  have ne6' := apS_6 F n w1 w2 w3 w4
  refine ⟨by omega, hc, hh, he, ⟨fun s hs => ?_, fun s hs => ?_, fun s hs => ?_, fun s hs => ?_, fun s hs => ?_, fun k hk => ?_, fun k hk => ?_, ?_, ?_, ?_, ?_, fun p hp => ?_, fun s hs => ?_⟩, ?_, ?_, ⟨fun s j hs hj h8 => ?_, fun k j hk hj hj4 => ?_, fun k hk => ?_, ?_, ?_, ?_, ?_, ?_, ?_⟩, fun s hs q => ?_, ⟨by omega, m2, ?_, ?_, fun s hs => ?_, fun s hs => ?_, fun k hk => ?_⟩⟩
  · by_cases e : s = n
    · rw [e, ne0]; exact h1
    · rw [old _ _ e]; exact a1 s (by omega)
  · by_cases e : s = n
    · rw [e, ne4]; decide
    · rw [old _ _ e]; exact a2 s (by omega)
  · by_cases e : s = n
    · rw [e, ne5]; exact ⟨by have := h1.1; omega, h1.2⟩
    · rw [old _ _ e]; exact a3 s (by omega)
  · by_cases e : s = n
    · rw [e, ne6']; exact Or.inl rfl
    · rw [old _ _ e]; exact a4 s (by omega)
  · by_cases e : s = n
    · rw [e, ne6']; exact fun _ => rfl
    · rw [old _ _ e, old _ _ e]; exact a5 s (by omega)
  · rw [big _ _ (by decide)]; exact a6 k hk
  · rw [big 12 _ (by decide)]
    rcases a7 k hk with y | ⟨t, ht, y1, y2, y3⟩
    · exact Or.inl y
    · exact Or.inr ⟨t, by omega, y1, by rw [old _ _ (by omega)]; exact y2, by rw [old _ _ (by omega), big 18 _ (by decide)]; exact y3⟩
  · rw [big _ _ (by decide)]; exact a8
  · rw [big _ _ (by decide)]; exact a9
  · rw [big _ _ (by decide)]; exact a10
  · rw [big _ _ (by decide)]; exact a11
  · rw [big _ _ (by decide), a12 p hp]
    show _ = sumN n (fun s => if apS F n w1 w2 w3 w4 6 s = nI p then apS F n w1 w2 w3 w4 2 s else 0) + (if apS F n w1 w2 w3 w4 6 n = nI p then apS F n w1 w2 w3 w4 2 n else 0)
    rw [ne6', if_neg (ne6 hp), Int32.add_zero]
    exact (sumN_c n fun s hs => by rw [old _ _ (by omega), old _ _ (by omega)]).symm
  · by_cases e : s = n
    · rw [e, ne3]
      rcases h4 with y | ⟨b, hb, y⟩
      · exact Or.inl y
      · exact Or.inr ⟨b, by omega, y⟩
    · rw [old _ _ e]
      rcases a13 s (by omega) with y | ⟨b, hb, y⟩
      · exact Or.inl y
      · exact Or.inr ⟨b, by omega, y⟩
  · rw [big _ _ (by decide)]; exact a0
  · rw [big _ _ (by decide)]; exact al
  · by_cases e : s = n
    · subst e
      rcases (show j = 0 ∨ j = 1 ∨ j = 2 ∨ j = 3 ∨ j = 4 ∨ j = 5 ∨ j = 6 ∨ j = 7 ∨ j = 9 by omega) with rfl | rfl | rfl | rfl | rfl | rfl | rfl | rfl | rfl
      · exact (cms_0 E s w1 w2 w3 w4).trans (apS_0 F s w1 w2 w3 w4).symm
      · exact (cms_1 E s w1 w2 w3 w4).trans (apS_1 F s w1 w2 w3 w4).symm
      · exact (cms_2 E s w1 w2 w3 w4).trans (apS_2 F s w1 w2 w3 w4).symm
      · exact (cms_3 E s w1 w2 w3 w4).trans (apS_3 F s w1 w2 w3 w4).symm
      · exact (cms_4 E s w1 w2 w3 w4).trans (apS_4 F s w1 w2 w3 w4).symm
      · exact (cms_5 E s w1 w2 w3 w4).trans (apS_5 F s w1 w2 w3 w4).symm
      · exact (cms_6 E s w1 w2 w3 w4).trans (apS_6 F s w1 w2 w3 w4).symm
      · exact (cms_7 E s w1 w2 w3 w4).trans (apS_7 F s w1 w2 w3 w4).symm
      · exact (cms_9 E s w1 w2 w3 w4).trans (apS_8 F s w1 w2 w3 w4).symm
    · rw [eo _ (by omega) (by omega), old _ _ e]; exact r1 s j (by omega) hj h8
  · rw [eo _ (by omega) (by omega), big _ _ (by unfold qj; split <;> omega)]; exact r2 k j hk hj hj4
  · rw [eo _ (by omega) (by omega), big 13 _ (by decide), big 11 _ (by decide)]; exact r3 k hk
  · rw [eo _ (by omega) (by omega), big _ _ (by decide)]; exact r4
  · rw [eo _ (by omega) (by omega), big _ _ (by decide)]; exact r5
  · rw [eo _ (by omega) (by omega), big _ _ (by decide)]; exact r6
  · rw [eo _ (by omega) (by omega), big _ _ (by decide)]; exact r7
  · rw [eo _ (by omega) (by omega), big _ _ (by decide)]; exact r8
  · rw [eo _ (by omega) (by omega), big _ _ (by decide)]; exact r9
  · by_cases e : s = n
    · rw [e, ne4] at q
      exact absurd q (by decide)
    · rw [old _ _ e] at q
      obtain ⟨v, b1, b2, b3, b4⟩ := w s (by omega) q
      exact ⟨v, b1, b2, by rw [old _ _ e, big 18 _ (by decide)]; exact b3, by rw [eo _ (by omega) (by omega)]; exact b4⟩
  · rw [cms_4h, nI_1]
  · rw [eo _ (by omega) (by omega)]; exact m4
  · by_cases e : s = n
    · subst e
      rw [cms_3]
      rcases h4 with y | ⟨b, hb, y⟩
      · exact Or.inl y
      · exact Or.inr ⟨b, by omega, y⟩
    · rw [eo _ (by omega) (by omega)]
      rcases m5 s (by omega) with y | ⟨b, hb, y⟩
      · exact Or.inl y
      · exact Or.inr ⟨b, by omega, y⟩
  · by_cases e : s = n
    · subst e
      rw [cms_7]
      exact Or.inl rfl
    · rw [eo _ (by omega) (by omega)]; exact m6 s (by omega)
  · rw [eo _ (by omega) (by omega)]
    rcases m7 k hk with y | ⟨b, hb, y⟩
    · exact Or.inl y
    · exact Or.inr ⟨b, by omega, y⟩
