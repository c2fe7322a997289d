/-! the object and the reference: what holds between calls -/
def SZ (n c : Nat) (F E : hF) : Prop := SV n c F E ∧ zL n F
theorem SV.ee {n c : Nat} {F E E' : hF} (H : SV n c F E) (k : ∀ i, i < 250 → E' 0 i = E 0 i) : SV n c F E' := by
  obtain ⟨h, hh, H⟩ := H
  exact ⟨h, hh, H.ee k⟩
theorem SV.ff {n c : Nat} {F F' E : hF} (H : SV n c F E) (k : eqF F F') : SV n c F' E := by
  obtain ⟨h, hh, H⟩ := H
  exact ⟨h, hh, H.ff k⟩
theorem SV.hn {n c : Nat} {F E : hF} (H : SV n c F E) : n ≤ 20 := H.choose_spec.2.1
theorem SV.hc {n c : Nat} {F E : hF} (H : SV n c F E) : c ≤ 6 := H.choose_spec.2.2.1
theorem SV.b {n c : Nat} {F E : hF} (H : SV n c F E) : F 18 1 = 0 ∨ F 18 1 = 1 := H.choose_spec.2.2.2.2.2.1.2.2.2.2.2.2.2.1
theorem SV.m {n c : Nat} {F E : hF} (H : SV n c F E) : mOk n c E := H.choose_spec.2.2.2.2.2.2.2.2.2.2
theorem SZ.ee {n c : Nat} {F E E' : hF} (H : SZ n c F E) (k : ∀ i, i < 250 → E' 0 i = E 0 i) : SZ n c F E' := ⟨H.1.ee k, H.2⟩
theorem SZ.ff {n c : Nat} {F F' E : hF} (H : SZ n c F E) (k : eqF F F') : SZ n c F' E := ⟨H.1.ff k, zL_ff H.2 H.1.hn k⟩
/-- a block of 250 -/
def bk (g : Nat → Int32) (o : Nat) : hF := fun _ p => g (250 * o + p)
def RJ (n c : Nat) (F : hF) (x y : Nat) (N C : Nat → Nat) (Fs : Nat → hF) (sv : Nat → Int32) (SN SC : Nat → Nat) (SFs : Nat → hF) (pl : Nat) (T : Nat → Int32) (E : hF) : Prop :=
  SZ n c F E ∧ (x < 7 ∧ y ≤ 6 ∧ E 6 0 = nI y) ∧ (∀ i, i < y → SZ (N ((x + 6 - i) % 7)) (C ((x + 6 - i) % 7)) (Fs ((x + 6 - i) % 7)) (bk (E 2) (y - 1 - i))) ∧ (∀ i, Fs i 18 1 = 0 ∨ Fs i 18 1 = 1) ∧ (∀ i, SFs i 18 1 = 0 ∨ SFs i 18 1 = 1) ∧
  (∀ i, i < 2 → (E 4 i = 0 ∧ sv i = 0) ∨ (¬ E 4 i = 0 ∧ ¬ sv i = 0 ∧ SZ (SN i) (SC i) (SFs i) (bk (E 3) i))) ∧
  (pl ≤ 80 ∧ E 6 1 = nI pl ∧ (∀ i, i < pl → T i = E 5 i ∧ ∃ v, 33 ≤ v ∧ v ≤ 126 ∧ T i = nI v) ∧ (∀ i, narrow .char (.int (T i)) = .int (T i)))
theorem recE_2 (E : hF) (r : Nat) : recE E r 2 = if r = 6 then mvN 250 (E 0) 0 (shN 1250 (E 2)) (5 * 250) else mvN 250 (E 0) 0 (E 2) (r * 250) := by
  unfold recE
  by_cases e : r = 6
  · rw [if_pos e, if_pos e, fs_ne _ _ _ (by decide), fr_same]
  · rw [if_neg e, if_neg e, fs_ne _ _ _ (by decide), fr_same]
section RLs
variable {n c : Nat} {F : hF} {x y : Nat} {N C : Nat → Nat} {Fs : Nat → hF} {sv : Nat → Int32} {SN SC : Nat → Nat} {SFs : Nat → hF} {pl : Nat} {T : Nat → Int32} {E : hF}
theorem hcF_b (F F' : hF) : hcF F F' 18 1 = F 18 1 := hcF_eq F F' 18 1 (by omega)
theorem RJ.fsb (H : RJ n c F x y N C Fs sv SN SC SFs pl T E) (i : Nat) : up Fs x (hcF F (Fs x)) i 18 1 = 0 ∨ up Fs x (hcF F (Fs x)) i 18 1 = 1 := by
  by_cases e : i = x
  · rw [e, up_same, hcF_b]; exact H.1.1.b
  · rw [up_ne _ _ e]; exact H.2.2.2.1 i
/-- a change that fails: the ring's free place is written, nothing else -/
theorem RJ.err (H : RJ n c F x y N C Fs sv SN SC SFs pl T E) : RJ n c F x y (up N x n) (up C x c) (up Fs x (hcF F (Fs x))) sv SN SC SFs pl T E := by
  have hf := H.fsb
  obtain ⟨h1, ⟨h2, h3, h4⟩, h5, h6, h7, h8, h9⟩ := H
  refine ⟨h1, ⟨h2, h3, h4⟩, fun i hi => ?_, hf, h7, h8, h9⟩
  rw [up_ne _ _ (by omega), up_ne _ _ (by omega), up_ne _ _ (by omega)]
  exact h5 i hi
/-- a change that is recorded -/
theorem RJ.chg {n' c' pl' : Nat} {F' E' : hF} {a : Int32} (H : RJ n c F x y N C Fs sv SN SC SFs pl T E) (ha : 0 ≤ a) (hS : SZ n' c' F' E') (e2 : E' 2 = recE E y 2) (e3 : E' 3 = E 3) (e4 : E' 4 = E 4) (e5 : E' 5 = E 5) (e60 : E' 6 0 = recE E y 6 0) (e61 : E' 6 1 = nI pl') (hpl : pl' ≤ pl) : RJ n' c' F' (rgN a x) (rgK a y) (up N x n) (up C x c) (up Fs x (hcF F (Fs x))) sv SN SC SFs pl' T E' := by
  have hf := H.fsb
  obtain ⟨h1, ⟨h2, h3, h4⟩, h5, h6, h7, h8, h9, h10, h11, h12⟩ := H
  have hx : rgN a x = if x + 1 < 7 then x + 1 else 0 := if_neg (Int32.not_lt.mpr ha)
  have hy : rgK a y = min (y + 1) 6 := if_neg (Int32.not_lt.mpr ha)
  rw [hx, hy]
  refine ⟨hS, ⟨by split <;> omega, by omega, ?_⟩, fun i hi => ?_, hf, h7, fun i hi => ?_, by omega, e61, fun i hi => ?_, h12⟩
  · rw [e60, recE_60]
    by_cases e : y = 6
    · rw [if_pos e, e]; rfl
    · rw [if_neg e, nI_1, show min (y + 1) 6 = y + 1 by omega]
  · have hix : ((if x + 1 < 7 then x + 1 else 0) + 6 - i) % 7 = if i = 0 then x else (x + 6 - (i - 1)) % 7 := by
      split <;> split <;> omega
    rw [hix]
    by_cases e0 : i = 0
    · rw [if_pos e0, up_same, up_same, up_same]
      refine (h1.ff (hcF_eq F (Fs x))).ee fun p hp => ?_
      show E' 2 (250 * (min (y + 1) 6 - 1 - i) + p) = E 0 p
      rw [e2, recE_2]
      by_cases e : y = 6
      · rw [if_pos e]
        simp only [mvN]
        rw [if_pos (by omega)]
        exact congrArg (E 0) (by omega)
      · rw [if_neg e]
        simp only [mvN]
        rw [if_pos (by omega)]
        exact congrArg (E 0) (by omega)
    · rw [if_neg e0, up_ne _ _ (by omega), up_ne _ _ (by omega), up_ne _ _ (by omega)]
      refine (h5 (i - 1) (by omega)).ee fun p hp => ?_
      show E' 2 (250 * (min (y + 1) 6 - 1 - i) + p) = E 2 (250 * (y - 1 - (i - 1)) + p)
      rw [e2, recE_2]
      by_cases e : y = 6
      · rw [if_pos e]
        simp only [mvN, shN]
        rw [if_neg (by omega), if_pos (by omega)]
        exact congrArg (E 2) (by omega)
      · rw [if_neg e]
        simp only [mvN]
        rw [if_neg (by omega)]
        exact congrArg (E 2) (by omega)
  · rw [e3, e4]; exact h8 i hi
  · rw [e5]; exact h11 i (by omega)
theorem RJ.undo (H : RJ n c F x y N C Fs sv SN SC SFs pl T E) (hy : ¬ y = 0) : RJ (N (bkN x y)) (C (bkN x y)) (hcF (Fs (bkN x y)) F) (bkN x y) (y - 1) N C Fs sv SN SC SFs pl T (undE E y) := by
  obtain ⟨h1, ⟨h2, h3, h4⟩, h5, h6, h7, h8, h9, h10, h11, h12⟩ := H
  have hj : bkN x y = (x + 6) % 7 := by
    unfold bkN
    rw [if_neg hy]
    split <;> omega
  have eE : undE E y = fr (fs E 6 0 (nI (y - 1))) 0 (mvN 250 (E 2) ((y - 1) * 250) (E 0) 0) := if_neg hy
  have hro : ∀ j, j ≠ 0 → j ≠ 6 → undE E y j = E j := fun j h0 h6' => by rw [eE, fr_ne _ _ h0, fs_ne _ _ _ h6']
  have h0 := h5 0 (by omega)
  rw [Nat.sub_zero] at h0
  rw [hj]
  refine ⟨(h0.ff (hcF_eq _ F)).ee fun p hp => ?_, ⟨by omega, by omega, by rw [eE, fr_ne _ _ (by decide), fs_same]⟩, fun i hi => ?_, h6, h7, fun i hi => ?_, h9, ?_, fun i hi => ?_, h12⟩
  · rw [eE, fr_same]
    show mvN 250 (E 2) ((y - 1) * 250) (E 0) 0 p = E 2 (250 * (y - 1 - 0) + p)
    simp only [mvN]
    rw [if_pos (by omega)]
    exact congrArg (E 2) (by omega)
  · have e := h5 (i + 1) (by omega)
    rw [show ((x + 6) % 7 + 6 - i) % 7 = (x + 6 - (i + 1)) % 7 by omega, hro 2 (by decide) (by decide), show y - 1 - 1 - i = y - 1 - (i + 1) by omega]
    exact e
  · rw [hro 3 (by decide) (by decide), hro 4 (by decide) (by decide)]; exact h8 i hi
  · rw [eE, fr_ne _ _ (by decide), fs_at, if_neg (by omega)]; exact h10
  · rw [hro 5 (by decide) (by decide)]; exact h11 i hi
theorem RJ.save {i : Nat} (H : RJ n c F x y N C Fs sv SN SC SFs pl T E) (hi : i < 2) {v : Int32} (hv : ¬ v = 0) : RJ n c F x y N C Fs (upd sv i v) (up SN i n) (up SC i c) (up SFs i (hcF F (SFs i))) pl T (fs (fr E 3 (mvN 250 (E 0) 0 (E 3) (250 * i))) 4 i 1) := by
  obtain ⟨h1, ⟨h2, h3, h4⟩, h5, h6, h7, h8, h9, h10, h11, h12⟩ := H
  have hro : ∀ j, j ≠ 3 → j ≠ 4 → fs (fr E 3 (mvN 250 (E 0) 0 (E 3) (250 * i))) 4 i 1 j = E j := fun j h3' h4' => by rw [fs_ne _ _ _ h4', fr_ne _ _ h3']
  refine ⟨h1.ee fun p _ => by rw [hro 0 (by decide) (by decide)], ⟨h2, h3, by rw [hro 6 (by decide) (by decide)]; exact h4⟩, fun j hj => by rw [hro 2 (by decide) (by decide)]; exact h5 j hj, h6, fun j => ?_, fun j hj => ?_, h9, by rw [hro 6 (by decide) (by decide)]; exact h10, fun j hj => by rw [hro 5 (by decide) (by decide)]; exact h11 j hj, h12⟩
  · by_cases e : j = i
    · rw [e, up_same, hcF_b]; exact h1.1.b
    · rw [up_ne _ _ e]; exact h7 j
  · have e3 : fs (fr E 3 (mvN 250 (E 0) 0 (E 3) (250 * i))) 4 i 1 3 = mvN 250 (E 0) 0 (E 3) (250 * i) := by rw [fs_ne _ _ _ (by decide), fr_same]
    rw [e3]
    by_cases e : j = i
    · right
      subst e
      rw [fs_same, pk_us, up_same, up_same, up_same]
      refine ⟨by decide, hv, (h1.ff (hcF_eq F _)).ee fun p hp => ?_⟩
      show mvN 250 (E 0) 0 (E 3) (250 * j) (250 * j + p) = E 0 p
      simp only [mvN]
      rw [if_pos (by omega)]
      exact congrArg (E 0) (by omega)
    · rw [fs_at, if_neg (fun y => e y.2), fr_ne _ _ (by decide), pk_un e, up_ne _ _ e, up_ne _ _ e, up_ne _ _ e]
      rcases h8 j hj with g | ⟨g1, g2, g3⟩
      · exact Or.inl g
      · refine Or.inr ⟨g1, g2, g3.ee fun p hp => ?_⟩
        show mvN 250 (E 0) 0 (E 3) (250 * i) (250 * j + p) = E 3 (250 * j + p)
        simp only [mvN]
        rw [if_neg (by omega)]
theorem RJ.pad {pl' : Nat} {T' : Nat → Int32} {E' : hF} (H : RJ n c F x y N C Fs sv SN SC SFs pl T E) (k : ∀ j, j ≠ 5 → j ≠ 6 → E' j = E j) (k60 : E' 6 0 = E 6 0) (k61 : E' 6 1 = nI pl') (hpl : pl' ≤ 80) (ht : ∀ i, i < pl' → T' i = E' 5 i ∧ ∃ v, 33 ≤ v ∧ v ≤ 126 ∧ T' i = nI v) (hT : ∀ i, narrow .char (.int (T' i)) = .int (T' i)) : RJ n c F x y N C Fs sv SN SC SFs pl' T' E' := by
  obtain ⟨h1, ⟨h2, h3, h4⟩, h5, h6, h7, h8, h9⟩ := H
  refine ⟨h1.ee fun p _ => by rw [k 0 (by decide) (by decide)], ⟨h2, h3, k60.trans h4⟩, fun j hj => by rw [k 2 (by decide) (by decide)]; exact h5 j hj, h6, h7, fun j hj => by rw [k 3 (by decide) (by decide), k 4 (by decide) (by decide)]; exact h8 j hj, hpl, k61, ht, hT⟩
/-- row 1 is free -/
theorem RJ.row1 {E' : hF} (H : RJ n c F x y N C Fs sv SN SC SFs pl T E) (k : ∀ j, j ≠ 1 → E' j = E j) : RJ n c F x y N C Fs sv SN SC SFs pl T E' := by
  obtain ⟨h1, ⟨h2, h3, h4⟩, h5, h6, h7, h8, h9, h10, h11, h12⟩ := H
  refine ⟨h1.ee fun p _ => by rw [k 0 (by decide)], ⟨h2, h3, by rw [k 6 (by decide)]; exact h4⟩, fun j hj => by rw [k 2 (by decide)]; exact h5 j hj, h6, h7, fun j hj => by rw [k 3 (by decide), k 4 (by decide)]; exact h8 j hj, h9, by rw [k 6 (by decide)]; exact h10, fun j hj => by rw [k 5 (by decide)]; exact h11 j hj, h12⟩
end RLs
