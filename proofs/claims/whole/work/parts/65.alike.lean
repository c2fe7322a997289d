/-! each call answers alike and keeps what holds between calls -/
theorem rgN_neg {a : Int32} {x : Nat} (h : a < 0) : rgN a x = x := if_pos h
theorem rgK_neg {a : Int32} {y : Nat} (h : a < 0) : rgK a y = y := if_pos h
theorem whyS_rec (E : hF) (r : Nat) (w1 w2 w3 w4 : Int32) : whyS (recE E r) w1 w2 w3 w4 = whyS E w1 w2 w3 w4 := by
  unfold whyS
  rw [recE_0]
theorem whcS_rec (E : hF) (r : Nat) (x y : Int32) : whcS (recE E r) x y = whcS E x y := by
  unfold whcS
  rw [recE_0]
theorem whpS_rec (E : hF) (r : Nat) (x : Int32) : whpS (recE E r) x = whpS E x := by
  unfold whpS
  rw [recE_0]
section ALIKE
variable {n c : Nat} {F : hF} {x y : Nat} {N C : Nat → Nat} {Fs : Nat → hF} {sv : Nat → Int32} {SN SC : Nat → Nat} {SFs : Nat → hF} {pl : Nat} {T : Nat → Int32} {E : hF}
theorem RJ.chg0 {n' c' : Nat} {F' E' : hF} {a : Int32} (H : RJ n c F x y N C Fs sv SN SC SFs pl T E) (ha : 0 ≤ a) (hS : SZ n' c' F' E') (hr : sr0 (recE E y) E') : RJ n' c' F' (rgN a x) (rgK a y) (up N x n) (up C x c) (up Fs x (hcF F (Fs x))) sv SN SC SFs pl T E' :=
  H.chg ha hS (hr 2 (by decide)) ((hr 3 (by decide)).trans (recE_ne E y (by decide) (by decide))) ((hr 4 (by decide)).trans (recE_ne E y (by decide) (by decide))) ((hr 5 (by decide)).trans (recE_ne E y (by decide) (by decide))) (congrFun (hr 6 (by decide)) 0) ((congrFun (hr 6 (by decide)) 1).trans ((recE_6 E y (by decide)).trans H.2.2.2.2.2.2.2.1)) (Nat.le_refl _)
theorem RJ.err0 {a : Int32} (H : RJ n c F x y N C Fs sv SN SC SFs pl T E) (ha : a < 0) : RJ n c F (rgN a x) (rgK a y) (up N x n) (up C x c) (up Fs x (hcF F (Fs x))) sv SN SC SFs pl T E := by
  rw [rgN_neg ha, rgK_neg ha]
  exact H.err
theorem RJ.rec (H : RJ n c F x y N C Fs sv SN SC SFs pl T E) : SZ n c F (recE E y) := H.1.ee fun i _ => by rw [recE_0]
theorem cl_set (H : RJ n c F x y N C Fs sv SN SC SFs pl T E) (a v : Int32) : (chT3 F a v).1 = setR E a v ∧ RJ n c (chT3 F a v).2 (rgN (chT3 F a v).1 x) (rgK (chT3 F a v).1 y) (up N x n) (up C x c) (up Fs x (hcF F (Fs x))) sv SN SC SFs pl T (setE E y a v) := by
  unfold setR setE
  rcases op_set H.rec.1 a v with ⟨h1, h2, h3, h4⟩ | ⟨h1, h2⟩
  · rw [if_pos h1, if_pos h1]
    exact ⟨h2.trans (by rw [recE_0]), H.chg0 h3 ⟨h4, zL_set H.1.2⟩ (sr0.rfl'.fs _ _)⟩
  · rw [if_neg h1, if_neg h1, h2]
    exact ⟨rfl, H.err0 (show (-2 : Int32) < 0 from by decide)⟩
theorem cl_stand (H : RJ n c F x y N C Fs sv SN SC SFs pl T E) (w1 w2 w3 w4 : Int32) : (adT n F w1 w2 w3 w4).1 = stdR E n w1 w2 w3 w4 ∧ RJ (adT n F w1 w2 w3 w4).2.1 c (adT n F w1 w2 w3 w4).2.2 (rgN (adT n F w1 w2 w3 w4).1 x) (rgK (adT n F w1 w2 w3 w4).1 y) (up N x n) (up C x c) (up Fs x (hcF F (Fs x))) sv SN SC SFs pl T (stdE E n y w1 w2 w3 w4) := by
  unfold stdR stdE
  have hn := H.1.1.hn
  rcases op_add H.rec.1 w1 w2 w3 w4 with ⟨h1, h2, h4⟩ | ⟨h1, h2⟩
  · rw [whyS_rec] at h1
    rw [h1, if_pos (by decide), if_pos (by decide), h2]
    exact ⟨rfl, H.chg0 (nI_pos' (by omega)) ⟨h4, zL_add H.1.2⟩ (sr_cmsE _ _ _ _ _ _)⟩
  · rw [whyS_rec] at h1 h2
    rw [if_neg (Int32.not_le.mpr h1), if_neg (Int32.not_le.mpr h1), h2]
    exact ⟨rfl, H.err0 h1⟩
theorem cl_crew (H : RJ n c F x y N C Fs sv SN SC SFs pl T E) (a v : Int32) : (acT c F a v).1 = crwR E c a v ∧ RJ n (acT c F a v).2.1 (acT c F a v).2.2 (rgN (acT c F a v).1 x) (rgK (acT c F a v).1 y) (up N x n) (up C x c) (up Fs x (hcF F (Fs x))) sv SN SC SFs pl T (crwE E c y a v) := by
  unfold crwR crwE
  have hc := H.1.1.hc
  rcases op_crew H.rec.1 a v with ⟨h1, h2, h4⟩ | ⟨h1, h2⟩
  · rw [whcS_rec] at h1
    rw [h1, if_pos (by decide), if_pos (by decide), h2]
    exact ⟨rfl, H.chg0 (nI_pos' (by omega)) ⟨h4, zL_crew H.1.2⟩ (sr_cmcE _ _ _ _)⟩
  · rw [whcS_rec] at h1 h2
    rw [if_neg (Int32.not_le.mpr h1), if_neg (Int32.not_le.mpr h1), h2]
    exact ⟨rfl, H.err0 h1⟩
theorem cl_end (H : RJ n c F x y N C Fs sv SN SC SFs pl T E) : (enT n c F).1 = endR n E y ∧ RJ n c (enT n c F).2 (rgN (enT n c F).1 x) (rgK (enT n c F).1 y) (up N x n) (up C x c) (up Fs x (hcF F (Fs x))) sv SN SC SFs pl T (endE n E y) := by
  unfold endR endE
  rcases op_end H.rec.1 with ⟨h1, h2, h3, h4⟩ | ⟨h1, h2⟩
  · rw [recE_0] at h1
    rw [if_neg h1, if_neg h1]
    exact ⟨h2, H.chg0 h3 ⟨h4, zL_end H.1.2⟩ (sr_ens n (recE E y) n)⟩
  · rw [recE_0] at h1
    rw [if_pos h1, if_pos h1, h2]
    exact ⟨rfl, H.err0 (show (-5 : Int32) < 0 from by decide)⟩
theorem cl_find (H : RJ n c F x y N C Fs sv SN SC SFs pl T E) : (fiT F).1 = fndR E y ∧ RJ n c (fiT F).2 (rgN (fiT F).1 x) (rgK (fiT F).1 y) (up N x n) (up C x c) (up Fs x (hcF F (Fs x))) sv SN SC SFs pl T (fndE E y) := by
  unfold fndR fndE
  rcases op_find H.rec.1 with ⟨h1, h2, h3, h4⟩ | ⟨h1, h2⟩
  · rw [recE_0] at h1 h2 h3
    rw [if_neg h1, if_neg h1, h2]
    refine ⟨by rw [recE_0], H.chg0 h3 ⟨?_, H.1.2.row (fs_ne F 2 (E 0 7 - 1) (show 4 ≠ 18 by decide)) (fs_ne F 2 (E 0 7 - 1) (show 5 ≠ 18 by decide))⟩ (sr0.rfl'.fs _ _)⟩
    rw [recE_0] at h4
    rw [recE_0]
    exact h4
  · rw [recE_0] at h1
    rw [if_pos h1, if_pos h1, h2]
    exact ⟨rfl, H.err0 (show (-5 : Int32) < 0 from by decide)⟩
theorem cl_pass (H : RJ n c F x y N C Fs sv SN SC SFs pl T E) (a : Int32) : (phT n c F a).1 = pasR n c E y a ∧ RJ n c (phT n c F a).2 (rgN (phT n c F a).1 x) (rgK (phT n c F a).1 y) (up N x n) (up C x c) (up Fs x (hcF F (Fs x))) sv SN SC SFs pl T (pasE n c E y a) := by
  unfold pasR pasE
  rcases op_pass H.rec.1 a with ⟨h1, h2, h3, h4⟩ | ⟨h1, h2⟩
  · rw [whpS_rec] at h1
    rw [h1, if_pos (by decide), if_pos (by decide)]
    exact ⟨h2, H.chg0 h3 ⟨h4, zL_pass H.1 a⟩ (sr_psN _ _ _ _)⟩
  · rw [whpS_rec] at h1 h2
    rw [if_neg (Int32.not_le.mpr h1), if_neg (Int32.not_le.mpr h1), h2]
    exact ⟨rfl, H.err0 h1⟩
theorem cl_undo (H : RJ n c F x y N C Fs sv SN SC SFs pl T E) : bkR y = undR y ∧ RJ (if y = 0 then n else N (bkN x y)) (if y = 0 then c else C (bkN x y)) (if y = 0 then F else hcF (Fs (bkN x y)) F) (bkN x y) (y - 1) N C Fs sv SN SC SFs pl T (undE E y) := by
  refine ⟨rfl, ?_⟩
  by_cases h : y = 0
  · subst h
    rw [if_pos rfl, if_pos rfl, if_pos rfl, show bkN x 0 = x from rfl, show undE E 0 = E from rfl]
    exact H
  · rw [if_neg h, if_neg h, if_neg h]
    exact H.undo h
theorem inS_wI (a : Int32) : inS a ↔ wI a 0 1 := by
  unfold inS wI
  constructor
  · rintro ⟨h1, h2⟩
    refine ⟨h1, fun h3 => ?_⟩
    rw [Int32.lt_iff_toInt_lt] at h2 h3
    have e1 : (1 : Int32).toInt = 1 := by decide
    have e2 : (2 : Int32).toInt = 2 := by decide
    omega
  · rintro ⟨h1, h2⟩
    refine ⟨h1, ?_⟩
    rw [Int32.lt_iff_toInt_lt] at h2 ⊢
    have e1 : (1 : Int32).toInt = 1 := by decide
    have e2 : (2 : Int32).toInt = 2 := by decide
    omega
theorem inS_lt {a : Int32} (h : inS a) : a.toNatClampNeg < 2 := by
  obtain ⟨j, h1, h2, e⟩ := wI_lit (a := 0) (b := 1) (by decide) (by decide) ((inS_wI a).mp h)
  rw [e, nI_clamp (by omega)]
  omega
theorem cl_save (H : RJ n c F x y N C Fs sv SN SC SFs pl T E) (a : Int32) : (if inS a then nI n else -2) = savR n a ∧ RJ n c F x y N C Fs (if inS a then upd sv a.toNatClampNeg (vp_nar .boolean 1) else sv) (if inS a then up SN a.toNatClampNeg n else SN) (if inS a then up SC a.toNatClampNeg c else SC) (if inS a then up SFs a.toNatClampNeg (hcF F (SFs a.toNatClampNeg)) else SFs) pl T (savE E a) := by
  unfold savR savE
  by_cases h : inS a
  · have h' := (inS_wI a).mp h
    rw [if_pos h, if_pos h', if_pos h, if_pos h, if_pos h, if_pos h, if_pos h']
    exact ⟨rfl, H.save (inS_lt h) (by decide)⟩
  · have h' : ¬ wI a 0 1 := fun q => h ((inS_wI a).mpr q)
    rw [if_neg h, if_neg h', if_neg h, if_neg h, if_neg h, if_neg h, if_neg h']
    exact ⟨rfl, H⟩
theorem cl_restore (H : RJ n c F x y N C Fs sv SN SC SFs pl T E) (a : Int32) : (if inS a then (if sv a.toNatClampNeg = 0 then -5 else nI (SN a.toNatClampNeg)) else -2) = resR E y a ∧ RJ (if inS a then (if sv a.toNatClampNeg = 0 then n else SN a.toNatClampNeg) else n) (if inS a then (if sv a.toNatClampNeg = 0 then c else SC a.toNatClampNeg) else c) (if inS a then (if sv a.toNatClampNeg = 0 then F else hcF (SFs a.toNatClampNeg) F) else F) (rgN (if inS a then (if sv a.toNatClampNeg = 0 then -5 else nI (SN a.toNatClampNeg)) else -2) x) (rgK (if inS a then (if sv a.toNatClampNeg = 0 then -5 else nI (SN a.toNatClampNeg)) else -2) y) (up N x n) (up C x c) (up Fs x (hcF F (Fs x))) sv SN SC SFs pl T (resE E y a) := by
  unfold resR resE
  by_cases h : inS a
  · have h' := (inS_wI a).mp h
    have h2 := inS_lt h
    rw [if_pos h, if_pos h', if_pos h, if_pos h, if_pos h, if_pos h']
    generalize a.toNatClampNeg = j at h2
    rcases H.2.2.2.2.2.1 j h2 with ⟨q1, q2⟩ | ⟨q1, q2, q3⟩
    · rw [if_pos q2, if_pos q1, if_pos q2, if_pos q2, if_pos q2, if_pos q1]
      exact ⟨rfl, H.err0 (by decide)⟩
    · rw [if_neg q2, if_neg q1, if_neg q2, if_neg q2, if_neg q2, if_neg q1]
      have e : ∀ p, p < 250 → mvN 250 (recE E y 3) (250 * j) (recE E y 0) 0 p = bk (E 3) j 0 p := fun p hp => by
        rw [recE_ne E y (by decide) (by decide)]
        show mvN 250 (E 3) (250 * j) (recE E y 0) 0 p = E 3 (250 * j + p)
        simp only [mvN]
        rw [if_pos (by omega)]
        exact congrArg (E 3) (by omega)
      have hn := q3.1.hn
      refine ⟨?_, H.chg0 (nI_pos' (by omega)) ((q3.ff (hcF_eq _ F)).ee fun p hp => by rw [fr_same]; exact e p hp) (fun i hi => fr_ne _ _ hi)⟩
      rw [e 4 (by decide)]
      exact q3.1.m.h4.symm
  · have h' : ¬ wI a 0 1 := fun q => h ((inS_wI a).mpr q)
    rw [if_neg h, if_neg h', if_neg h, if_neg h, if_neg h, if_neg h']
    exact ⟨rfl, H.err0 (by decide)⟩
theorem cl_rest {E' : hF} (H : RJ n c F x y N C Fs sv SN SC SFs pl T E) (k : ∀ j, j ≠ 6 → E' j = E j) (k0 : E' 6 0 = E 6 0) (k1 : E' 6 1 = E 6 1) : RJ n c F x y N C Fs sv SN SC SFs pl T E' := by
  have h := H.2.2.2.2.2.2
  exact H.pad (fun j _ j6 => k j j6) k0 (k1.trans h.2.1) h.1 (fun i hi => by rw [k 5 (by decide)]; exact h.2.2.1 i hi) h.2.2.2
theorem cl_TX (H : RJ n c F x y N C Fs sv SN SC SFs pl T E) : TX T (E 5) pl := H.2.2.2.2.2.2.2.2.1
theorem cl_fault (H : RJ n c F x y N C Fs sv SN SC SFs pl T E) (z : Nat → Int32) : vFF T pl z = ffT (E 5) pl 81 0 := vFF_eq (cl_TX H) H.2.2.2.2.2.2.1 z
/-- a text carried out -/
theorem cl_carry {z : Nat → Int32} {E' : hF} {k : Nat} (H : RJ n c F x y N C Fs sv SN SC SFs pl T E) (hF : coF (coN T pl 80 (0, n, c, F, zS0 z)) k E') (hr : ∀ j, j ≠ 0 → j ≠ 6 → E' j = recE E y j) (h60 : E' 6 0 = (if y = 6 then 6 else nI y + 1)) (h61 : E' 6 1 = 0) : nI (coN T pl 80 (0, n, c, F, zS0 z)).1 = nI k ∧ RJ (coN T pl 80 (0, n, c, F, zS0 z)).2.1 (coN T pl 80 (0, n, c, F, zS0 z)).2.2.1 (coN T pl 80 (0, n, c, F, zS0 z)).2.2.2.1 (rgN (nI (coN T pl 80 (0, n, c, F, zS0 z)).1) x) (rgK (nI (coN T pl 80 (0, n, c, F, zS0 z)).1) y) (up N x n) (up C x c) (up Fs x (hcF F (Fs x))) sv SN SC SFs 0 T E' := by
  obtain ⟨h1, h2⟩ := hF
  have hle := coN_le T pl 80 (0, n, c, F, zS0 z)
  have hk : (coN T pl 80 (0, n, c, F, zS0 z)).1 ≤ 0 + 80 := hle
  exact ⟨congrArg nI h1, H.chg (nI_pos' (by omega)) h2 (hr 2 (by decide) (by decide)) ((hr 3 (by decide) (by decide)).trans (recE_ne E y (by decide) (by decide))) ((hr 4 (by decide) (by decide)).trans (recE_ne E y (by decide) (by decide))) ((hr 5 (by decide) (by decide)).trans (recE_ne E y (by decide) (by decide))) (h60.trans recE_60.symm) h61 (Nat.zero_le _)⟩
/-- the least dock -/
theorem cl_g (H : RJ n c F x y N C Fs sv SN SC SFs pl T E) (Ft : hF) : hwD n c F Ft 60 1000 = if dN n c E 60 ≤ 1000 then nI (dN n c E 60) else -6 := wh_dock (d := 60) H.1.1 Ft (by decide) (by decide) (Nat.le_refl _)
theorem cl_v : (if dN n c E 60 ≤ 1000 then nI (dN n c E 60) else -6) = -6 ∨ (if dN n c E 60 ≤ 1000 then nI (dN n c E 60) else -6) = nI (dG n c E) := by
  by_cases h : dN n c E 60 ≤ 1000
  · right
    rw [if_pos h, show dG n c E = dN n c E 60 from Nat.min_eq_left h]
  · left
    exact if_neg h
theorem cl_P (H : RJ n c F x y N C Fs sv SN SC SFs pl T E) : ∀ d, 1 ≤ d → d < 60 → ∀ Ft, hwD n c F Ft (nI d) (dG n c E) = dP n c E d := fun d h1 h2 Ft => wh_dock H.1.1 Ft h1 (by omega) (Nat.min_le_right _ _)
theorem cl_dG (n c : Nat) (E : hF) : dG n c E ≤ 1000 := Nat.min_le_right _ _
theorem cl_least (n c : Nat) (E : hF) : (if (if dN n c E 60 ≤ 1000 then nI (dN n c E 60) else -6) = -6 then -6 else ldP (dP n c E) 59 1) = ldE n c E := wh_least E
theorem cl_row1 (H : RJ n c F x y N C Fs sv SN SC SFs pl T E) : RJ n c F x y N C Fs sv SN SC SFs pl T (fr E 1 (E 0)) := H.row1 fun j hj => fr_ne _ _ hj
theorem cl_wc (H : RJ n c F x y N C Fs sv SN SC SFs pl T E) (a : Int32) : RJ n c F x y N C Fs sv SN SC SFs pl T (wcE E a) := by
  unfold wcE
  split
  · exact cl_row1 H
  · exact H
end ALIKE
/-- at the start -/
theorem RJ0 : RJ 0 0 F1 0 0 (fun _ => 0) (fun _ => 0) (fun _ => F1) (fun _ => 0) (fun _ => 0) (fun _ => 0) (fun _ => F1) 0 (fun _ => 0) E1 := by
  have o : ∀ i : Nat, ¬ i < 0 := Nat.not_lt_zero
  refine ⟨⟨⟨0, by decide, by decide, by decide, by decide, by decide, ⟨fun s h => absurd h (o s), fun s h => absurd h (o s), fun s h => absurd h (o s), fun s h => absurd h (o s), fun s h => absurd h (o s), fun s h => absurd h (o s), fun s h => absurd h (o s), Or.inl rfl, by decide, by decide, by decide, fun p _ => rfl, fun s h => absurd h (o s)⟩, rfl, by decide, ⟨fun s j h => absurd h (o s), fun s j h => absurd h (o s), fun s h => absurd h (o s), by decide, by decide, by decide, by decide, by decide, by decide⟩, fun s h => absurd h (o s), ⟨by decide, by decide, by decide, by decide, fun s h => absurd h (o s), fun s h => absurd h (o s), fun s h => absurd h (o s)⟩⟩, fun s h => absurd h (o s)⟩, ⟨by decide, by decide, rfl⟩, fun i h => absurd h (o i), fun _ => Or.inl rfl, fun _ => Or.inl rfl, fun i _ => Or.inl ⟨rfl, rfl⟩, by decide, rfl, fun i h => absurd h (o i), fun _ => rfl⟩
