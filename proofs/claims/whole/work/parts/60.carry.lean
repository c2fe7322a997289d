/-! an order carried out, alike in both -/
theorem zL_pass {n c : Nat} {F E : hF} (H : SZ n c F E) (x : Int32) : zL n (phT n c F x).2 := by
  obtain ⟨⟨h, hh, Hs⟩, z⟩ := H
  unfold phT
  by_cases c1 : wI x 1 99
  · rw [if_pos c1]
    obtain ⟨j, j1, j2, e⟩ := wI_lit (a := 1) (b := 99) (by decide) (by decide) c1
    split
    · rw [e, nI_clamp (by omega)]
      exact zL_ph Hs z j (by omega)
    · exact z
  · rw [if_neg c1]
    exact z
theorem op_one {n c : Nat} {F E : hF} {y z : Nat → Int32} (H0 : SZ n c F E) (h2 : z 2 = y 3) (h43 : y 3 = 43 → z 3 = y 4 ∧ z 4 = y 5 ∧ z 5 = y 6 ∧ z 6 = y 7) (h99 : y 3 = 99 → z 3 = y 4 ∧ z 4 = y 5) (hdt : y 3 = 100 ∨ y 3 = 116 → z 3 = y 4) (hl : y 3 = 43 ∨ y 3 = 99 ∨ y 3 = 100 ∨ y 3 = 116 ∨ y 3 = 101) :
    (wnd (fr E 6 y) = 0 ∧ 0 ≤ (oneT n c F z).1 ∧ SZ (oneT n c F z).2.1 (oneT n c F z).2.2.1 (oneT n c F z).2.2.2 (dsE n c (fr E 6 y))) ∨ (¬ wnd (fr E 6 y) = 0 ∧ (oneT n c F z).1 < 0 ∧ (oneT n c F z).2 = (n, c, F)) := by
  have H : SZ n c F (fr E 6 y) := H0.ee fun p _ => by rw [fr_ne _ _ (by decide)]
  have e3 : fr E 6 y 6 3 = y 3 := by rw [fr_same]
  have e4 : fr E 6 y 6 4 = y 4 := by rw [fr_same]
  have e5 : fr E 6 y 6 5 = y 5 := by rw [fr_same]
  have e6 : fr E 6 y 6 6 = y 6 := by rw [fr_same]
  have e7 : fr E 6 y 6 7 = y 7 := by rw [fr_same]
  unfold wnd dsE oneT
  rw [e3, e4, e5, e6, e7, h2]
  generalize fr E 6 y = E6 at H
  have hc := H.1.hc
  have hn := H.1.hn
  rcases hl with q | q | q | q | q
  · obtain ⟨a3, a4, a5, a6⟩ := h43 q
    rw [if_pos q, if_pos q, if_pos q, a3, a4, a5, a6]
    rcases op_add H.1 (y 4) (y 5) (y 6) (y 7) with ⟨g1, g2, g3⟩ | ⟨g1, g2⟩
    · rw [g2]
      exact Or.inl ⟨g1, nI_pos' (by omega), g3, zL_add H.2⟩
    · rw [g2]
      refine Or.inr ⟨fun e => ?_, g1, rfl⟩
      rw [e] at g1
      exact absurd g1 (by decide)
  · have q1 : ¬ y 3 = 43 := by rw [q]; decide
    obtain ⟨a3, a4⟩ := h99 q
    rw [if_neg q1, if_pos q, if_neg q1, if_pos q, if_neg q1, if_pos q, a3, a4]
    rcases op_crew H.1 (y 4) (y 5) with ⟨g1, g2, g3⟩ | ⟨g1, g2⟩
    · rw [g2]
      exact Or.inl ⟨g1, nI_pos' (by omega), g3, zL_crew H.2⟩
    · rw [g2]
      refine Or.inr ⟨fun e => ?_, g1, rfl⟩
      rw [e] at g1
      exact absurd g1 (by decide)
  · have q1 : ¬ y 3 = 43 := by rw [q]; decide
    have q2 : ¬ y 3 = 99 := by rw [q]; decide
    have a3 := hdt (Or.inl q)
    rw [if_neg q1, if_neg q2, if_pos q, if_neg q1, if_neg q2, if_pos q, if_neg q1, if_neg q2, if_pos q, a3]
    rcases op_set H.1 0 (y 4) with ⟨g1, g2, g3, g4⟩ | ⟨g1, g2⟩
    · rw [if_pos g1]
      exact Or.inl ⟨rfl, g3, g4, zL_set H.2⟩
    · rw [if_neg g1, g2]
      exact Or.inr ⟨by decide, (by decide : (-2 : Int32) < 0), rfl⟩
  · have q1 : ¬ y 3 = 43 := by rw [q]; decide
    have q2 : ¬ y 3 = 99 := by rw [q]; decide
    have q3 : ¬ y 3 = 100 := by rw [q]; decide
    have q4 : ¬ y 3 = 101 := by rw [q]; decide
    have a3 := hdt (Or.inr q)
    rw [if_neg q1, if_neg q2, if_neg q3, if_pos q, if_neg q1, if_neg q2, if_neg q3, if_pos q, if_neg q1, if_neg q2, if_neg q3, if_neg q4, if_pos q, a3]
    rcases op_pass H.1 (y 4) with ⟨g1, g2, g3, g4⟩ | ⟨g1, g2⟩
    · exact Or.inl ⟨g1, g3, g4, zL_pass H _⟩
    · rw [g2]
      refine Or.inr ⟨fun e => ?_, g1, rfl⟩
      rw [e] at g1
      exact absurd g1 (by decide)
  · have q1 : ¬ y 3 = 43 := by rw [q]; decide
    have q2 : ¬ y 3 = 99 := by rw [q]; decide
    have q3 : ¬ y 3 = 100 := by rw [q]; decide
    have q4 : ¬ y 3 = 116 := by rw [q]; decide
    rw [if_neg q1, if_neg q2, if_neg q3, if_neg q4, if_neg q1, if_neg q2, if_neg q3, if_neg q4, if_neg q1, if_neg q2, if_neg q3, if_pos q, if_neg q4]
    rcases op_end H.1 with ⟨g1, g2, g3, g4⟩ | ⟨g1, g2⟩
    · rw [if_neg g1]
      exact Or.inl ⟨rfl, g3, g4, zL_end H.2⟩
    · rw [if_pos g1, g2]
      exact Or.inr ⟨by decide, (by decide : (-5 : Int32) < 0), rfl⟩
theorem ff_B {U : Nat → Int32} {pl f a : Nat} (hpl : pl ≤ 80) (ha : a ≤ pl) (hf : pl - a < f) (h : ffT U pl f a = -6) : roB U pl a = true ∧ (roA U pl a = pl ∨ (¬ roA U pl a = pl ∧ chT U pl (roA U pl a) = 59 ∧ ffT U pl (f - 1) (roA U pl a + 1) = -6)) := by
  obtain ⟨g, rfl⟩ : ∃ g, f = g + 1 := ⟨f - 1, by omega⟩
  have hro := roA_le U pl a
  unfold ffT at h
  by_cases q : roB U pl a = true
  · rw [if_pos q] at h
    refine ⟨q, ?_⟩
    by_cases e : roA U pl a = pl
    · exact Or.inl e
    · rw [if_neg e] at h
      by_cases w : chT U pl (roA U pl a) = 59
      · rw [if_pos w] at h
        exact Or.inr ⟨e, w, h⟩
      · rw [if_neg w] at h
        exact absurd h (nI_ne6 (by omega))
  · rw [if_neg q] at h
    exact absurd h (nI_ne6 (by omega))
theorem roB_end (U : Nat → Int32) (pl : Nat) : ¬ roB U pl pl = true := by
  have e : chT U pl pl = -1 := if_neg (Nat.lt_irrefl pl)
  unfold roB
  rw [e, if_neg (by decide), if_neg (by decide), if_neg (by decide)]
  decide
theorem roB_l {U : Nat → Int32} {pl a : Nat} (h : roB U pl a = true) : chT U pl a = 43 ∨ chT U pl a = 99 ∨ chT U pl a = 100 ∨ chT U pl a = 116 ∨ chT U pl a = 101 := by
  unfold roB at h
  by_cases c1 : chT U pl a = 43
  · exact Or.inl c1
  · by_cases c2 : chT U pl a = 99
    · exact Or.inr (Or.inl c2)
    · by_cases c3 : chT U pl a = 100 ∨ chT U pl a = 116
      · rcases c3 with c3 | c3
        · exact Or.inr (Or.inr (Or.inl c3))
        · exact Or.inr (Or.inr (Or.inr (Or.inl c3)))
      · rw [if_neg c1, if_neg c2, if_neg c3] at h
        exact Or.inr (Or.inr (Or.inr (Or.inr (of_decide_eq_true h))))
/-- between two orders; at the end -/
def coK (T U : Nat → Int32) (pl : Nat) (RES : Nat × Nat × Nat × hF × (Nat → Int32)) (k a : Nat) (E1 : hF) : Prop := ∃ (o n1 c1 : Nat) (F1 : hF) (zc : Nat → Int32), SZ n1 c1 F1 E1 ∧ a ≤ pl ∧ ((a < pl ∧ zc 1 = 0 ∧ zc 0 = nI a ∧ o ≤ a ∧ (∃ f, pl - a < f ∧ ffT U pl f a = -6) ∧ coN T pl (80 - o) (k, n1, c1, F1, zc) = RES) ∨ (a = pl ∧ RES.1 = k ∧ RES.2.1 = n1 ∧ RES.2.2.1 = c1 ∧ RES.2.2.2.1 = F1))
def coF (RES : Nat × Nat × Nat × hF × (Nat → Int32)) (k : Nat) (E2 : hF) : Prop := RES.1 = k ∧ SZ RES.2.1 RES.2.2.1 RES.2.2.2.1 E2
section CO
variable {T U : Nat → Int32} {pl : Nat} {RES : Nat × Nat × Nat × hF × (Nat → Int32)}
theorem co_end {k a : Nat} {E1 : hF} (h : coK T U pl RES k a E1) (ha : ¬ a < pl) (E2 : hF) (e : E2 0 = E1 0) : coF RES k E2 := by
  obtain ⟨o, n1, c1, F1, zc, h1, h2, h3⟩ := h
  rcases h3 with h3 | ⟨_, r1, r2, r3, r4⟩
  · exact absurd h3.1 ha
  · refine ⟨r1, ?_⟩
    rw [r2, r3, r4]
    exact h1.ee fun p _ => by rw [e]
theorem co_do (t : TX T U pl) (hpl : pl ≤ 80) {k a : Nat} {E1 : hF} {y : Nat → Int32} (h : coK T U pl RES k a E1) (ha : a < pl) (y3 : y 3 = chT U pl a) (yA : chT U pl a = 43 → y 4 = (tnT U pl (a + 1)).1 ∧ y 5 = (s2T U pl (a + 1)).1 ∧ y 6 = (s3T U pl (a + 1)).1 ∧ y 7 = (s4T U pl (a + 1)).1) (yB : chT U pl a = 99 → y 4 = (tdT U pl (a + 1) 1).1 ∧ y 5 = (c2T U pl (a + 1)).1) (yC : chT U pl a = 100 ∨ chT U pl a = 116 → y 4 = (tnT U pl (a + 1)).1) :
    roB U pl a = true ∧ ∃ n c, mOk n c E1 ∧ (wnd (fr E1 6 y) = 0 → ∀ E2 : hF, E2 0 = dsE n c (fr E1 6 y) 0 → coK T U pl RES (k + 1) (nxA U pl (roA U pl a) 59) E2) ∧ (¬ wnd (fr E1 6 y) = 0 → ∀ E2 : hF, E2 0 = E1 0 → coF RES k E2) := by
  obtain ⟨o, n1, c1, F1, zc, h1, h2, h3⟩ := h
  rcases h3 with ⟨_, z1, z0, ho, ⟨f, hf, hff⟩, hr⟩ | ⟨e, _⟩
  · obtain ⟨hB, hA⟩ := ff_B hpl h2 hf hff
    have G := (RO_all t z0 (by omega) z1).1 hB
    have hle := GR_ok hpl z0 h2 G
    have hgt := roA_gt hB
    have hro := roA_le U pl a
    have hzr := z_at G.2.1 (by omega)
    have e80 : 80 - o = (80 - (o + 1)) + 1 := by omega
    refine ⟨hB, n1, c1, h1.1.m, ?_⟩
    rcases op_one (y := y) (z := zRO T pl zc) h1 (by rw [G.2.2.1, y3]) (fun e => by
        rw [y3] at e
        obtain ⟨a1, a2, a3, a4⟩ := G.2.2.2.1 e
        obtain ⟨b1, b2, b3, b4⟩ := yA e
        exact ⟨a1.trans b1.symm, a2.trans b2.symm, a3.trans b3.symm, a4.trans b4.symm⟩) (fun e => by
        rw [y3] at e
        obtain ⟨a1, a2⟩ := G.2.2.2.2.1 e
        obtain ⟨b1, b2⟩ := yB e
        exact ⟨a1.trans b1.symm, a2.trans b2.symm⟩) (fun e => by
        rw [y3] at e
        exact (G.2.2.2.2.2 e).trans (yC e).symm) (by rw [y3]; exact roB_l hB) with ⟨g1, g2, g3⟩ | ⟨g1, g2, g3⟩
    · refine ⟨fun _ E2 e2 => ?_, fun w => absurd g1 w⟩
      have g4 := g3.ee (E' := E2) fun p _ => by rw [e2]
      rcases hA with hA | ⟨hA, h59, hff2⟩
      · have hn : ¬ zP T pl (zRO T pl zc) 59 := fun w => by
          have w2 := w.2
          rw [hzr, hA] at w2
          unfold kAt at w2
          rw [if_neg (Nat.lt_irrefl pl)] at w2
          exact absurd w2 (by decide)
        have hnx : nxA U pl (roA U pl a) 59 = pl := by
          unfold nxA
          rw [hA, if_neg]
          unfold chT
          rw [if_neg (Nat.lt_irrefl pl)]
          decide
        have hr2 := coN_end (T := T) (pl := pl) (d := 80 - (o + 1)) (k := k) g2 hn
        rw [← e80, hr] at hr2
        rw [hnx]
        refine ⟨0, _, _, _, zc, g4, Nat.le_refl pl, Or.inr ⟨rfl, ?_, ?_, ?_, ?_⟩⟩ <;> rw [hr2]
      · have h59' := (kc t (by decide) (by decide)).mpr h59
        have hlt := chT_lt h59 (by decide)
        have hnx : nxA U pl (roA U pl a) 59 = roA U pl a + 1 := by
          unfold nxA
          rw [if_pos h59]
        have hr2 := coN_more (T := T) (pl := pl) (d := 80 - (o + 1)) (k := k) g2 ⟨G.1, by rw [hzr]; exact h59'⟩
        rw [← e80, hr, zTk_yes G.2.1 (by omega) G.1 h59'] at hr2
        rw [hnx]
        have hne : ¬ roA U pl a + 1 = pl := fun e => by
          have := (ff_B (U := U) hpl (Nat.le_of_eq e) (by omega) hff2).1
          rw [e] at this
          exact roB_end U pl this
        exact ⟨o + 1, _, _, _, _, g4, by omega, Or.inl ⟨by omega, by rw [pk_un (by decide)]; exact G.1, pk_us, by omega, ⟨f - 1, by omega, hff2⟩, hr2.symm⟩⟩
    · refine ⟨fun w => absurd w g1, fun _ E2 e2 => ?_⟩
      have hr2 := coN_lt (T := T) (pl := pl) (d := 80 - (o + 1)) (k := k) (fun w => i_lt_le g2 w)
      rw [← e80, hr] at hr2
      have g4 := h1.ee (E' := E2) fun p _ => by rw [e2]
      unfold coF
      rw [hr2]
      refine ⟨rfl, ?_⟩
      show SZ (oneT n1 c1 F1 (zRO T pl zc)).2.1 (oneT n1 c1 F1 (zRO T pl zc)).2.2.1 (oneT n1 c1 F1 (zRO T pl zc)).2.2.2 E2
      rw [g3]
      exact g4
  · omega
theorem co_start {n c : Nat} {F E : hF} (hpl : pl ≤ 80) (H : SZ n c F E) (hff : ffT U pl 81 0 = -6) (z : Nat → Int32) (E0 : hF) (e : E0 0 = E 0) : coK T U pl (coN T pl 80 (0, n, c, F, zS0 z)) 0 0 E0 := by
  have hp : 0 < pl := by
    rcases Nat.eq_zero_or_pos pl with q | q
    · subst q
      exact absurd (ff_B (U := U) hpl (Nat.le_refl 0) (by decide) hff).1 (roB_end U 0)
    · exact q
  exact ⟨0, n, c, F, zS0 z, H.ee fun p _ => by rw [e], Nat.zero_le _, Or.inl ⟨hp, rfl, rfl, Nat.le_refl 0, ⟨81, by omega, hff⟩, rfl⟩⟩
end CO
theorem coN_le (T : Nat → Int32) (pl : Nat) : ∀ (d : Nat) (s : Nat × Nat × Nat × hF × (Nat → Int32)), (coN T pl d s).1 ≤ s.1 + d
  | 0, s => Nat.le_refl _
  | d + 1, (k, n, c, F, z) => by
    unfold coN
    split
    · show k ≤ k + (d + 1)
      omega
    · split
      · have := coN_le T pl d (k + 1, (oneT n c F (zRO T pl z)).2.1, (oneT n c F (zRO T pl z)).2.2.1, (oneT n c F (zRO T pl z)).2.2.2, zTk T pl (zRO T pl z) 59)
        show _ ≤ k + (d + 1)
        have e : (k + 1, (oneT n c F (zRO T pl z)).2.1, (oneT n c F (zRO T pl z)).2.2.1, (oneT n c F (zRO T pl z)).2.2.2, zTk T pl (zRO T pl z) 59).1 = k + 1 := rfl
        omega
      · show k + 1 ≤ k + (d + 1)
        omega
