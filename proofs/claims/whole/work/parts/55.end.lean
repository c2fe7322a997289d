/-! the fair ends, alike in both -/
theorem laN_12 (F : hF) : ∀ k i, i < k → itN k laS F 12 i = -6
  | 0, i, h => absurd h (Nat.not_lt_zero i)
  | k + 1, i, h => by
    show fs (itN k laS F) 12 k (-6) 12 i = -6
    rw [fs_at]
    split
    · rfl
    · exact laN_12 F k i (by omega)
theorem clN_at (F0 : hF) : ∀ m j i, (itN m clS (F0, 0)).1 j i = if i < m ∧ ¬ 4 ≤ F0 4 i then (if j = 4 then 6 else if j = 5 then 0 else if j = 7 then -6 else F0 j i) else F0 j i
  | 0, j, i => by
    rw [if_neg (fun y => absurd y.1 (Nat.not_lt_zero i))]
    rfl
  | m + 1, j, i => by
    have ih := clN_at F0 m
    show (clS m (itN m clS (F0, 0))).1 j i = _
    generalize itN m clS (F0, 0) = r at ih ⊢
    have h4 : r.1 4 m = F0 4 m := by rw [ih, if_neg (fun y => absurd y.1 (Nat.lt_irrefl m))]
    unfold clS
    by_cases q : 4 ≤ F0 4 m
    · rw [if_pos (by rw [h4]; exact q), ih]
      by_cases e : i = m
      · rw [if_neg (fun y => absurd y.1 (by omega)), if_neg (fun y => y.2 (by rw [e]; exact q))]
      · exact ifc ⟨fun y => ⟨by omega, y.2⟩, fun y => ⟨by omega, y.2⟩⟩
    · rw [if_neg (by rw [h4]; exact q)]
      show fs (fs (fs r.1 4 m 6) 5 m 0) 7 m (-6) j i = _
      by_cases e : i = m
      · subst e
        have eI : r.1 j i = F0 j i := by rw [ih, if_neg (fun y => absurd y.1 (Nat.lt_irrefl i))]
        rw [if_pos ⟨by omega, q⟩, fs_at, fs_at, fs_at, eI]
        by_cases e4 : j = 4
        · subst e4; simp
        · by_cases e5 : j = 5
          · subst e5; simp
          · by_cases e7 : j = 7
            · subst e7; simp
            · simp [e4, e5, e7]
      · rw [fs_at, if_neg (fun y => e y.2), fs_at, if_neg (fun y => e y.2), fs_at, if_neg (fun y => e y.2), ih]
        exact ifc ⟨fun y => ⟨by omega, y.2⟩, fun y => ⟨by omega, y.2⟩⟩
theorem not4 {x : Int32} (h : 4 ≤ x) : x ≠ 0 ∧ x ≠ 1 ∧ x ≠ 2 ∧ x ≠ 3 := by
  refine ⟨fun e => ?_, fun e => ?_, fun e => ?_, fun e => ?_⟩ <;> (rw [e] at h; exact absurd h (by decide))
/-- what holds in the middle of the end -/
def En (n c : Nat) (F : hF) (m : Nat) (r q : hF × Int32) : Prop := ∃ g : Nat → Int32, rl n c (fr r.1 12 g) q.1 ∧ mOk n c q.1 ∧ r.2 = q.2 ∧ (∃ v, v ≤ m ∧ r.2 = nI v) ∧ (∀ k, k < c → g k = -6 ∨ ∃ s, m ≤ s ∧ s < n ∧ g k = F 12 k ∧ F 12 k = nI s) ∧ (∀ s, m ≤ s → r.1 4 s = F 4 s ∧ r.1 7 s = F 7 s)
theorem En_step {n c : Nat} {F : hF} (hn : n ≤ 20) (hc : c ≤ 6) (a7 : ∀ k, k < c → F 12 k = -6 ∨ ∃ s, s < n ∧ F 12 k = nI s ∧ F 7 s = nI k ∧ F 4 s = 3) {m : Nat} (hm : m < n) {r q : hF × Int32} (h : En n c F m r q) : En n c F (m + 1) (clS m r) (enS m q) := by
  obtain ⟨g, h1, h2, h3, ⟨v, v1, v2⟩, h4, h5⟩ := h
  obtain ⟨e4, e7⟩ := h5 m (Nat.le_refl m)
  have q4 : q.1 0 (8 + 10 * m + 4) = F 4 m := (h1.A hm 4 (by decide) (by decide)).trans e4
  have q7 : q.1 0 (8 + 10 * m + 7) = F 7 m := (h1.A hm 7 (by decide) (by decide)).trans e7
  have a7' : ∀ k, k < c → F 12 k = nI m → F 7 m = nI k ∧ F 4 m = 3 := fun k hk e => by
    rcases a7 k hk with y | ⟨s, hs, y1, y2, y3⟩
    · rw [e] at y
      exact absurd y (nI_ne6 (by omega))
    · rw [e] at y1
      rw [nI_inj6 (by omega) (by omega) y1]
      exact ⟨y2, y3⟩
  have hmn := menS (r := q) h2 hm
  by_cases c4 : 4 ≤ F 4 m
  · have er : clS m r = r := if_pos (by rw [e4]; exact c4)
    have eq : enS m q = q := if_pos (by rw [q4]; exact c4)
    rw [er, eq]
    refine ⟨g, h1, h2, h3, ⟨v, by omega, v2⟩, fun k hk => ?_, fun s hs => h5 s (by omega)⟩
    rcases h4 k hk with y | ⟨s, y1, y2, y3, y4⟩
    · exact Or.inl y
    · have e : s ≠ m := fun e => by
        rw [e] at y4
        exact (not4 c4).2.2.2 (a7' k hk y4).2
      exact Or.inr ⟨s, by omega, y2, y3, y4⟩
  · have er : clS m r = (fs (fs (fs r.1 4 m 6) 5 m 0) 7 m (-6), r.2 + 1) := if_neg (by rw [e4]; exact c4)
    have eq : enS m q = (enA q.1 m, q.2 + 1) := if_neg (by rw [q4]; exact c4)
    rw [eq] at hmn
    rw [er, eq]
    have hrow : ∀ s, m + 1 ≤ s → fs (fs (fs r.1 4 m 6) 5 m 0) 7 m (-6) 4 s = F 4 s ∧ fs (fs (fs r.1 4 m 6) 5 m 0) 7 m (-6) 7 s = F 7 s := fun s hs => by
      obtain ⟨w1, w2⟩ := h5 s (by omega)
      refine ⟨?_, ?_⟩
      · rw [fs_at, if_neg (by omega), fs_at, if_neg (by omega), fs_at, if_neg (by omega)]; exact w1
      · rw [fs_at, if_neg (by omega), fs_at, if_neg (by omega), fs_at, if_neg (by omega)]; exact w2
    have hcnt : ∃ v', v' ≤ m + 1 ∧ r.2 + 1 = nI v' := ⟨v + 1, by omega, by rw [v2, nI_1]⟩
    rcases h2.hy m hm with y | ⟨k0, hk0, y⟩
    · have eA : enA q.1 m = fs (fs (fs q.1 0 (8 + 10 * m + 7) (-6)) 0 (8 + 10 * m + 4) 6) 0 (8 + 10 * m + 5) 0 := by
        unfold enA
        rw [if_pos y]
      rw [eA] at hmn ⊢
      refine ⟨g, ?_, hmn, by show r.2 + 1 = q.2 + 1; rw [h3], hcnt, fun k hk => ?_, hrow⟩
      · refine (((h1.part hn hm 7 (-6) (by decide) (by decide)).part hn hm 4 6 (by decide) (by decide)).part hn hm 5 0 (by decide) (by decide)).congr fun j i _ _ => ?_
        show fr (fs (fs (fs r.1 4 m 6) 5 m 0) 7 m (-6)) 12 g j i = fs (fs (fs (fr r.1 12 g) 7 m (-6)) 4 m 6) 5 m 0 j i
        by_cases e12 : j = 12
        · subst e12
          rw [fr_same, fs_at, if_neg (by omega), fs_at, if_neg (by omega), fs_at, if_neg (by omega), fr_same]
        · rw [fr_ne _ _ e12, fs_at, fs_at, fs_at, fs_at, fs_at, fs_at, fr_ne _ _ e12]
          repeat' split
          all_goals first | rfl | omega
      · rcases h4 k hk with z | ⟨s, z1, z2, z3, z4⟩
        · exact Or.inl z
        · have e : s ≠ m := fun e => by
            rw [e] at z4
            have := (a7' k hk z4).1
            rw [← q7, y] at this
            exact nI_ne6 (by omega) this.symm
          exact Or.inr ⟨s, by omega, z2, z3, z4⟩
    · have eA : enA q.1 m = fs (fs (fs (fs q.1 0 (208 + 7 * k0 + 2) (-6)) 0 (8 + 10 * m + 7) (-6)) 0 (8 + 10 * m + 4) 6) 0 (8 + 10 * m + 5) 0 := by
        unfold enA
        rw [if_neg (by rw [y]; exact nI_ne6 (by omega)), y, nI_clamp (by omega)]
      rw [eA] at hmn ⊢
      refine ⟨upd g k0 (-6), ?_, hmn, by show r.2 + 1 = q.2 + 1; rw [h3], hcnt, fun k hk => ?_, hrow⟩
      · refine ((((h1.crew hn 2 (-6) (by decide) (by decide) (by decide) (by decide) (k := k0)).part hn hm 7 (-6) (by decide) (by decide)).part hn hm 4 6 (by decide) (by decide)).part hn hm 5 0 (by decide) (by decide)).congr fun j i _ _ => ?_
        show fr (fs (fs (fs r.1 4 m 6) 5 m 0) 7 m (-6)) 12 (upd g k0 (-6)) j i = fs (fs (fs (fs (fr r.1 12 g) 12 k0 (-6)) 7 m (-6)) 4 m 6) 5 m 0 j i
        by_cases e12 : j = 12
        · subst e12
          rw [fr_same, fs_at, if_neg (by omega), fs_at, if_neg (by omega), fs_at, if_neg (by omega), fs_row, fr_same]
        · rw [fr_ne _ _ e12, fs_at, fs_at, fs_at, fs_at, fs_at, fs_at, fs_ne _ _ _ e12, fr_ne _ _ e12]
          repeat' split
          all_goals first | rfl | omega
      · by_cases ek : k = k0
        · rw [ek]
          exact Or.inl pk_us
        · rw [pk_un ek]
          rcases h4 k hk with z | ⟨s, z1, z2, z3, z4⟩
          · exact Or.inl z
          · have e : s ≠ m := fun e => by
              rw [e] at z4
              have := (a7' k hk z4).1
              rw [← q7, y] at this
              exact ek (nI_inj6 (by omega) (by omega) this).symm
            exact Or.inr ⟨s, by omega, z2, z3, z4⟩
theorem rl.c12 {n c : Nat} {F E : hF} {g : Nat → Int32} (r : rl n c (fr F 12 g) E) (k : ∀ i, i < c → F 12 i = g i) : rl n c F E := by
  obtain ⟨r1, r2, r3, r4, r5, r6, r7, r8, r9⟩ := r
  refine ⟨fun s j hs hj h8 => ?_, fun s j hs hj h4 => ?_, fun s hs => r3 s hs, r4, r5, r6, r7, r8, r9⟩
  · rw [r1 s j hs hj h8, fr_ne _ _ (by unfold pj; split <;> omega)]
  · rw [r2 s j hs hj h4]
    by_cases e : j = 2
    · subst e
      show fr F 12 g 12 s = F 12 s
      rw [fr_same, k s hs]
    · rw [fr_ne _ _ (by unfold qj; split <;> omega)]
theorem En_all {n c : Nat} {F : hF} (hn : n ≤ 20) (hc : c ≤ 6) (a7 : ∀ k, k < c → F 12 k = -6 ∨ ∃ s, s < n ∧ F 12 k = nI s ∧ F 7 s = nI k ∧ F 4 s = 3) {r q : hF × Int32} (h : En n c F 0 r q) : ∀ m, m ≤ n → En n c F m (itN m clS r) (itN m enS q)
  | 0, _ => h
  | m + 1, hm => En_step hn hc a7 (by omega) (En_all hn hc a7 h m (by omega))
theorem op_end {n c : Nat} {F E : hF} (H : SV n c F E) :
    (¬ E 0 6 = 1 ∧ (enT n c F).1 = (ensE n E).2 ∧ 0 ≤ (enT n c F).1 ∧ SV n c (enT n c F).2 (ensE n E).1) ∨ (E 0 6 = 1 ∧ enT n c F = (-5, F)) := by
  obtain ⟨h, hh, H⟩ := H
  obtain ⟨hn, hc, hh2, he, a, a0, al, r, w, m⟩ := H
  have r6 : E 0 6 = F 18 1 := r.2.2.2.2.2.2.2.1
  obtain ⟨a1, a2, a3, a4, a5, a6, a7, a8, a9, a10, a11, a12, a13⟩ := id a
  rcases a8 with z | z
  · left
    have a7' : ∀ k, k < c → F 12 k = -6 ∨ ∃ s, s < n ∧ F 12 k = nI s ∧ F 7 s = nI k ∧ F 4 s = 3 := fun k hk => by
      rcases a7 k hk with y | ⟨s, hs, y1, y2, y3⟩
      · exact Or.inl y
      · rw [if_neg (by rw [z]; decide)] at y3
        exact Or.inr ⟨s, hs, y1, y2, y3⟩
    have e1 : enT n c F = ((itN n clS (itN c laS (fs F 18 1 1), 0)).2, (itN n clS (itN c laS (fs F 18 1 1), 0)).1) := if_pos z
    rw [e1]
    have f0 : ∀ j, j ≠ 12 → itN c laS (fs F 18 1 1) j = fs F 18 1 1 j := fun j hj => laN_row hj _ c
    have f1 : ∀ j, j ≠ 12 → j ≠ 18 → itN c laS (fs F 18 1 1) j = F j := fun j hj h18 => (f0 j hj).trans (fs_ne _ _ _ h18)
    have f12 : ∀ i, i < c → itN c laS (fs F 18 1 1) 12 i = -6 := fun i hi => laN_12 _ c i hi
    generalize itN c laS (fs F 18 1 1) = F0 at f0 f1 f12
    have h0 : En n c F 0 (F0, 0) (fs E 0 6 1, 0) := by
      refine ⟨F 12, (r.head 6 18 1 1 (by omega)).congr fun j i _ _ => ?_, m.head _ (by decide) (by decide) (by decide), rfl, ⟨0, Nat.le_refl 0, rfl⟩, fun k hk => ?_, fun s _ => ⟨congrFun (f1 4 (by decide) (by decide)) s, congrFun (f1 7 (by decide) (by decide)) s⟩⟩
      · by_cases e12 : j = 12
        · subst e12
          rw [fr_same]
          rfl
        · rw [fr_ne _ _ e12]
          exact congrFun (f0 j e12) i
      · rcases a7' k hk with y | ⟨s, hs, y1, _⟩
        · exact Or.inl y
        · exact Or.inr ⟨s, Nat.zero_le s, hs, rfl, y1⟩
    obtain ⟨g, g1, g2, g3, ⟨v, v1, v2⟩, g4, g5⟩ := En_all hn hc a7' h0 n (Nat.le_refl n)
    have hF := clN_at F0 n
    have rowF : ∀ j, j ≠ 4 → j ≠ 5 → j ≠ 7 → (itN n clS (F0, 0)).1 j = F0 j := fun j j4 j5 j7 => by
      funext i
      rw [hF]
      rw [if_neg j4, if_neg j5, if_neg j7, ite_self]
    refine ⟨by rw [r6, z]; decide, g3, by show 0 ≤ (itN n clS (F0, 0)).2; rw [v2]; exact nI_pos' (by omega), h, hh, hn, hc, hh2, he, ?_, ?_, ?_, ?_, ?_, g2⟩
    · show hI n c (itN n clS (F0, 0)).1
      have k4 : ∀ s, s < n → (itN n clS (F0, 0)).1 4 s = if 4 ≤ F 4 s then F 4 s else 6 := fun s hs => by
        rw [hF, f1 4 (by decide) (by decide)]
        by_cases q : 4 ≤ F 4 s
        · rw [if_neg (fun y => y.2 q), if_pos q]
        · rw [if_pos ⟨hs, q⟩, if_neg q]
          rfl
      generalize hF' : (itN n clS (F0, 0)).1 = F' at hF rowF k4
      have ro : ∀ j, j ≠ 4 → j ≠ 5 → j ≠ 7 → j ≠ 12 → j ≠ 18 → F' j = F j := fun j j4 j5 j7 j12 j18 => (rowF j j4 j5 j7).trans (f1 j j12 j18)
      have r18 : F' 18 = fs F 18 1 1 18 := (rowF 18 (by decide) (by decide) (by decide)).trans (f0 18 (by decide))
      refine ⟨fun s hs => by rw [ro 0 (by decide) (by decide) (by decide) (by decide) (by decide)]; exact a1 s hs, fun s hs => ?_, fun s hs => ?_, fun s hs => by rw [ro 6 (by decide) (by decide) (by decide) (by decide) (by decide)]; exact a4 s hs, fun s hs y => ?_, fun k hk => by rw [ro 10 (by decide) (by decide) (by decide) (by decide) (by decide)]; exact a6 k hk, fun k hk => Or.inl ?_, by rw [r18]; exact Or.inr (fs_same _ _ _ _), by rw [ro 16 (by decide) (by decide) (by decide) (by decide) (by decide)]; exact a9, by rw [ro 16 (by decide) (by decide) (by decide) (by decide) (by decide)]; exact a10, by rw [ro 16 (by decide) (by decide) (by decide) (by decide) (by decide)]; exact a11, fun p hp => ?_, fun s hs => by rw [ro 3 (by decide) (by decide) (by decide) (by decide) (by decide)]; exact a13 s hs⟩
      · rw [k4 s hs]
        split
        · exact a2 s hs
        · decide
      · rw [hF, f1 4 (by decide) (by decide), f1 5 (by decide) (by decide)]
        split
        · show vB (0 : Int32) 0 99
          decide
        · exact a3 s hs
      · rw [k4 s hs] at y
        split at y
        · next q =>
          have := not4 q
          rcases y with y | y | y | y
          · exact absurd y this.1
          · exact absurd y this.2.1
          · exact absurd y this.2.2.1
          · exact absurd y this.2.2.2
        · exact absurd y (by decide)
      · rw [rowF 12 (by decide) (by decide) (by decide)]
        exact f12 k hk
      · rw [ro 17 (by decide) (by decide) (by decide) (by decide) (by decide), a12 p hp]
        exact (hloa_c (fun i => by rw [ro 6 (by decide) (by decide) (by decide) (by decide) (by decide)]) (fun i => by rw [ro 2 (by decide) (by decide) (by decide) (by decide) (by decide)]) _).symm
    · show (itN n clS (F0, 0)).1 18 0 = nI h
      rw [rowF 18 (by decide) (by decide) (by decide), f0 18 (by decide)]
      exact a0
    · show vB ((itN n clS (F0, 0)).1 18 2) 0 (6 * h + (0 : Nat))
      rw [rowF 18 (by decide) (by decide) (by decide), f0 18 (by decide)]
      exact al
    · refine g1.c12 fun i hi => ?_
      rw [rowF 12 (by decide) (by decide) (by decide), f12 i hi]
      rcases g4 i hi with y | ⟨s, y1, y2, _⟩
      · exact y.symm
      · omega
    · intro s hs q
      exfalso
      have q' : (itN n clS (F0, 0)).1 4 s = 1 := q
      rw [hF, f1 4 (by decide) (by decide)] at q'
      by_cases c4 : 4 ≤ F 4 s
      · rw [if_neg (fun y => y.2 c4)] at q'
        exact (not4 c4).2.1 q'
      · rw [if_pos ⟨hs, c4⟩] at q'
        exact absurd (show (6 : Int32) = 1 from q') (by decide)
  · right
    exact ⟨by rw [r6]; exact z, if_neg (by rw [z]; decide)⟩
