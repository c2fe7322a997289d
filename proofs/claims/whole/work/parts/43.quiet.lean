/-! quiet hours: nothing is done in them, so the program may leap over them -/
def pN (n c : Nat) : Nat → hF → hF
  | 0, F => F
  | j + 1, F => pN n c j (p1H n c F)
def eN (n c : Nat) : Nat → hF → hF
  | 0, E => E
  | j + 1, E => eN n c j (poE n c E)
theorem sm_pN {n c : Nat} : ∀ (j : Nat) {h : Nat} {F E : hF}, sm n c h 0 (fun _ => 0) F E → h + j ≤ 30000 → sm n c (h + j) 0 (fun _ => 0) (pN n c j F) (eN n c j E)
  | 0, _, _, _, H, _ => H
  | j + 1, h, F, E, H, hj => by
    have g := sm_pN j (sm_hour (by omega) H).1 (by omega)
    rw [show h + 1 + j = h + (j + 1) by omega] at g
    exact g
theorem pN_last (n c : Nat) : ∀ (j : Nat) (F : hF), pN n c (j + 1) F = p1H n c (pN n c j F)
  | 0, _ => rfl
  | j + 1, F => pN_last n c j (p1H n c F)
/-- in how many hours all is in, at most d more -/
def gH (n c : Nat) : Nat → Nat → hF → Nat
  | 0, k, _ => k
  | d + 1, k, F => if aiP n F then k else gH n c d (k + 1) (p1H n c F)
theorem gH_ge (n c : Nat) : ∀ d k F, k ≤ gH n c d k F
  | 0, k, _ => Nat.le_refl k
  | d + 1, k, F => by
    unfold gH
    split
    · exact Nat.le_refl k
    · exact Nat.le_of_succ_le (gH_ge n c d (k + 1) _)
theorem gH_cut {n c M : Nat} : ∀ (d d' k : Nat) (F : hF), k + d = M + 1 → d ≤ d' → (gH n c d k F ≤ M → gH n c d' k F = gH n c d k F) ∧ (¬ gH n c d k F ≤ M → ¬ gH n c d' k F ≤ M)
  | 0, d', k, F, h, _ => by
    have h1 := gH_ge n c d' k F
    have h2 : gH n c 0 k F = k := rfl
    rw [h2]
    exact ⟨fun q => by omega, fun _ => by omega⟩
  | d + 1, 0, _, _, _, h => absurd h (by omega)
  | d + 1, d' + 1, k, F, h, hd => by
    unfold gH
    by_cases q : aiP n F
    · rw [if_pos q, if_pos q]
      exact ⟨fun _ => rfl, fun y => y⟩
    · rw [if_neg q, if_neg q]
      exact gH_cut d d' (k + 1) _ (by omega) (by omega)
theorem gH_skip {n c : Nat} : ∀ (m d k : Nat) (F : hF), (∀ j, j < m → ¬ aiP n (pN n c j F)) → m ≤ d → gH n c d k F = gH n c (d - m) (k + m) (pN n c m F)
  | 0, d, k, F, _, _ => rfl
  | m + 1, 0, _, _, _, h => absurd h (by omega)
  | m + 1, d + 1, k, F, h, hd => by
    have q := h 0 (by omega)
    have e : gH n c (d + 1) k F = gH n c d (k + 1) (p1H n c F) := if_neg q
    rw [e, gH_skip m d (k + 1) (p1H n c F) (fun j hj => h (j + 1) (by omega)) (by omega), show d + 1 - (m + 1) = d - m by omega, show k + 1 + m = k + (m + 1) by omega]
    rfl
theorem ai_ad {n c : Nat} {F E : hF} (r : rl n c F E) (a8 : F 18 1 = 0 ∨ F 18 1 = 1) : adP n E ↔ aiP n F := by
  have r6 : E 0 6 = F 18 1 := r.2.2.2.2.2.2.2.1
  unfold adP aiP
  rw [r6, r.cnt, r.cnt]
  rcases a8 with z | z
  · rw [z, if_neg (by decide), if_pos rfl]
    exact eq_comm
  · rw [z, if_pos rfl, if_neg (by decide), Int32.add_zero]
    exact eq_comm
theorem go_eq {n c : Nat} : ∀ (d k h : Nat) {F E : hF}, sm n c h 0 (fun _ => 0) F E → h + d ≤ 30000 → goN n c d k E = gH n c d k F
  | 0, _, _, _, _, _, _ => rfl
  | d + 1, k, h, F, E, H, hd => by
    have e := ai_ad H.2.2.2.2.2.2.2.1 H.2.2.2.2.1.2.2.2.2.2.2.2.1
    unfold goN gH
    by_cases q : aiP n F
    · rw [if_pos q, if_pos (e.mpr q)]
    · rw [if_neg q, if_neg (fun y => q (e.mp y))]
      exact go_eq d (k + 1) (h + 1) (sm_hour (by omega) H).1 (by omega)
/-! lorries: the first one that is told has no room -/
def Lp (n : Nat) (F : hF) : Prop := ∀ s, s < n → F 4 s = 0 → (∀ t, t < s → F 4 t ≠ 0) → ¬ hmet n F + F 1 s ≤ F 16 0
theorem Lp_fix {n : Nat} {F : hF} (h : Lp n F) : ∀ d s, s + d = n → (∀ t, t < s → F 4 t ≠ 0) → lcN d s (hmet n F) F = F
  | 0, _, _, _ => rfl
  | d + 1, s, hd, h0 => by
    unfold lcN
    by_cases q : F 4 s = 0
    · rw [if_pos q, if_neg (h s (by omega) q h0)]
    · rw [if_neg q]
      exact Lp_fix h d (s + 1) (by omega) (fun t ht => by
        by_cases e : t = s
        · rw [e]; exact q
        · exact h0 t (by omega))
theorem Lp_lc {n : Nat} : ∀ (d s : Nat) (F : hF), s + d = n → (∀ t, t < s → F 4 t ≠ 0) → Lp n (lcN d s (hmet n F) F)
  | 0, s, F, hd, h0 => fun t ht q _ => absurd q (h0 t (by omega))
  | d + 1, s, F, hd, h0 => by
    have hs : s < n := by omega
    unfold lcN
    by_cases q : F 4 s = 0
    · rw [if_pos q]
      by_cases w : hmet n F + F 1 s ≤ F 16 0
      · rw [if_pos w, ← hmet_come hs q (F 18 0 + F 16 1)]
        refine Lp_lc d (s + 1) _ (by omega) (fun t ht => ?_)
        rw [fs_at, if_neg (by omega), fs_at]
        split
        · decide
        · exact h0 t (by omega)
      · rw [if_neg w]
        intro t ht qt h1
        rcases Nat.lt_trichotomy t s with e | e | e
        · exact absurd qt (h0 t e)
        · rw [e]; exact w
        · exact absurd q (h1 s e)
    · rw [if_neg q]
      exact Lp_lc d (s + 1) F (by omega) (fun t ht => by
        by_cases e : t = s
        · rw [e]; exact q
        · exact h0 t (by omega))
theorem hmet_c {n : Nat} {F F' : hF} (h4 : ∀ s, s < n → (F' 4 s = 1 ↔ F 4 s = 1)) (h1 : F' 1 = F 1) : hmet n F' = hmet n F :=
  sumN_c n fun s hs => by rw [h1]; exact ifc (h4 s hs)
theorem Lp_c {n : Nat} {F F' : hF} (h : Lp n F) (h0 : ∀ s, s < n → (F' 4 s = 0 ↔ F 4 s = 0)) (h4 : ∀ s, s < n → (F' 4 s = 1 ↔ F 4 s = 1)) (h1 : F' 1 = F 1) (h16 : F' 16 = F 16) : Lp n F' := by
  intro s hs q k
  rw [hmet_c h4 h1, h1, h16]
  exact h s hs ((h0 s hs).mp q) (fun t ht y => k t ht ((h0 t (by omega)).mpr y))
/-! crews: none takes a stand -/
theorem nb_c {n : Nat} {F F' : hF} (h3 : F' 3 = F 3) (h4 : F' 4 = F 4) : ∀ d s, nbN n F' d s = nbN n F d s
  | 0, _ => rfl
  | d + 1, s => by
    unfold nbN
    rw [nb_c h3 h4 d (s + 1)]
    refine ifc ?_
    show F' 4 s = 2 ∧ (hhas n (nI s) ∧ (¬ hhas n (F' 3 (nI s).toNatClampNeg) ∨ F' 4 (F' 3 (nI s).toNatClampNeg).toNatClampNeg = 4)) ↔ _
    rw [h3, h4]
theorem hsto_c {n : Nat} {F F' : hF} (h3 : F' 3 = F 3) (h4 : F' 4 = F 4) (x : Int32) : hsto n F' x = hsto n F x := by
  unfold hsto
  rw [h3, h4]
theorem nd_c {n : Nat} {F F' : hF} (h3 : F' 3 = F 3) (h4 : F' 4 = F 4) : ∀ k, ndN n F' k = ndN n F k
  | 0 => rfl
  | k + 1 => by
    unfold ndN
    rw [nd_c h3 h4 k, hsto_c h3 h4, h4]
theorem nx_c {n : Nat} {F F' : hF} (h3 : F' 3 = F 3) (h4 : F' 4 = F 4) (h18 : F' 18 1 = F 18 1) : nxH n F' = nxH n F := by
  unfold nxH
  rw [h18, nb_c h3 h4, nd_c h3 h4]
def Tp (n c : Nat) (F : hF) : Prop := ∀ k, k < c → F 12 k = -6 → nxH n F = -6
theorem Tp_fix {n c : Nat} {F : hF} (h : Tp n c F) : ∀ d j, j + d = c → ctN n d j F = F
  | 0, _, _ => rfl
  | d + 1, j, hd => by
    unfold ctN
    by_cases q : F 12 j = -6
    · rw [if_pos q, if_neg (by rw [h j (by omega) q]; exact has_6)]
    · rw [if_neg q]
      exact Tp_fix h d (j + 1) (by omega)
theorem toP_row {F : hF} {s j : Nat} (h6 : j ≠ 6) (h17 : j ≠ 17) : toP F s j = F j := by
  unfold toP
  split
  · rfl
  · split
    · rw [fs_ne _ _ _ h6, fs_ne _ _ _ h17]
    · rfl
theorem tkH_row {F : hF} {s k j : Nat} (h4 : j ≠ 4) (h5 : j ≠ 5) (h6 : j ≠ 6) (h7 : j ≠ 7) (h12 : j ≠ 12) (h17 : j ≠ 17) : tkH F k s j = F j := by
  unfold tkH
  split
  · rw [fs_ne _ _ _ h4, fs_ne _ _ _ h7, fs_ne _ _ _ h12]
  · unfold btD
    rw [fs_ne _ _ _ h5, fs_ne _ _ _ h4, toP_row h6 h17, fs_ne _ _ _ h7, fs_ne _ _ _ h12]
theorem tkH_4 (F : hF) (s k i : Nat) : tkH F k s 4 i = if i = s then (if F 18 1 = 0 then 3 else 5) else F 4 i := by
  unfold tkH
  by_cases z : F 18 1 = 0
  · rw [if_pos z, if_pos z, fs_at]
    by_cases e : i = s
    · rw [if_pos ⟨rfl, e⟩, if_pos e]
    · rw [if_neg (fun y => e y.2), if_neg e]; rfl
  · rw [if_neg z, if_neg z]
    unfold btD
    rw [fs_ne _ _ _ (by decide), fs_at]
    by_cases e : i = s
    · rw [if_pos ⟨rfl, e⟩, if_pos e]
    · rw [if_neg (fun y => e y.2), if_neg e, toP_row (by decide) (by decide)]; rfl
theorem tkH_12 (F : hF) (s k i : Nat) : tkH F k s 12 i = if i = k then nI s else F 12 i := by
  have e : tkH F k s 12 = fs F 12 k (nI s) 12 := by
    unfold tkH
    split
    · rfl
    · unfold btD
      rw [fs_ne _ _ _ (by decide), fs_ne _ _ _ (by decide), toP_row (by decide) (by decide)]
      rfl
  rw [e, fs_at]
  by_cases e : i = k
  · rw [if_pos ⟨rfl, e⟩, if_pos e]
  · rw [if_neg (fun y => e y.2), if_neg e]
theorem Tp_ct {n c : Nat} (hn : n ≤ 20) : ∀ (d j : Nat) (F : hF), j + d = c → (F 18 1 = 0 ∨ F 18 1 = 1) → (∀ k, k < j → F 12 k ≠ -6) → Tp n c (ctN n d j F)
  | 0, j, F, hd, _, h0 => fun k hk q => absurd q (h0 k (by omega))
  | d + 1, j, F, hd, a8, h0 => by
    unfold ctN
    by_cases q : F 12 j = -6
    · rw [if_pos q]
      rcases nxH_of (n := n) a8 with y | ⟨s, h1, h2, h3⟩
      · rw [if_neg (by rw [y]; exact has_6)]
        exact fun _ _ _ => y
      · rw [if_pos (by rw [h2]; exact has_nI (by omega) h1), h2, nI_clamp (by omega)]
        refine Tp_ct hn d (j + 1) _ (by omega) (by rw [tkH_row (by decide) (by decide) (by decide) (by decide) (by decide) (by decide)]; exact a8) (fun k hk => ?_)
        rw [tkH_12]
        split
        · exact nI_ne6 (by omega)
        · exact h0 k (by omega)
    · rw [if_neg q]
      exact Tp_ct hn d (j + 1) F (by omega) a8 (fun k hk => by
        by_cases e : k = j
        · rw [e]; exact q
        · exact h0 k (by omega))
/-- what stays over an hour in which nothing is done: gone ones, built ones while the fair is on -/
def rg (n : Nat) (F F' : hF) : Prop := (∀ s, s < n → (F' 4 s = 6 ↔ F 4 s = 6) ∧ (F 18 1 = 0 → (F' 4 s = 4 ↔ F 4 s = 4))) ∧ F' 18 1 = F 18 1
theorem rg.rf {n : Nat} {F : hF} : rg n F F := ⟨fun _ _ => ⟨Iff.rfl, fun _ => Iff.rfl⟩, rfl⟩
theorem rg.tr {n : Nat} {F F' F'' : hF} (h : rg n F F') (h2 : rg n F' F'') : rg n F F'' :=
  ⟨fun s hs => ⟨((h2.1 s hs).1).trans (h.1 s hs).1, fun z => ((h2.1 s hs).2 (by rw [h.2]; exact z)).trans ((h.1 s hs).2 z)⟩, h2.2.trans h.2⟩
theorem rg.ai {n : Nat} {F F' : hF} (h : rg n F F') : aiP n F' ↔ aiP n F := by
  have e6 : hcnt n F' 6 = hcnt n F 6 := sumN_c n fun s hs => ifc (h.1 s hs).1
  unfold aiP
  rw [h.2, e6]
  by_cases z : F 18 1 = 0
  · have e4 : hcnt n F' 4 = hcnt n F 4 := sumN_c n fun s hs => ifc ((h.1 s hs).2 z)
    rw [e4]
  · rw [if_neg z, if_neg z]
theorem rg.set {n : Nat} {F : hF} {s : Nat} {v : Int32} (h6 : F 4 s ≠ 6) (v6 : v ≠ 6) (h4 : F 18 1 = 0 → F 4 s ≠ 4 ∧ v ≠ 4) : rg n F (fs F 4 s v) := by
  refine ⟨fun t ht => ?_, rfl⟩
  rw [fs_at]
  by_cases e : t = s
  · rw [if_pos ⟨rfl, e⟩, e]
    exact ⟨⟨fun q => absurd q v6, fun q => absurd q h6⟩, fun z => ⟨fun q => absurd q (h4 z).2, fun q => absurd q (h4 z).1⟩⟩
  · rw [if_neg (fun y => e y.2)]
    exact ⟨Iff.rfl, fun _ => Iff.rfl⟩
theorem rg_ll (n : Nat) (F : hF) : ∀ k, rg n F (itN k llS F)
  | 0 => rg.rf
  | k + 1 => by
    refine (rg_ll n F k).tr ?_
    show rg n (itN k llS F) (llS k (itN k llS F))
    generalize itN k llS F = F'
    unfold llS
    split
    · next q => exact rg.set (by rw [q.1]; decide) (by decide) (fun _ => ⟨by rw [q.1]; decide, by decide⟩)
    · exact rg.rf
theorem rg_lc (n : Nat) : ∀ (d s : Nat) (m : Int32) (F : hF), rg n F (lcN d s m F)
  | 0, _, _, _ => rg.rf
  | d + 1, s, m, F => by
    unfold lcN
    split
    · next q =>
      split
      · refine rg.tr ?_ (rg_lc n d (s + 1) _ _)
        exact (rg.set (s := s) (v := 1) (by rw [q]; decide) (by decide) (fun _ => ⟨by rw [q]; decide, by decide⟩)).tr ⟨fun _ _ => ⟨Iff.rfl, fun _ => Iff.rfl⟩, rfl⟩
      · exact rg.rf
    · exact rg_lc n d (s + 1) m F
/-- taking stands changes none that is told or at the dock -/
def ra (n : Nat) (F F' : hF) : Prop := rg n F F' ∧ (∀ s, s < n → (F' 4 s = 0 ↔ F 4 s = 0) ∧ (F' 4 s = 1 ↔ F 4 s = 1)) ∧ F' 1 = F 1 ∧ F' 16 = F 16
theorem ra_ct {n : Nat} (hn : n ≤ 20) : ∀ (d j : Nat) (F : hF), (F 18 1 = 0 ∨ F 18 1 = 1) → ra n F (ctN n d j F)
  | 0, _, _, _ => ⟨rg.rf, fun _ _ => ⟨Iff.rfl, Iff.rfl⟩, rfl, rfl⟩
  | d + 1, j, F, a8 => by
    unfold ctN
    by_cases q : F 12 j = -6
    · rw [if_pos q]
      rcases nxH_of (n := n) a8 with y | ⟨s, h1, h2, h3⟩
      · rw [if_neg (by rw [y]; exact has_6)]
        exact ⟨rg.rf, fun _ _ => ⟨Iff.rfl, Iff.rfl⟩, rfl, rfl⟩
      · rw [if_pos (by rw [h2]; exact has_nI (by omega) h1), h2, nI_clamp (by omega)]
        have e18 : tkH F j s 18 = F 18 := tkH_row (by decide) (by decide) (by decide) (by decide) (by decide) (by decide)
        obtain ⟨g1, g2, g3, g4⟩ := ra_ct hn d (j + 1) (tkH F j s) (by rw [e18]; exact a8)
        refine ⟨rg.tr ⟨fun t ht => ?_, by rw [e18]⟩ g1, fun t ht => ?_, g3.trans (tkH_row (by decide) (by decide) (by decide) (by decide) (by decide) (by decide)), g4.trans (tkH_row (by decide) (by decide) (by decide) (by decide) (by decide) (by decide))⟩
        · rw [tkH_4]
          by_cases e : t = s
          · rw [if_pos e, e, h3]
            rcases a8 with z | z
            · rw [z]; decide
            · rw [z]; decide
          · rw [if_neg e]
            exact ⟨Iff.rfl, fun _ => Iff.rfl⟩
        · have g := g2 t ht
          rw [tkH_4] at g
          by_cases e : t = s
          · rw [if_pos e] at g
            rw [e, h3]
            rw [e] at g
            rcases a8 with z | z
            · rw [z] at g ⊢
              exact ⟨g.1.trans (by decide), g.2.trans (by decide)⟩
            · rw [z] at g ⊢
              exact ⟨g.1.trans (by decide), g.2.trans (by decide)⟩
          · rw [if_neg e] at g
            exact g
    · rw [if_neg q]
      exact ra_ct hn d (j + 1) F a8
/-- hours of work that finish nothing -/
theorem ck_quiet {n : Nat} (x : Int32) (F : hF) : ∀ k, ∃ v, v ≤ k ∧ (itN k (ckS n x) (F, 0)).2 = nI v ∧ (v = 0 → ∀ j, j ≠ 5 → j ≠ 8 → j ≠ 13 → (itN k (ckS n x) (F, 0)).1 j = F j)
  | 0 => ⟨0, Nat.le_refl 0, rfl, fun _ _ _ _ _ => rfl⟩
  | k + 1 => by
    obtain ⟨v, h1, h2, h3⟩ := ck_quiet x F k
    show ∃ v', v' ≤ k + 1 ∧ (ckS n x k (itN k (ckS n x) (F, 0))).2 = nI v' ∧ (v' = 0 → ∀ j, j ≠ 5 → j ≠ 8 → j ≠ 13 → (ckS n x k (itN k (ckS n x) (F, 0))).1 j = F j)
    generalize itN k (ckS n x) (F, 0) = r at h2 h3 ⊢
    unfold ckS
    split
    · split
      · exact ⟨v + 1, by omega, by show r.2 + 1 = _; rw [h2, nI_1], fun e => absurd e (by omega)⟩
      · exact ⟨v, by omega, h2, fun e j j5 j8 j13 => (cwA_row j5 j8 j13).trans (h3 e j j5 j8 j13)⟩
    · exact ⟨v, by omega, h2, h3⟩
theorem p1R_n (n c : Nat) (F : hF) : ∃ v, v ≤ c ∧ p1R n c F = nI v := by
  obtain ⟨v, h1, h2, _⟩ := ck_quiet (n := n) 1 (p1A n c F) c
  exact ⟨v, h1, h2⟩
/-- a hall in which nothing happens but work -/
def Qp (n c : Nat) (F : hF) : Prop := Lp n F ∧ Tp n c F
theorem Qp_of {n c : Nat} (hn : n ≤ 20) (hc : c ≤ 6) {F : hF} (a8 : F 18 1 = 0 ∨ F 18 1 = 1) (q : p1R n c F = 0) : Qp n c (p1H n c F) ∧ (aiP n (p1H n c F) ↔ aiP n F) := by
  obtain ⟨v, h1, h2, h3⟩ := ck_quiet (n := n) 1 (p1A n c F) c
  have hv : v = 0 := by
    have e : p1R n c F = nI v := h2
    rw [q] at e
    exact (nI_inj6 (a := 0) (by decide) (by omega) e).symm
  have h4 := h3 hv
  have hL : Lp n (loH n F) := Lp_lc n 0 _ (by omega) (fun t ht => absurd ht (Nat.not_lt_zero t))
  have e18 : loH n F 18 1 = F 18 1 := ((rg_ll n F n).tr (rg_lc n n 0 _ _)).2
  obtain ⟨g1, g2, g3, g4⟩ := ra_ct hn c 0 (loH n F) (by rw [e18]; exact a8)
  have hT : Tp n c (p1A n c F) := Tp_ct hn c 0 (loH n F) (by omega) (by rw [e18]; exact a8) (fun k hk => absurd hk (Nat.not_lt_zero k))
  have hL2 : Lp n (p1A n c F) := Lp_c hL (fun s hs => (g2 s hs).1) (fun s hs => (g2 s hs).2) g3 g4
  have w4 : p1H n c F 4 = p1A n c F 4 := h4 4 (by decide) (by decide) (by decide)
  have w3 : p1H n c F 3 = p1A n c F 3 := h4 3 (by decide) (by decide) (by decide)
  have w1 : p1H n c F 1 = p1A n c F 1 := h4 1 (by decide) (by decide) (by decide)
  have w12 : p1H n c F 12 = p1A n c F 12 := h4 12 (by decide) (by decide) (by decide)
  have w16 : p1H n c F 16 = p1A n c F 16 := h4 16 (by decide) (by decide) (by decide)
  have w18 : p1H n c F 18 1 = p1A n c F 18 1 := congrFun (h4 18 (by decide) (by decide) (by decide)) 1
  refine ⟨⟨Lp_c hL2 (fun s _ => by rw [w4]) (fun s _ => by rw [w4]) w1 w16, fun k hk y => ?_⟩, ?_⟩
  · rw [nx_c w3 w4 w18]
    exact hT k hk (by rw [← w12]; exact y)
  · have e : rg n F (p1H n c F) := (((rg_ll n F n).tr (rg_lc n n 0 _ _)).tr g1).tr ⟨fun s _ => by rw [w4]; exact ⟨Iff.rfl, fun _ => Iff.rfl⟩, w18⟩
    exact e.ai
