/-! what a stand that is built or gone has left -/
def zL (n : Nat) (F : hF) : Prop := ∀ s, s < n → F 4 s = 4 ∨ F 4 s = 6 → F 5 s = 0
theorem zL.row {n : Nat} {F F' : hF} (h : zL n F) (h4 : F' 4 = F 4) (h5 : F' 5 = F 5) : zL n F' := fun s hs q => by
  rw [h5]
  exact h s hs (by rw [← h4]; exact q)
theorem zL.how {n : Nat} {F : hF} (h : zL n F) {t : Nat} {v : Int32} (v4 : v ≠ 4) (v6 : v ≠ 6) : zL n (fs F 4 t v) := fun s hs q => by
  show F 5 s = 0
  rw [fs_at] at q
  by_cases e : s = t
  · rw [if_pos ⟨rfl, e⟩] at q
    rcases q with q | q
    · exact absurd q v4
    · exact absurd q v6
  · rw [if_neg (fun y => e y.2)] at q
    exact h s hs q
theorem zL_ll {n : Nat} {F : hF} (h : zL n F) : ∀ k, zL n (itN k llS F)
  | 0 => h
  | k + 1 => by
    have ih := zL_ll h k
    show zL n (llS k (itN k llS F))
    generalize itN k llS F = F' at ih ⊢
    unfold llS
    split
    · exact ih.how (by decide) (by decide)
    · exact ih
theorem zL_lc {n : Nat} : ∀ (d s : Nat) (m : Int32) (F : hF), zL n F → zL n (lcN d s m F)
  | 0, _, _, _, h => h
  | d + 1, s, m, F, h => by
    unfold lcN
    split
    · split
      · refine zL_lc d (s + 1) _ _ ?_
        exact (h.how (t := s) (v := 1) (by decide) (by decide)).row (fs_ne _ _ _ (by decide)) (fs_ne _ _ _ (by decide))
      · exact h
    · exact zL_lc d (s + 1) m F h
theorem zL_tk {n : Nat} {F : hF} (h : zL n F) {k s : Nat} : zL n (tkH F k s) := by
  unfold tkH
  split
  · refine zL.how ?_ (by decide) (by decide)
    exact h.row (by rw [fs_ne _ _ _ (by decide), fs_ne _ _ _ (by decide)]) (by rw [fs_ne _ _ _ (by decide), fs_ne _ _ _ (by decide)])
  · unfold btD
    intro t ht q
    have e4 : ∀ i, fs (fs (toP (fs (fs F 12 k (nI s)) 7 s (nI k)) s) 4 s 5) 5 s ((toP (fs (fs F 12 k (nI s)) 7 s (nI k)) s 0 s + 1) / 2) 4 i = if i = s then 5 else F 4 i := fun i => by
      rw [fs_at, if_neg (by omega), fs_at, toP_row (j := 4) (by decide) (by decide)]
      by_cases e : i = s
      · rw [if_pos ⟨rfl, e⟩, if_pos e]
      · rw [if_neg (fun y => e y.2), if_neg e]
        rfl
    rw [e4] at q
    by_cases e : t = s
    · rw [if_pos e] at q
      exact absurd q (by decide)
    · rw [if_neg e] at q
      rw [fs_at, if_neg (fun y => e y.2), fs_at, if_neg (by omega), toP_row (j := 5) (by decide) (by decide)]
      exact h t ht q
theorem zL_ct {n : Nat} : ∀ (d j : Nat) (F : hF), zL n F → zL n (ctN n d j F)
  | 0, _, _, h => h
  | d + 1, j, F, h => by
    unfold ctN
    split
    · split
      · exact zL_ct d (j + 1) _ (zL_tk h)
      · exact h
    · exact zL_ct d (j + 1) F h
theorem mx0_0 {x : Int32} (h : mx0 x ≤ 0) : mx0 x = 0 := by
  unfold mx0 at h ⊢
  split
  · next q =>
    rw [if_pos q] at h
    exact (i_lt_le q h).elim
  · rfl
theorem zL_ck {n c : Nat} {F : hF} {x z : Int32} {k : Nat} (hn : n ≤ 20) (hk : k < c) (a : hI n c F) (h : zL n F) : zL n (ckS n x k (F, z)).1 := by
  rcases a.2.2.2.2.2.2.1 k hk with q | ⟨s, hs, q, q2, q3⟩
  · have e1 : ckS n x k (F, z) = (F, z) := if_neg (by show ¬ hhas n (F 12 k); rw [q]; exact has_6)
    rw [e1]
    exact h
  · have cl : (F 12 k).toNatClampNeg = s := by rw [q, nI_clamp (by omega)]
    have e1 : ckS n x k (F, z) = if mx0 (F 5 s - x * F 10 k) ≤ 0 then (fiH (cwA F x k s) k s, z + 1) else (cwA F x k s, z) := by
      rw [← cl]
      exact if_pos (by show hhas n (F 12 k); rw [q]; exact has_nI (by omega) hs)
    have h4 : F 4 s ≠ 4 ∧ F 4 s ≠ 6 := by
      rw [q3]
      split <;> decide
    have hw : zL n (cwA F x k s) := fun t ht y => by
      rw [cwA_row (by decide) (by decide) (by decide)] at y
      have e : t ≠ s := fun e => by
        rw [e] at y
        rcases y with y | y
        · exact h4.1 y
        · exact h4.2 y
      rw [cwA_at, if_neg (fun y => e y.2), if_neg (by omega), if_neg (by omega)]
      exact h t ht y
    rw [e1]
    by_cases w : mx0 (F 5 s - x * F 10 k) ≤ 0
    · rw [if_pos w]
      have h5 : cwA F x k s 5 s = 0 := by
        rw [cwA_at, if_pos ⟨rfl, rfl⟩]
        exact mx0_0 w
      show zL n (fiH (cwA F x k s) k s)
      have g : ∀ F' : hF, (∀ i, i ≠ s → F' 4 i = cwA F x k s 4 i) → F' 5 = cwA F x k s 5 → zL n F' := fun F' g4 g5 t ht y => by
        rw [g5]
        by_cases e : t = s
        · rw [e]; exact h5
        · rw [g4 t e] at y
          exact hw t ht y
      unfold fiH
      split
      · refine g _ (fun i hi => ?_) ?_
        · unfold poP
          split
          · rw [fs_ne _ _ _ (by decide), fs_ne _ _ _ (by decide), fs_ne _ _ _ (by decide), fs_at, if_neg (fun y => hi y.2), fs_ne _ _ _ (by decide), fs_ne _ _ _ (by decide)]
          · rw [fs_ne _ _ _ (by decide), fs_at, if_neg (fun y => hi y.2), fs_ne _ _ _ (by decide), fs_ne _ _ _ (by decide)]
        · unfold poP
          split
          · rfl
          · rfl
      · split
        · exact g _ (fun i hi => by rw [fs_ne _ _ _ (by decide), fs_ne _ _ _ (by decide), fs_at, if_neg (fun y => hi y.2), fs_ne _ _ _ (by decide), fs_ne _ _ _ (by decide)]) rfl
        · exact g _ (fun i hi => by rw [fs_ne _ _ _ (by decide), fs_at, if_neg (fun y => hi y.2), fs_ne _ _ _ (by decide), fs_ne _ _ _ (by decide)]) rfl
    · rw [if_neg w]
      exact hw
theorem zL_hour {n c h : Nat} {F E : hF} (H : sm n c h 0 (fun _ => 0) F E) (z : zL n F) : zL n (p1H n c F) := by
  have g0 := (sm_lor H).1
  have g1 := sm_takes (E0 := lorE n E) c 0 (loH n F) (by omega) g0
  have z1 : zL n (ctN n c 0 (loH n F)) := zL_ct c 0 _ (zL_lc n 0 _ _ (zL_ll z n))
  have hn := H.1
  have zk : ∀ k, k ≤ c → zL n (itN k (ckS n 1) (ctN n c 0 (loH n F), 0)).1 := by
    intro k
    induction k with
    | zero => intro _; exact z1
    | succ k ih =>
      intro hk
      have g2 := (sm_cw g1 k (by omega)).1
      exact zL_ck hn (by omega) g2.2.2.2.2.1 (ih (by omega))
  exact (zk c (Nat.le_refl c)).row rfl rfl
theorem zL_ph {n c h : Nat} {F E : hF} (H : sm n c h 0 (fun _ => 0) F E) (z : zL n F) : ∀ k, h + k ≤ 30000 → zL n (itN k (phS n c) (F, 0)).1
  | 0, _ => z
  | k + 1, hk => zL_hour (sm_ph H k (by omega)).1 (zL_ph H z k (by omega))
theorem zL_end {n c : Nat} {F : hF} (z : zL n F) : zL n (enT n c F).2 := by
  unfold enT
  split
  · intro s hs q
    have f1 : ∀ j, j ≠ 12 → j ≠ 18 → itN c laS (fs F 18 1 1) j = F j := fun j hj h18 => (laN_row hj _ c).trans (fs_ne _ _ _ h18)
    show (itN n clS (itN c laS (fs F 18 1 1), 0)).1 5 s = 0
    have q' : (itN n clS (itN c laS (fs F 18 1 1), 0)).1 4 s = 4 ∨ (itN n clS (itN c laS (fs F 18 1 1), 0)).1 4 s = 6 := q
    generalize itN c laS (fs F 18 1 1) = F0 at f1 q' ⊢
    rw [clN_at, f1 4 (by decide) (by decide)] at q'
    rw [clN_at, f1 4 (by decide) (by decide), f1 5 (by decide) (by decide)]
    by_cases c4 : s < n ∧ ¬ 4 ≤ F 4 s
    · rw [if_pos c4]
      rfl
    · rw [if_neg c4] at q' ⊢
      exact z s hs q'
  · exact z
theorem zL_ff {n : Nat} {F F' : hF} (z : zL n F) (hn : n ≤ 20) (k : eqF F F') : zL n F' := fun s hs q => by
  rw [k 4 s (by omega)] at q
  rw [k 5 s (by omega)]
  exact z s hs q
theorem zL_set {n : Nat} {F : hF} {x v : Int32} (z : zL n F) : zL n (chT3 F x v).2 := by
  unfold chT3
  split
  · split
    · exact z.row rfl rfl
    · exact z
  · exact z
theorem zL_add {n : Nat} {F : hF} {w1 w2 w3 w4 : Int32} (z : zL n F) : zL (n + 1) (apS F n w1 w2 w3 w4) := fun s hs q => by
  by_cases e : s = n
  · rw [e, apS_4] at q
    exact absurd q (by decide)
  · rw [apS_old _ _ _ _ _ _ e] at q ⊢
    exact z s (by omega) q
theorem zL_crew {n c : Nat} {F : hF} {x y : Int32} (z : zL n F) : zL n (apC F c x y) := z.row (apC_big _ _ _ _ (by decide)) (apC_big _ _ _ _ (by decide))
/-! what is asked, alike in both -/
theorem as_stand {n c : Nat} {F E : hF} (H : SV n c F E) (z : zL n F) (x y : Int32) : telS n F x y = ofsE n E x y := by
  obtain ⟨h, hh, H⟩ := H
  obtain ⟨hn, hc, _, _, a, a0, al, r, w, m⟩ := H
  unfold telS ofsE
  by_cases q : hhas n x
  · obtain ⟨j, hj, e⟩ := has_in (by omega) q
    rw [if_pos q, if_pos ((wI_has hn).mpr q), r.sto]
    have cl : x.toNatClampNeg = j := by rw [e, nI_clamp (by omega)]
    rw [cl]
    by_cases y0 : y = 0
    · subst y0; exact (r.A hj 0 (by decide) (by decide)).symm
    by_cases y1 : y = 1
    · subst y1; exact (r.A hj 1 (by decide) (by decide)).symm
    by_cases y2 : y = 2
    · subst y2; exact (r.A hj 2 (by decide) (by decide)).symm
    by_cases y3 : y = 3
    · subst y3; exact (r.A hj 3 (by decide) (by decide)).symm
    by_cases y4 : y = 4
    · subst y4; exact (r.A hj 4 (by decide) (by decide)).symm
    by_cases y5 : y = 5
    · subst y5
      show F 5 j = lftE E j
      unfold lftE
      rw [r.A hj 4 (by decide) (by decide), r.A hj 5 (by decide) (by decide)]
      show F 5 j = if F 4 j = 4 ∨ F 4 j = 6 then 0 else F 5 j
      by_cases g : F 4 j = 4 ∨ F 4 j = 6
      · rw [if_pos g]; exact z j hj g
      · rw [if_neg g]
    by_cases y6 : y = 6
    · subst y6; exact (r.A hj 6 (by decide) (by decide)).symm
    by_cases y7 : y = 7
    · subst y7; exact (r.A hj 7 (by decide) (by decide)).symm
    by_cases y8 : y = 8
    · subst y8; rfl
    by_cases y9 : y = 9
    · subst y9; exact (r.A hj 9 (by decide) (by decide)).symm
    · rw [if_neg y0, if_neg y1, if_neg y2, if_neg y3, if_neg y4, if_neg y5, if_neg y6, if_neg y7, if_neg y8, if_neg y9, if_neg y5, if_neg y8, if_neg (fun g => by rcases g with g | g | g | g | g | g | g | g <;> contradiction)]
  · rw [if_neg q, if_neg (fun g => q ((wI_has hn).mp g))]
theorem as_crew {n c : Nat} {F E : hF} (H : SV n c F E) (x y : Int32) : telC c F x y = ofcE c E x y := by
  obtain ⟨h, hh, H⟩ := H
  obtain ⟨hn, hc, _, _, a, a0, al, r, w, m⟩ := H
  unfold telC ofcE
  by_cases q : hhas c x
  · obtain ⟨j, hj, e⟩ := has_in (by omega) q
    rw [if_pos q, if_pos ((wI_has (by omega)).mpr q)]
    have cl : x.toNatClampNeg = j := by rw [e, nI_clamp (by omega)]
    rw [cl]
    by_cases g : wI y 0 6
    · obtain ⟨i, _, hi, ey⟩ := wI_lit (a := 0) (b := 6) (by decide) (by decide) g
      rw [if_pos g, ey, nI_clamp (by omega)]
      rcases (show i = 0 ∨ i = 1 ∨ i = 2 ∨ i = 3 ∨ i = 4 ∨ i = 5 ∨ i = 6 by omega) with rfl | rfl | rfl | rfl | rfl | rfl | rfl
      · exact (r.B hj 0 (by decide) (by decide)).symm
      · exact (r.B hj 1 (by decide) (by decide)).symm
      · exact (r.B hj 2 (by decide) (by decide)).symm
      · exact (r.B hj 3 (by decide) (by decide)).symm
      · exact (r.2.2.1 j hj).symm
      · exact (r.B hj 5 (by decide) (by decide)).symm
      · exact (r.B hj 6 (by decide) (by decide)).symm
    · have ny : ∀ i : Nat, i ≤ 6 → y ≠ nI i := fun i hi e => g (by rw [e]; exact ⟨nI_pos (by omega), nI_nlt (a := 6) (b := i) (by omega) (by decide)⟩)
      rw [if_neg g, if_neg (show ¬ y = 0 from ny 0 (by decide)), if_neg (show ¬ y = 1 from ny 1 (by decide)), if_neg (show ¬ y = 2 from ny 2 (by decide)), if_neg (show ¬ y = 3 from ny 3 (by decide)), if_neg (show ¬ y = 4 from ny 4 (by decide)), if_neg (show ¬ y = 5 from ny 5 (by decide)), if_neg (show ¬ y = 6 from ny 6 (by decide))]
  · rw [if_neg q, if_neg (fun g => q ((wI_has (by omega)).mp g))]
theorem as_load {n c : Nat} {F E : hF} (H : SV n c F E) (x : Int32) : ldH F x = lodE n E x := by
  obtain ⟨h, hh, H⟩ := H
  obtain ⟨hn, hc, _, _, a, a0, al, r, w, m⟩ := H
  unfold ldH lodE
  by_cases q : ¬ x < 0 ∧ x < 3
  · obtain ⟨j, hj, e⟩ := lt3_in q.1 q.2
    rw [if_pos q, if_pos (by rw [e]; exact ⟨nI_pos (by omega), nI_nlt (a := 2) (b := j) (by omega) (by decide)⟩), r.loa, e, nI_clamp (by omega)]
    exact a.2.2.2.2.2.2.2.2.2.2.2.1 j hj
  · rw [if_neg q, if_neg (fun g => q (by
      obtain ⟨j, _, hj, e⟩ := wI_lit (a := 0) (b := 2) (by decide) (by decide) g
      rw [e]
      exact ⟨nI_pos (by omega), nI_lt (b := 3) (by omega) (by decide)⟩))]
theorem as_count {n c : Nat} {F E : hF} (H : SV n c F E) {pl y : Nat} (h61 : E 6 1 = nI pl) (h60 : E 6 0 = nI y) (x : Int32) : (if x = 18 then nI pl else if x = 19 then nI y else nuH n c F x) = couE n c E x := by
  obtain ⟨h, hh, H⟩ := H
  obtain ⟨hn, hc, _, _, a, a0, al, r, w, m⟩ := H
  have r6 : E 0 6 = F 18 1 := r.2.2.2.2.2.2.2.1
  have a8 := a.2.2.2.2.2.2.2.1
  unfold nuH couE
  rw [r.cnt, r.cnt, r.cnt, r.cnt, r.cnt, r.cnt, r.cnt, r.met, r.cos, r.wop, h61, h60, r.2.2.2.2.2.2.1, r6, r.2.2.2.2.2.2.2.2, r.2.2.2.1, r.2.2.2.2.1, r.2.2.2.2.2.1]
  have e11 : (if F 18 1 = 0 then (0 : Int32) else 1) = F 18 1 := by
    rcases a8 with z | z
    · rw [if_pos z, z]
    · rw [if_neg (by rw [z]; decide), z]
  rw [e11]
  by_cases y18 : x = 18
  · subst y18; rfl
  by_cases y19 : x = 19
  · subst y19; rfl
  rw [if_neg y18, if_neg y19, if_neg y18, if_neg y19]
theorem as_waits {n c : Nat} {F E : hF} (H : SV n c F E) (x : Int32) : waH n F x = waiE n E x := by
  obtain ⟨h, hh, H⟩ := H
  obtain ⟨hn, hc, _, _, a, a0, al, r, w, m⟩ := H
  have r6 : E 0 6 = F 18 1 := r.2.2.2.2.2.2.2.1
  unfold waH waiE
  by_cases q : hhas n x
  · obtain ⟨j, hj, e⟩ := has_in (by omega) q
    have cl : x.toNatClampNeg = j := by rw [e, nI_clamp (by omega)]
    have eb : (if hbb n F x then (4 : Int32) else 3) = if hasB E j then 4 else 3 := ifc (by rw [e]; exact (hasB_eq a r hn hj).symm)
    have eb2 : (if hasB E x.toNatClampNeg then (4 : Int32) else 3) = if hasB E j then 4 else 3 := ifc (by rw [cl])
    rw [if_pos q, if_pos ((wI_has hn).mpr q), r.sto, r6, eb, eb2, cl, r.A hj 4 (by decide) (by decide)]
    rfl
  · rw [if_neg q, if_neg (fun g => q ((wI_has hn).mp g))]
/-! what would be -/
theorem tr_M {n c h M : Nat} {F E : hF} (H : sm n c h 0 (fun _ => 0) F E) (hh : h ≤ 9999) (hM : M ≤ 1000) : (huN n c (F 18 0) (nI M) M F).1 = if gH n c (M + 1) 0 F ≤ M then nI (gH n c (M + 1) 0 F) else -6 := by
  rw [H.2.2.2.2.2.1]
  exact hu_eq hM (by omega) M 0 H (Nat.zero_le M) (by omega)
theorem tr_go {n c h : Nat} {F E : hF} (H : sm n c h 0 (fun _ => 0) F E) (hh : h ≤ 9999) : (huN n c (F 18 0) (nI 1000) 1000 F).1 = goR n c E := by
  rw [tr_M H hh (by decide)]
  unfold goR
  rw [go_eq 1001 0 h H (by omega)]
theorem sm_trial {n c h : Nat} {F E : hF} (H : sm n c h 0 (fun _ => 0) F E) (Ft : hF) : sm n c h 0 (fun _ => 0) (hcF F Ft) (fr E 1 (E 0)) := (H.ff (hcF_eq F Ft)).ee (fun i _ => by rw [fr_ne _ _ (by decide)])
theorem wh_allIn {n c : Nat} {F E : hF} (H : SV n c F E) (Ft : hF) : (huN n c (hcF F Ft 18 0) (nI 1000) 1000 (hcF F Ft)).1 = goR n c (fr E 1 (E 0)) := by
  obtain ⟨h, hh, H⟩ := H
  exact tr_go (sm_trial H Ft) hh
theorem wh_crew {n c : Nat} {F E : hF} (H : SV n c F E) (Ft : hF) (x : Int32) : (if (acT c (hcF F Ft) x 0).1 < 0 then (acT c (hcF F Ft) x 0).1 else (huN n (acT c (hcF F Ft) x 0).2.1 ((acT c (hcF F Ft) x 0).2.2 18 0) (nI 1000) 1000 (acT c (hcF F Ft) x 0).2.2).1) = wcR n c E x := by
  obtain ⟨h, hh, H⟩ := H
  have e0 : whcS (fr E 1 (E 0)) x 0 = whcS E x 0 := by
    unfold whcS
    rw [fr_ne _ _ (by decide)]
  unfold wcR
  rcases op_crew1 (sm_trial H Ft) x 0 with ⟨g1, g2, g3, g4⟩ | ⟨g1, g2⟩
  · rw [e0] at g1
    rw [g3, g1]
    show (if nI c < 0 then nI c else (huN n (c + 1) (apC (hcF F Ft) c x 0 18 0) (nI 1000) 1000 (apC (hcF F Ft) c x 0)).1) = _
    rw [if_neg (nI_pos (by omega)), if_pos (show (0 : Int32) ≤ 0 by decide)]
    exact tr_go g4 hh
  · rw [e0] at g1 g2
    rw [g2]
    show (if whcS E x 0 < 0 then whcS E x 0 else _) = _
    rw [if_pos g1, if_neg (Int32.not_le.mpr g1)]
/-- in how many hours all is in with a dock -/
def dN (n c : Nat) (E : hF) (d : Nat) : Nat := goN n c 1001 0 (fs (fr E 1 (E 0)) 0 0 (nI d))
theorem wh_dock {n c : Nat} {F E : hF} (H : SV n c F E) (Ft : hF) {d m : Nat} (h1 : 1 ≤ d) (h2 : d ≤ 60) (hm : m ≤ 1000) : hwD n c F Ft (nI d) m = if dN n c E d ≤ m then nI (dN n c E d) else -6 := by
  obtain ⟨h, hh, H⟩ := H
  have hw : isvP 0 (nI d) := Or.inl ⟨rfl, nI_nlt (b := 1) h1 (by omega), nI_nlt (a := 60) h2 (by decide)⟩
  rcases sm_set (sm_trial H Ft) 0 (nI d) with ⟨_, _, _, g⟩ | ⟨g, _⟩
  · have g' : sm n c h 0 (fun _ => 0) (chT3 (hcF F Ft) 0 (nI d)).2 (fs (fr E 1 (E 0)) 0 0 (nI d)) := g
    unfold hwD
    rw [tr_M g' hh hm]
    have e := go_eq (n := n) (c := c) 1001 0 h g' (by omega)
    unfold dN
    rw [e]
    obtain ⟨k1, k2⟩ := gH_cut (n := n) (c := c) (M := m) (m + 1) 1001 0 (chT3 (hcF F Ft) 0 (nI d)).2 (by omega) (by omega)
    by_cases q : gH n c (m + 1) 0 (chT3 (hcF F Ft) 0 (nI d)).2 ≤ m
    · rw [k1 q]
    · rw [if_neg q, if_neg (k2 q)]
  · exact absurd hw g
theorem aw_dock (n c : Nat) (E : hF) (d : Nat) : awR n c E (nI d) = if dN n c E d ≤ 1000 then nI (dN n c E d) else -6 := rfl
def dG (n c : Nat) (E : hF) : Nat := min (dN n c E 60) 1000
def dP (n c : Nat) (E : hF) (d : Nat) : Int32 := if dN n c E d ≤ dG n c E then nI (dN n c E d) else -6
theorem ld_eq {n c : Nat} {E : hF} (h : dN n c E 60 ≤ 1000) : ∀ d k, ldP (dP n c E) d k = ldN n c E d k
  | 0, _ => rfl
  | d + 1, k => by
    have hg : dG n c E = dN n c E 60 := by unfold dG; omega
    have e60 : awR n c E 60 = nI (dN n c E 60) := by
      have := aw_dock n c E 60
      rw [if_pos h] at this
      exact this
    unfold ldP ldN
    rw [ld_eq h d (k + 1), aw_dock, e60]
    unfold dP
    rw [hg]
    by_cases q : dN n c E k ≤ dN n c E 60
    · rw [if_pos q, if_neg (nI_ne6 (by omega)), if_pos (by omega : dN n c E k ≤ 1000), if_neg (nI_ne6 (by omega)), if_neg (nI_nlt q (by omega))]
    · rw [if_neg q, if_pos rfl]
      by_cases w : dN n c E k ≤ 1000
      · rw [if_pos w, if_neg (nI_ne6 (by omega)), if_pos (nI_lt (by omega) (by omega))]
      · rw [if_neg w, if_pos rfl]
theorem wh_least {n c : Nat} (E : hF) : (if awR n c E 60 = -6 then -6 else ldP (dP n c E) 59 1) = ldE n c E := by
  unfold ldE
  by_cases h : dN n c E 60 ≤ 1000
  · rw [ld_eq h]
  · have e60 : awR n c E 60 = -6 := by
      have := aw_dock n c E 60
      rw [if_neg h] at this
      exact this
    rw [if_pos e60, if_pos e60]
