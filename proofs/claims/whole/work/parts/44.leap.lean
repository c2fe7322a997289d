/-! the leap over quiet hours -/
def cr (F : hF) (i : Nat) : Nat := (F 7 i).toNatClampNeg
abbrev aP (n k : Nat) (F : hF) (i : Nat) : Prop := i < n ∧ cr F i < k ∧ F 12 (cr F i) = nI i
def wkF (n k : Nat) (x : Int32) (F : hF) : hF := fun j i => if j = 13 ∧ (i < k ∧ hhas n (F 12 i)) then F 13 i + x else if j = 8 ∧ aP n k F i then F 8 i + x else if j = 5 ∧ aP n k F i then F 5 i - x * F 10 (cr F i) else F j i
theorem wkF_row {n k : Nat} {x : Int32} {F : hF} {j : Nat} (h5 : j ≠ 5) (h8 : j ≠ 8) (h13 : j ≠ 13) : wkF n k x F j = F j := by
  funext i
  unfold wkF
  rw [if_neg (fun y => h13 y.1), if_neg (fun y => h8 y.1), if_neg (fun y => h5 y.1)]
theorem wkF_13 {n k : Nat} {x : Int32} {F : hF} (i : Nat) : wkF n k x F 13 i = if i < k ∧ hhas n (F 12 i) then F 13 i + x else F 13 i := by
  unfold wkF
  by_cases q : i < k ∧ hhas n (F 12 i)
  · rw [if_pos ⟨rfl, q⟩, if_pos q]
  · rw [if_neg (fun y => q y.2), if_neg (fun y => absurd y.1 (by decide)), if_neg (fun y => absurd y.1 (by decide)), if_neg q]
theorem wkF_8 {n k : Nat} {x : Int32} {F : hF} (i : Nat) : wkF n k x F 8 i = if aP n k F i then F 8 i + x else F 8 i := by
  unfold wkF
  rw [if_neg (fun y => absurd y.1 (by decide))]
  by_cases q : aP n k F i
  · rw [if_pos ⟨rfl, q⟩, if_pos q]
  · rw [if_neg (fun y => q y.2), if_neg (fun y => absurd y.1 (by decide)), if_neg q]
theorem wkF_5 {n k : Nat} {x : Int32} {F : hF} (i : Nat) : wkF n k x F 5 i = if aP n k F i then F 5 i - x * F 10 (cr F i) else F 5 i := by
  unfold wkF
  rw [if_neg (fun y => absurd y.1 (by decide)), if_neg (fun y => absurd y.1 (by decide))]
  by_cases q : aP n k F i
  · rw [if_pos ⟨rfl, q⟩, if_pos q]
  · rw [if_neg (fun y => q y.2), if_neg q]
theorem wk_ext {F F' : hF} (h5 : ∀ i, F 5 i = F' 5 i) (h8 : ∀ i, F 8 i = F' 8 i) (h13 : ∀ i, F 13 i = F' 13 i) (h : ∀ j, j ≠ 5 → j ≠ 8 → j ≠ 13 → F j = F' j) : F = F' := by
  funext j i
  by_cases e5 : j = 5
  · rw [e5]; exact h5 i
  · by_cases e8 : j = 8
    · rw [e8]; exact h8 i
    · by_cases e13 : j = 13
      · rw [e13]; exact h13 i
      · rw [h j e5 e8 e13]
abbrev b7 (n c : Nat) (F : hF) : Prop := ∀ k, k < c → F 12 k = -6 ∨ ∃ s, s < n ∧ F 12 k = nI s ∧ F 7 s = nI k
theorem aP_succ {n k s : Nat} {F : hF} (hn : n ≤ 20) (hk : k < 6) (hs : s < n) (q1 : F 12 k = nI s) (q2 : F 7 s = nI k) (i : Nat) : aP n (k + 1) F i ↔ (aP n k F i ∨ i = s) := by
  have ec : cr F s = k := by
    unfold cr
    rw [q2, nI_clamp (by omega)]
  constructor
  · rintro ⟨h1, h2, h3⟩
    by_cases e : cr F i = k
    · rw [e, q1] at h3
      exact Or.inr (nI_inj6 (by omega) (by omega) h3).symm
    · exact Or.inl ⟨h1, by omega, h3⟩
  · rintro (⟨h1, h2, h3⟩ | e)
    · exact ⟨h1, by omega, h3⟩
    · rw [e]
      exact ⟨hs, by omega, by rw [ec]; exact q1⟩
theorem aP_no {n k : Nat} {F : hF} (hn : n ≤ 20) (q : F 12 k = -6) (i : Nat) : aP n (k + 1) F i ↔ aP n k F i := by
  constructor
  · rintro ⟨h1, h2, h3⟩
    have e : cr F i ≠ k := fun e => by
      rw [e, q] at h3
      exact nI_ne6 (by omega) h3.symm
    exact ⟨h1, by omega, h3⟩
  · rintro ⟨h1, h2, h3⟩
    exact ⟨h1, by omega, h3⟩
theorem wk_eq {n c : Nat} {F : hF} {x : Int32} (hn : n ≤ 20) (hc : c ≤ 6) (a7 : b7 n c F) (hp : ∀ k, k < c → ∀ s, s < n → F 12 k = nI s → 0 < F 5 s - x * F 10 k) : ∀ k, k ≤ c → itN k (ckS n x) (F, 0) = (wkF n k x F, 0)
  | 0, _ => by
    show (F, (0 : Int32)) = (wkF n 0 x F, 0)
    refine congrArg (fun z => (z, (0 : Int32))) (wk_ext (fun i => ?_) (fun i => ?_) (fun i => ?_) (fun j h5 h8 h13 => (wkF_row h5 h8 h13).symm))
    · rw [wkF_5, if_neg (fun y => absurd y.2.1 (Nat.not_lt_zero _))]
    · rw [wkF_8, if_neg (fun y => absurd y.2.1 (Nat.not_lt_zero _))]
    · rw [wkF_13, if_neg (fun y => absurd y.1 (Nat.not_lt_zero _))]
  | k + 1, hk => by
    show ckS n x k (itN k (ckS n x) (F, 0)) = _
    rw [wk_eq hn hc a7 hp k (by omega)]
    have r12 : wkF n k x F 12 k = F 12 k := by rw [wkF_row (by decide) (by decide) (by decide)]
    have r10 : wkF n k x F 10 k = F 10 k := by rw [wkF_row (by decide) (by decide) (by decide)]
    rcases a7 k (by omega) with q | ⟨s, hs, q, q2⟩
    · have e1 : ckS n x k (wkF n k x F, 0) = (wkF n k x F, 0) := if_neg (by show ¬ hhas n (wkF n k x F 12 k); rw [r12, q]; exact has_6)
      rw [e1]
      refine congrArg (fun z => (z, (0 : Int32))) (wk_ext (fun i => ?_) (fun i => ?_) (fun i => ?_) (fun j h5 h8 h13 => (wkF_row h5 h8 h13).trans (wkF_row h5 h8 h13).symm))
      · rw [wkF_5, wkF_5]
        exact ifc (aP_no hn q i).symm
      · rw [wkF_8, wkF_8]
        exact ifc (aP_no hn q i).symm
      · rw [wkF_13, wkF_13]
        refine ifc ⟨fun y => ⟨by omega, y.2⟩, fun y => ⟨?_, y.2⟩⟩
        have e : i ≠ k := fun e => by
          have y2 := y.2
          rw [e, q] at y2
          exact has_6 y2
        omega
    · have ec : cr F s = k := by
        unfold cr
        rw [q2, nI_clamp (by omega)]
      have na : ¬ aP n k F s := fun y => by
        have := y.2.1
        omega
      have r5 : wkF n k x F 5 s = F 5 s := by rw [wkF_5, if_neg na]
      have r8 : wkF n k x F 8 s = F 8 s := by rw [wkF_8, if_neg na]
      have r13 : wkF n k x F 13 k = F 13 k := by rw [wkF_13, if_neg (fun y => absurd y.1 (Nat.lt_irrefl k))]
      have hz := hp k (by omega) s hs q
      have em : mx0 (F 5 s - x * F 10 k) = F 5 s - x * F 10 k := if_pos hz
      have cl : (wkF n k x F 12 k).toNatClampNeg = s := by rw [r12, q, nI_clamp (by omega)]
      have e1 : ckS n x k (wkF n k x F, 0) = (cwA (wkF n k x F) x k s, 0) := by
        have g : ckS n x k (wkF n k x F, 0) = if mx0 (wkF n k x F 5 (wkF n k x F 12 k).toNatClampNeg - x * wkF n k x F 10 k) ≤ 0 then (fiH (cwA (wkF n k x F) x k (wkF n k x F 12 k).toNatClampNeg) k (wkF n k x F 12 k).toNatClampNeg, (0 : Int32) + 1) else (cwA (wkF n k x F) x k (wkF n k x F 12 k).toNatClampNeg, 0) := if_pos (by show hhas n (wkF n k x F 12 k); rw [r12, q]; exact has_nI (by omega) hs)
        rw [g, cl, r5, r10, em, if_neg (fun y => i_lt_le hz y)]
      rw [e1]
      refine congrArg (fun z => (z, (0 : Int32))) (wk_ext (fun i => ?_) (fun i => ?_) (fun i => ?_) (fun j h5 h8 h13 => ((cwA_row h5 h8 h13).trans (wkF_row h5 h8 h13)).trans (wkF_row h5 h8 h13).symm))
      · rw [cwA_at, r5, r10, em, wkF_5, wkF_5]
        by_cases e : i = s
        · rw [if_pos ⟨rfl, e⟩, if_pos ((aP_succ hn (by omega) hs q q2 i).mpr (Or.inr e)), e, ec]
        · rw [if_neg (fun y => e y.2), if_neg (fun y => absurd y.1 (by decide)), if_neg (fun y => absurd y.1 (by decide))]
          exact ifc ⟨fun y => (aP_succ hn (by omega) hs q q2 i).mpr (Or.inl y), fun y => ((aP_succ hn (by omega) hs q q2 i).mp y).resolve_right e⟩
      · rw [cwA_at, r8, wkF_8, wkF_8, if_neg (fun y => absurd y.1 (by decide))]
        by_cases e : i = s
        · rw [if_pos ⟨rfl, e⟩, if_pos ((aP_succ hn (by omega) hs q q2 i).mpr (Or.inr e)), e]
        · rw [if_neg (fun y => e y.2), if_neg (fun y => absurd y.1 (by decide))]
          exact ifc ⟨fun y => (aP_succ hn (by omega) hs q q2 i).mpr (Or.inl y), fun y => ((aP_succ hn (by omega) hs q q2 i).mp y).resolve_right e⟩
      · rw [cwA_at, r13, wkF_13, wkF_13, if_neg (fun y => absurd y.1 (by decide)), if_neg (fun y => absurd y.1 (by decide))]
        by_cases e : i = k
        · rw [if_pos ⟨rfl, e⟩, if_pos ⟨by omega, by rw [e, q]; exact has_nI (by omega) hs⟩, e]
        · rw [if_neg (fun y => e y.2)]
          exact ifc ⟨fun y => ⟨by omega, y.2⟩, fun y => ⟨by omega, y.2⟩⟩
/-- m hours of mere work -/
def WN (n c m : Nat) (F : hF) : hF := fs (wkF n c (nI m) F) 18 0 (F 18 0 + nI m)
theorem WN_row {n c m : Nat} {F : hF} {j : Nat} (h5 : j ≠ 5) (h8 : j ≠ 8) (h13 : j ≠ 13) (h18 : j ≠ 18) : WN n c m F j = F j := by
  unfold WN
  rw [fs_ne _ _ _ h18, wkF_row h5 h8 h13]
theorem WN_0 {n c : Nat} {F : hF} : WN n c 0 F = F := by
  unfold WN
  rw [nI_0, Int32.add_zero]
  have e : wkF n c 0 F = F := wk_ext (fun i => by rw [wkF_5, Int32.zero_mul, Int32.sub_zero, ite_self]) (fun i => by rw [wkF_8, Int32.add_zero, ite_self]) (fun i => by rw [wkF_13, Int32.add_zero, ite_self]) (fun j h5 h8 h13 => wkF_row h5 h8 h13)
  rw [e]
  exact fs_id rfl
theorem WN_next {n c m : Nat} {F : hF} : fs (wkF n c 1 (WN n c m F)) 18 0 (WN n c m F 18 0 + 1) = WN n c (m + 1) F := by
  have r7 : WN n c m F 7 = F 7 := WN_row (by decide) (by decide) (by decide) (by decide)
  have r12 : WN n c m F 12 = F 12 := WN_row (by decide) (by decide) (by decide) (by decide)
  have r10 : WN n c m F 10 = F 10 := WN_row (by decide) (by decide) (by decide) (by decide)
  have r5 : ∀ i, WN n c m F 5 i = wkF n c (nI m) F 5 i := fun i => rfl
  have r8 : ∀ i, WN n c m F 8 i = wkF n c (nI m) F 8 i := fun i => rfl
  have r13 : ∀ i, WN n c m F 13 i = wkF n c (nI m) F 13 i := fun i => rfl
  have r18 : WN n c m F 18 0 = F 18 0 + nI m := fs_same _ _ _ _
  have ec : ∀ i, cr (WN n c m F) i = cr F i := fun i => by unfold cr; rw [r7]
  have ea : ∀ i, aP n c (WN n c m F) i ↔ aP n c F i := fun i => by
    show (i < n ∧ cr (WN n c m F) i < c ∧ WN n c m F 12 (cr (WN n c m F) i) = nI i) ↔ _
    rw [ec, r12]
  have e : wkF n c 1 (WN n c m F) = fs (wkF n c (nI (m + 1)) F) 18 0 (F 18 0 + nI m) := by
    refine wk_ext (fun i => ?_) (fun i => ?_) (fun i => ?_) (fun j h5 h8 h13 => ?_)
    · rw [wkF_5, r5, wkF_5]
      show _ = wkF n c (nI (m + 1)) F 5 i
      rw [wkF_5]
      by_cases q : aP n c F i
      · rw [if_pos ((ea i).mpr q), if_pos q, if_pos q, ec, r10, Int32.one_mul, ← nI_1, Int32.add_mul, Int32.one_mul, Int32.sub_eq_add_neg, Int32.sub_eq_add_neg, Int32.sub_eq_add_neg, Int32.neg_add, Int32.sub_eq_add_neg, Int32.add_assoc]
      · rw [if_neg (fun y => q ((ea i).mp y)), if_neg q, if_neg q]
    · rw [wkF_8, r8, wkF_8]
      show _ = wkF n c (nI (m + 1)) F 8 i
      rw [wkF_8]
      by_cases q : aP n c F i
      · rw [if_pos ((ea i).mpr q), if_pos q, if_pos q, ← nI_1, Int32.add_assoc]
      · rw [if_neg (fun y => q ((ea i).mp y)), if_neg q, if_neg q]
    · rw [wkF_13, r13, wkF_13, r12]
      show _ = wkF n c (nI (m + 1)) F 13 i
      rw [wkF_13]
      by_cases q : i < c ∧ hhas n (F 12 i)
      · rw [if_pos q, if_pos q, if_pos q, ← nI_1, Int32.add_assoc]
      · rw [if_neg q, if_neg q, if_neg q]
    · rw [wkF_row h5 h8 h13]
      unfold WN
      by_cases e : j = 18
      · subst e
        rw [fs_row, fs_row, wkF_row h5 h8 h13, wkF_row h5 h8 h13]
      · rw [fs_ne _ _ _ e, fs_ne _ _ _ e, wkF_row h5 h8 h13, wkF_row h5 h8 h13]
  rw [e, r18]
  unfold WN
  rw [← nI_1, ← Int32.add_assoc]
  funext j i
  rw [fs_at, fs_at, fs_at]
  split
  · rfl
  · rfl
theorem itN_fix {α : Type} {f : Nat → α → α} {a : α} : ∀ k, (∀ i, i < k → f i a = a) → itN k f a = a
  | 0, _ => rfl
  | k + 1, h => by
    show f k (itN k f a) = a
    rw [itN_fix k (fun i hi => h i (by omega))]
    exact h k (Nat.lt_succ_self k)
/-- what allows a leap of m hours -/
def Mp (n c m : Nat) (F : hF) : Prop := (∀ s, s < n → F 4 s = 1 → ∃ v, m ≤ v ∧ v ≤ 9 ∧ F 9 s = F 18 0 + nI v) ∧ (∀ k, k < c → ∀ s, s < n → F 12 k = nI s → ∃ a b, F 5 s = nI a ∧ F 10 k = nI b ∧ a ≤ 99 ∧ b ≤ 9 ∧ m * b + 1 ≤ a)
theorem leap1 {n c h m : Nat} {F : hF} (hn : n ≤ 20) (hc : c ≤ 6) (hh : h ≤ 30000) (hm : m ≤ 1000) (h18 : F 18 0 = nI h) (a7 : b7 n c F) (Q : Qp n c F) (M : Mp n c m F) {j : Nat} (hj : j < m) : p1H n c (WN n c j F) = WN n c (j + 1) F := by
  have r1 : WN n c j F 1 = F 1 := WN_row (by decide) (by decide) (by decide) (by decide)
  have r3 : WN n c j F 3 = F 3 := WN_row (by decide) (by decide) (by decide) (by decide)
  have r4 : WN n c j F 4 = F 4 := WN_row (by decide) (by decide) (by decide) (by decide)
  have r7 : WN n c j F 7 = F 7 := WN_row (by decide) (by decide) (by decide) (by decide)
  have r9 : WN n c j F 9 = F 9 := WN_row (by decide) (by decide) (by decide) (by decide)
  have r10 : WN n c j F 10 = F 10 := WN_row (by decide) (by decide) (by decide) (by decide)
  have r12 : WN n c j F 12 = F 12 := WN_row (by decide) (by decide) (by decide) (by decide)
  have r16 : WN n c j F 16 = F 16 := WN_row (by decide) (by decide) (by decide) (by decide)
  have r18 : WN n c j F 18 0 = F 18 0 + nI j := fs_same _ _ _ _
  have r181 : WN n c j F 18 1 = F 18 1 := by
    unfold WN
    rw [fs_at, if_neg (by omega), wkF_row (by decide) (by decide) (by decide)]
  have r5 : ∀ i, WN n c j F 5 i = wkF n c (nI j) F 5 i := fun i => rfl
  have hL : Lp n (WN n c j F) := Lp_c Q.1 (fun s _ => by rw [r4]) (fun s _ => by rw [r4]) r1 r16
  have hT : Tp n c (WN n c j F) := fun k hk q => by
    rw [nx_c r3 r4 r181]
    exact Q.2 k hk (by rw [← r12]; exact q)
  have g1 : itN n llS (WN n c j F) = WN n c j F := itN_fix n fun s hs => if_neg (fun y => by
    obtain ⟨v, v1, v2, v3⟩ := M.1 s hs (by rw [← r4]; exact y.1)
    refine y.2 ?_
    rw [r18, r9, v3, h18, nI_add, nI_add]
    exact nI_lt (by omega) (by omega))
  have g2 : lcN n 0 (hmet n (WN n c j F)) (WN n c j F) = WN n c j F := Lp_fix hL n 0 (by omega) (fun t ht => absurd ht (Nat.not_lt_zero t))
  have g3 : ctN n c 0 (WN n c j F) = WN n c j F := Tp_fix hT c 0 (by omega)
  have gA : p1A n c (WN n c j F) = WN n c j F := by
    unfold p1A
    rw [g1, g2, g3]
  have gC : cwH n c 1 (WN n c j F) = (wkF n c 1 (WN n c j F), 0) := by
    refine wk_eq hn hc (fun k hk => by rw [r12, r7]; exact a7 k hk) (fun k hk s hs q => ?_) c (Nat.le_refl c)
    rw [r12] at q
    obtain ⟨a, b, w1, w2, w3, w4, w5⟩ := M.2 k hk s hs q
    have h7 : F 7 s = nI k := by
      rcases a7 k hk with y | ⟨t, ht, y1, y2⟩
      · rw [q] at y
        exact absurd y (nI_ne6 (by omega))
      · rw [q] at y1
        rw [nI_inj6 (by omega) (by omega) y1]
        exact y2
    have ec : cr F s = k := by
      unfold cr
      rw [h7, nI_clamp (by omega)]
    have hmb : (j + 1) * b ≤ m * b := Nat.mul_le_mul_right b hj
    rw [Nat.add_mul, Nat.one_mul] at hmb
    rw [r5, r10, wkF_5, if_pos ⟨hs, by omega, by rw [ec]; exact q⟩, ec, w1, w2, Int32.one_mul, pk_mul, pk_sub (by omega), pk_sub (by omega), ← nI_0]
    exact nI_lt (by omega) (by omega)
  unfold p1H
  rw [gA, gC]
  show fs (wkF n c 1 (WN n c j F)) 18 0 (wkF n c 1 (WN n c j F) 18 0 + 1) = _
  rw [wkF_row (j := 18) (by decide) (by decide) (by decide)]
  exact WN_next
theorem leapN {n c h m : Nat} {F : hF} (hn : n ≤ 20) (hc : c ≤ 6) (hh : h ≤ 30000) (hm : m ≤ 1000) (h18 : F 18 0 = nI h) (a7 : b7 n c F) (Q : Qp n c F) (M : Mp n c m F) : ∀ j, j ≤ m → pN n c j F = WN n c j F
  | 0, _ => WN_0.symm
  | j + 1, hj => by
    rw [pN_last, leapN hn hc hh hm h18 a7 Q M j (by omega)]
    exact leap1 hn hc hh hm h18 a7 Q M (by omega)
theorem leap_pq {n c m : Nat} {F : hF} (hn : n ≤ 20) (hc : c ≤ 6) (h0 : 0 < m) (hm : m ≤ 1000) (a7 : b7 n c F) (M : Mp n c m F) : pqH n c (nI m) F = WN n c m F := by
  have gC : cwH n c (nI m) F = (wkF n c (nI m) F, 0) := wk_eq hn hc a7 (fun k hk s hs q => by
    obtain ⟨a, b, w1, w2, w3, w4, w5⟩ := M.2 k hk s hs q
    rw [w1, w2, pk_mul, pk_sub (by omega), ← nI_0]
    exact nI_lt (by omega) (by omega)) c (Nat.le_refl c)
  have hp : (0 : Int32) < nI m := by rw [← nI_0]; exact nI_lt h0 (by omega)
  unfold pqH
  rw [if_pos hp, gC]
  show fs (wkF n c (nI m) F) 18 0 (wkF n c (nI m) F 18 0 + nI m) = _
  rw [wkF_row (j := 18) (by decide) (by decide) (by decide)]
  rfl
theorem leap_ai {n c m : Nat} {F : hF} : aiP n (WN n c m F) ↔ aiP n F := by
  have r4 : WN n c m F 4 = F 4 := WN_row (by decide) (by decide) (by decide) (by decide)
  have r181 : WN n c m F 18 1 = F 18 1 := by
    unfold WN
    rw [fs_at, if_neg (by omega), wkF_row (by decide) (by decide) (by decide)]
  exact rg.ai ⟨fun s _ => by rw [r4]; exact ⟨Iff.rfl, fun _ => Iff.rfl⟩, r181⟩
/-! how far the leap may go -/
theorem qa_le (F : hF) (q : Int32) : ∀ k, itN k (qaS F) q ≤ q ∧ ∀ s, s < k → F 4 s = 1 → itN k (qaS F) q ≤ F 9 s - F 18 0
  | 0 => ⟨Int32.le_refl q, fun s hs => absurd hs (Nat.not_lt_zero s)⟩
  | k + 1 => by
    obtain ⟨h1, h2⟩ := qa_le F q k
    show qaS F k (itN k (qaS F) q) ≤ q ∧ ∀ s, s < k + 1 → F 4 s = 1 → qaS F k (itN k (qaS F) q) ≤ F 9 s - F 18 0
    generalize itN k (qaS F) q = r at h1 h2 ⊢
    have g : qaS F k r ≤ r ∧ (F 4 k = 1 → qaS F k r ≤ F 9 k - F 18 0) := by
      unfold qaS
      by_cases y : F 4 k = 1
      · rw [if_pos y]
        by_cases w : F 9 k - F 18 0 < r
        · rw [if_pos w]
          exact ⟨Int32.le_of_lt w, fun _ => Int32.le_refl _⟩
        · rw [if_neg w]
          exact ⟨Int32.le_refl r, fun _ => Int32.not_lt.mp w⟩
      · rw [if_neg y]
        exact ⟨Int32.le_refl r, fun z => absurd z y⟩
    refine ⟨Int32.le_trans g.1 h1, fun s hs y => ?_⟩
    by_cases e : s = k
    · rw [e]; exact g.2 (by rw [← e]; exact y)
    · exact Int32.le_trans g.1 (h2 s (by omega) y)
theorem qb_le {n c : Nat} {F : hF} (a6 : ∀ k, k < c → ¬ F 10 k ≤ 0) (q : Int32) : ∀ k, k ≤ c → itN k (qbS n F) q ≤ q ∧ ∀ j, j < k → hhas n (F 12 j) → itN k (qbS n F) q ≤ (F 5 (F 12 j).toNatClampNeg - 1) / F 10 j
  | 0, _ => ⟨Int32.le_refl q, fun s hs => absurd hs (Nat.not_lt_zero s)⟩
  | k + 1, hk => by
    obtain ⟨h1, h2⟩ := qb_le a6 q k (by omega)
    show qbS n F k (itN k (qbS n F) q) ≤ q ∧ ∀ j, j < k + 1 → hhas n (F 12 j) → qbS n F k (itN k (qbS n F) q) ≤ (F 5 (F 12 j).toNatClampNeg - 1) / F 10 j
    generalize itN k (qbS n F) q = r at h1 h2 ⊢
    have g : qbS n F k r ≤ r ∧ (hhas n (F 12 k) → qbS n F k r ≤ (F 5 (F 12 k).toNatClampNeg - 1) / F 10 k) := by
      unfold qbS
      by_cases y : hhas n (F 12 k)
      · rw [if_pos y, if_neg (a6 k (by omega))]
        by_cases w : (F 5 (F 12 k).toNatClampNeg - 1) / F 10 k < r
        · rw [if_pos w]
          exact ⟨Int32.le_of_lt w, fun _ => Int32.le_refl _⟩
        · rw [if_neg w]
          exact ⟨Int32.le_refl r, fun _ => Int32.not_lt.mp w⟩
      · rw [if_neg y]
        exact ⟨Int32.le_refl r, fun z => absurd z y⟩
    refine ⟨Int32.le_trans g.1 h1, fun s hs y => ?_⟩
    by_cases e : s = k
    · rw [e]; exact g.2 (by rw [← e]; exact y)
    · exact Int32.le_trans g.1 (h2 s (by omega) y)
theorem div_m {m a b : Nat} (h1 : 1 ≤ m) (hm : m ≤ 1000) (ha : a ≤ 99) (hb0 : 1 ≤ b) (hb : b ≤ 9) (h : nI m ≤ (nI a - 1) / nI b) : m * b + 1 ≤ a := by
  cases a with
  | zero =>
    have g := (by decide +kernel : ∀ b : Fin 10, ¬ (1 : Int32) ≤ (nI 0 - 1) / nI b.1) ⟨b, by omega⟩
    exact absurd (Int32.le_trans (nI_le (a := 1) h1 (by omega)) h) g
  | succ a =>
    rw [nI_pred, pk_div (by omega) (by omega) (by omega), nI_leI (by omega) (Nat.lt_of_le_of_lt (Nat.div_le_self a b) (by omega))] at h
    have := (Nat.le_div_iff_mul_le (by omega)).mp h
    omega
theorem qh_M {n c h e m : Nat} {F E : hF} (H : sm n c h e (fun _ => 0) F E) (h1 : 1 ≤ m) (hm : m ≤ 1000) (q : nI m ≤ qhH n c F) : Mp n c m F := by
  obtain ⟨hn, hc, hh, he, a, a0, al, r, t, mo⟩ := H
  have a6 : ∀ k, k < c → ¬ F 10 k ≤ 0 := fun k hk => by
    have := (a.2.2.2.2.2.1 k hk).1
    rw [Int32.le_iff_toInt_le, Int32.toInt_zero]
    omega
  have hb := qb_le (n := n) a6 (itN n (qaS F) 1000) c (Nat.le_refl c)
  have ha := qa_le F 1000 n
  refine ⟨fun s hs y => ?_, fun k hk s hs y => ?_⟩
  · obtain ⟨v, b1, b2, b3, b4⟩ := t s hs y
    have g := Int32.le_trans q (Int32.le_trans hb.1 (ha.2 s hs y))
    rw [b3, a0, nI_add, pk_sub (by omega), nI_leI (by omega) (by omega)] at g
    exact ⟨v, by omega, b2, b3⟩
  · have g := Int32.le_trans q (hb.2 k hk (by rw [y]; exact has_nI (by omega) hs))
    rw [y, nI_clamp (by omega)] at g
    obtain ⟨a', w1, w2, w3⟩ := vB_n (a.2.2.1 s hs) (by decide)
    obtain ⟨b', u1, u2, u3⟩ := vB_n (a.2.2.2.2.2.1 k hk) (by decide)
    rw [w1, u1] at g
    exact ⟨a', b', w1, u1, by omega, by omega, div_m h1 hm (by omega) (by omega) (by omega) g⟩
theorem mn_le (x y : Int32) : mnI x y ≤ x ∧ mnI x y ≤ y := by
  unfold mnI
  by_cases q : y < x
  · rw [if_pos q]; exact ⟨Int32.le_of_lt q, Int32.le_refl y⟩
  · rw [if_neg q]; exact ⟨Int32.le_refl x, Int32.not_lt.mp q⟩
theorem hu_eq {n c M h0 : Nat} (hM : M ≤ 1000) (hh0 : h0 ≤ 20000) : ∀ (d k : Nat) {F E : hF}, sm n c (h0 + k) 0 (fun _ => 0) F E → k ≤ M → M ≤ k + d → (huN n c (nI h0) (nI M) d F).1 = if gH n c (M + 1 - k) k F ≤ M then nI (gH n c (M + 1 - k) k F) else -6
  | 0, k, F, E, H, hk, hd => by
    have e : k = M := by omega
    have a0 := H.2.2.2.2.2.1
    rw [show M + 1 - k = 0 + 1 by omega]
    unfold gH huN
    show (if aiP n F then F 18 0 - nI h0 else -6) = _
    by_cases q : aiP n F
    · rw [if_pos q, if_pos q, if_pos hk, a0, pk_sub (by omega), show h0 + k - h0 = k by omega]
    · rw [if_neg q, if_neg q]
      show (-6 : Int32) = if k + 1 ≤ M then _ else _
      rw [if_neg (by omega)]
  | d + 1, k, F, E, H, hk, hd => by
    have a0 := H.2.2.2.2.2.1
    have hn := H.1
    have hc := H.2.1
    rw [show M + 1 - k = (M - k) + 1 by omega]
    unfold gH huN
    by_cases q : aiP n F
    · rw [if_pos q, if_pos q, if_pos hk]
      show F 18 0 - nI h0 = nI k
      rw [a0, pk_sub (by omega), show h0 + k - h0 = k by omega]
    · rw [if_neg q, if_neg q]
      have er : nI h0 + nI M - F 18 0 = nI (M - k) := by rw [nI_add, a0, pk_sub (by omega), show h0 + M - (h0 + k) = M - k by omega]
      rw [er]
      by_cases w : k = M
      · subst w
        rw [Nat.sub_self, if_neg (by decide)]
        show (-6 : Int32) = if k + 1 ≤ k then _ else _
        rw [if_neg (by omega)]
      · rw [if_pos (by rw [← nI_0]; exact nI_lt (by omega) (by omega))]
        have H1 := (sm_hour (by omega) H).1
        have eg : gH n c (M - k) (k + 1) (p1H n c F) = gH n c (M + 1 - (k + 1)) (k + 1) (p1H n c F) := by rw [show M + 1 - (k + 1) = M - k by omega]
        have E1 := poE n c E
        by_cases z : p1R n c F = 0
        · rw [if_pos z]
          have hmn := mn_le (qhH n c (p1H n c F)) (nI (M - k) - 1)
          generalize mnI (qhH n c (p1H n c F)) (nI (M - k) - 1) = x at hmn ⊢
          by_cases y : 0 < x
          · have e1 : nI (M - k) - 1 = nI (M - k - 1) := by rw [show M - k = (M - k - 1) + 1 by omega, nI_pred]; rfl
            rw [e1] at hmn
            have hx1 := Int32.lt_iff_toInt_lt.mp y
            rw [Int32.toInt_zero] at hx1
            have hx2 := Int32.le_iff_toInt_le.mp hmn.2
            rw [nI_toInt (by omega)] at hx2
            obtain ⟨m, m1, m2, m3⟩ := vB_n (x := x) (a := 1) (b := M) ⟨by omega, by omega⟩ (by decide)
            subst m1
            rw [nI_toInt (by omega)] at hx1 hx2
            have hMp := qh_M H1 (by omega) (by omega) hmn.1
            have hI1 := H1.2.2.2.2.1
            have a7 : b7 n c (p1H n c F) := fun j hj => by
              rcases hI1.2.2.2.2.2.2.1 j hj with y | ⟨s, hs, y1, y2, _⟩
              · exact Or.inl y
              · exact Or.inr ⟨s, hs, y1, y2⟩
            have hQ := Qp_of (c := c) hn hc H.2.2.2.2.1.2.2.2.2.2.2.2.1 z
            have hW := leapN hn hc H1.2.2.1 (by omega) H1.2.2.2.2.2.1 a7 hQ.1 hMp
            rw [leap_pq hn hc (by omega) (by omega) a7 hMp, ← hW m (Nat.le_refl m)]
            have H2 := sm_pN m H1 (by omega)
            rw [show h0 + k + 1 + m = h0 + (k + 1 + m) by omega] at H2
            rw [hu_eq hM hh0 d (k + 1 + m) H2 (by omega) (by omega), gH_skip m (M - k) (k + 1) (p1H n c F) (fun j hj => ?_) (by omega), show M + 1 - (k + 1 + m) = M - k - m by omega]
            rw [hW j (by omega), leap_ai, hQ.2]
            exact q
          · have e2 : pqH n c x (p1H n c F) = p1H n c F := if_neg y
            rw [e2, eg]
            exact hu_eq hM hh0 d (k + 1) H1 (by omega) (by omega)
        · rw [if_neg z, eg]
          exact hu_eq hM hh0 d (k + 1) H1 (by omega) (by omega)
