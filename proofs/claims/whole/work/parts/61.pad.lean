theorem wb_tb (n : Nat) : (lN n).toBitVec = BitVec.ofNat 64 n := rfl
theorem wb_inj {a b : Int64} (h : a.toBitVec = b.toBitVec) : a = b := Int64.toBitVec_inj.mp h
theorem wb_tn {n : Nat} (h : n < 2 ^ 64) : (lN n).toBitVec.toNat = n := by rw [wb_tb, BitVec.toNat_ofNat, Nat.mod_eq_of_lt h]
theorem wb_of (x : Int64) : ∃ n, n < 2 ^ 64 ∧ x = lN n := ⟨x.toBitVec.toNat, x.toBitVec.isLt, wb_inj (by rw [wb_tb]; simp)⟩
theorem wb_cu : ∀ k, k < 64 → ((nI k).toInt64.toUInt64 &&& Int64.toUInt64 63) = UInt64.ofNat k := by decide +kernel
theorem wb_lt2 {a b : Nat} (h : a < b) : 2 ^ a < 2 ^ b := Nat.pow_lt_pow_right (by decide) h
theorem wb_shr {n k : Nat} (hn : n < 2 ^ 64) (hk : k < 64) : ((lN n).toUInt64 >>> ((nI k).toInt64.toUInt64 &&& Int64.toUInt64 63)).toInt64 = lN (n / 2 ^ k) := by
  rw [wb_cu k hk]
  apply wb_inj
  apply BitVec.eq_of_toNat_eq
  show ((lN n).toUInt64 >>> UInt64.ofNat k).toNat = (BitVec.ofNat 64 _).toNat
  have h1 : (UInt64.ofNat k).toNat = k := by
    show (BitVec.ofNat 64 k).toNat = k
    rw [BitVec.toNat_ofNat, Nat.mod_eq_of_lt (by omega)]
  have h2 : (lN n).toUInt64.toNat = n := wb_tn hn
  rw [UInt64.toNat_shiftRight, h1, h2, Nat.mod_eq_of_lt hk, Nat.shiftRight_eq_div_pow, BitVec.toNat_ofNat, Nat.mod_eq_of_lt (Nat.lt_of_le_of_lt (Nat.div_le_self _ _) hn)]
theorem wb_and {a b : Nat} (ha : a < 2 ^ 64) (hb : b < 2 ^ 64) : lN a &&& lN b = lN (a &&& b) := by
  apply wb_inj
  rw [Int64.toBitVec_and, wb_tb, wb_tb, wb_tb]
  apply BitVec.eq_of_toNat_eq
  rw [BitVec.toNat_and, BitVec.toNat_ofNat, BitVec.toNat_ofNat, BitVec.toNat_ofNat, Nat.mod_eq_of_lt ha, Nat.mod_eq_of_lt hb, Nat.mod_eq_of_lt (Nat.and_lt_two_pow _ hb)]
theorem wb_mask {n k : Nat} (hn : n < 2 ^ 64) (hk : k < 64) : lN n &&& lN (2 ^ k - 1) = lN (n % 2 ^ k) := by
  rw [wb_and hn (by have := wb_lt2 hk; omega), Nat.and_two_pow_sub_one_eq_mod]
/-! characters put on the pad, alike in both -/
theorem lN_inj {a b : Nat} (ha : a < 2 ^ 64) (hb : b < 2 ^ 64) (h : lN a = lN b) : a = b := by
  have h1 := wb_tn ha
  rw [h, wb_tn hb] at h1
  exact h1.symm
theorem lg0 {a : Nat} (ha : a < 2 ^ 64) : lg_cmp (lN a) 0 = 0 ↔ a = 0 := by
  rw [lg_cmp_eq]
  constructor
  · intro h
    exact lN_inj (b := 0) ha (by decide) h
  · intro h
    rw [h]
    rfl
theorem sh8_n {m : Nat} (hm : m < 2 ^ 64) : sh8 (lN m) = lN (m / 256) := wb_shr (k := 8) hm (by decide)
theorem an_n {m : Nat} (hm : m < 2 ^ 64) : lN m &&& 255 = lN (m % 256) := wb_mask (k := 8) hm (by decide)
theorem byt_n {m j : Nat} (hm : m < 2 ^ 64) (hj : j < 8) : byt (lN m) j = nI (m / 2 ^ (8 * j) % 256) := by
  unfold byt
  have e : (8 : Int32) * nI j = nI (8 * j) := by rw [show (8 : Int32) = nI 8 from rfl, pk_mul]
  rw [e, wb_shr hm (by omega), an_n (Nat.lt_of_le_of_lt (Nat.div_le_self _ _) hm), lN_i]
theorem ptG0 : ∀ (d k : Nat) (r : Int64), (ptG d k r 0).2.2 = 0
  | 0, _, _ => rfl
  | d + 1, k, r => by
    unfold ptG
    split
    · rfl
    · rw [if_pos rfl]
      exact ptG0 d (k + 1) (sh8 r)
theorem pad_eq : ∀ (d k m : Nat), d ≤ 8 → m < 2 ^ (8 * d) → wfG d k (lN m) = (if (ptG d k (lN m) 1).2.2 = 0 ∨ ¬ lg_cmp (ptG d k (lN m) 1).2.1 0 = 0 then 0 else (ptG d k (lN m) 1).1) ∧ (wfG d k (lN m) = 0 ∨ ∃ K, K ≤ d ∧ wfG d k (lN m) = k + K ∧ ∀ j, j < K → 33 ≤ m / 256 ^ j % 256 ∧ m / 256 ^ j % 256 ≤ 126)
  | 0, k, m, _, hm => by
    have e : m = 0 := by
      have : (2 : Nat) ^ (8 * 0) = 1 := by decide
      omega
    subst e
    refine ⟨?_, Or.inr ⟨0, Nat.le_refl 0, rfl, fun j hj => absurd hj (Nat.not_lt_zero j)⟩⟩
    show k = if (1 : Int32) = 0 ∨ ¬ lg_cmp (lN 0) 0 = 0 then 0 else k
    rw [if_neg]
    rintro (y | y)
    · exact absurd y (by decide)
    · exact y ((lg0 (by decide)).mpr rfl)
  | d + 1, k, m, hd, hm => by
    have h64 : (2 : Nat) ^ (8 * (d + 1)) ≤ 2 ^ 64 := Nat.pow_le_pow_right (by decide) (by omega)
    have hm64 : m < 2 ^ 64 := Nat.lt_of_lt_of_le hm h64
    have hdiv : m / 256 < 2 ^ (8 * d) := by
      rw [Nat.div_lt_iff_lt_mul (by decide)]
      have : (2 : Nat) ^ (8 * (d + 1)) = 2 ^ (8 * d) * 256 := by rw [show 8 * (d + 1) = 8 * d + 8 by omega, Nat.pow_add]
      omega
    unfold wfG ptG
    rw [an_n hm64, sh8_n hm64]
    have hmod : m % 256 < 256 := Nat.mod_lt _ (by decide)
    by_cases e0 : m = 0
    · subst e0
      rw [if_pos ((lg0 (by decide)).mpr rfl), if_pos (show lg_cmp (lN (0 % 256)) 0 = 0 from (lg0 (by decide)).mpr rfl)]
      refine ⟨?_, Or.inr ⟨0, by omega, rfl, fun j hj => absurd hj (Nat.not_lt_zero j)⟩⟩
      show k = if (1 : Int32) = 0 ∨ ¬ lg_cmp (lN 0) 0 = 0 then 0 else k
      rw [if_neg]
      rintro (y | y)
      · exact absurd y (by decide)
      · exact y ((lg0 (by decide)).mpr rfl)
    · rw [if_neg (show ¬ lg_cmp (lN m) 0 = 0 from fun y => e0 ((lg0 hm64).mp y)), lN_i]
      by_cases a0 : m % 256 = 0
      · rw [a0, if_neg (show ¬ wI (nI 0) 33 126 by decide), if_pos (show lg_cmp (lN 0) 0 = 0 from (lg0 (by decide)).mpr rfl)]
        refine ⟨?_, Or.inl rfl⟩
        show 0 = if (1 : Int32) = 0 ∨ ¬ lg_cmp (lN m) 0 = 0 then 0 else k
        rw [if_pos (Or.inr (fun y => e0 ((lg0 hm64).mp y)))]
      · rw [if_neg (show ¬ lg_cmp (lN (m % 256)) 0 = 0 from fun y => a0 ((lg0 (by omega)).mp y))]
        by_cases w : wI (nI (m % 256)) 33 126
        · rw [if_pos w, if_pos w, if_neg (show ¬ (1 : Int32) = 0 by decide)]
          obtain ⟨g1, g2⟩ := pad_eq d (k + 1) (m / 256) (by omega) hdiv
          refine ⟨g1, ?_⟩
          rcases g2 with g2 | ⟨K, K0, K1, K2⟩
          · exact Or.inl g2
          · refine Or.inr ⟨K + 1, by omega, by omega, fun j hj => ?_⟩
            cases j with
            | zero =>
              obtain ⟨v, v1, v2, ev⟩ := wI_lit (a := 33) (b := 126) (by decide) (by decide) w
              have := nI_inj6 (by omega) (by omega) ev
              rw [Nat.pow_zero, Nat.div_one]
              omega
            | succ j =>
              have := K2 j (by omega)
              rw [Nat.div_div_eq_div_mul, Nat.mul_comm, ← Nat.pow_succ] at this
              exact this
        · rw [if_neg w, if_neg w, if_neg (show ¬ (1 : Int32) = 0 by decide)]
          refine ⟨?_, Or.inl rfl⟩
          rw [if_pos (Or.inl (ptG0 _ _ _))]
theorem put_C {x : Int64} : ((ptG 8 0 x 1).1 = 0 ∨ (ptG 8 0 x 1).2.2 = 0 ∨ ¬ lg_cmp (ptG 8 0 x 1).2.1 0 = 0 ↔ wfG 8 0 x = 0) ∧ (¬ wfG 8 0 x = 0 → (ptG 8 0 x 1).1 = wfG 8 0 x) := by
  obtain ⟨m, hm, rfl⟩ := wb_of x
  obtain ⟨g1, g2⟩ := pad_eq 8 0 m (by decide) hm
  by_cases c : (ptG 8 0 (lN m) 1).2.2 = 0 ∨ ¬ lg_cmp (ptG 8 0 (lN m) 1).2.1 0 = 0
  · rw [if_pos c] at g1
    exact ⟨⟨fun _ => g1, fun _ => Or.inr c⟩, fun y => absurd g1 y⟩
  · rw [if_neg c] at g1
    rw [g1]
    exact ⟨⟨fun y => y.resolve_right c, fun y => Or.inl y⟩, fun _ => rfl⟩
theorem put_R (pl : Nat) (x : Int64) : apdR pl x = putR pl x := by
  obtain ⟨c1, c2⟩ := put_C (x := x)
  unfold apdR putR
  by_cases q : wfG 8 0 x = 0
  · rw [if_pos q, if_pos (c1.mpr q)]
  · rw [if_neg q, if_neg (fun y => q (c1.mp y)), c2 q]
theorem byt_v {x : Int64} {j : Nat} (h : ¬ wfG 8 0 x = 0) (hj : j < wfG 8 0 x) : ∃ v, 33 ≤ v ∧ v ≤ 126 ∧ byt x j = nI v := by
  obtain ⟨m, hm, rfl⟩ := wb_of x
  obtain ⟨_, g2⟩ := pad_eq 8 0 m (by decide) hm
  rcases g2 with g2 | ⟨K, K0, K1, K2⟩
  · exact absurd g2 h
  · have := K2 j (by omega)
    refine ⟨_, this.1, this.2, ?_⟩
    rw [byt_n hm (by omega)]
    rw [show (256 : Nat) ^ j = 2 ^ (8 * j) by rw [Nat.pow_mul]]
theorem chr_v {v : Nat} (h : v ≤ 126) : vp_nar .char ((nI v).toUInt32 % 65536).toInt32 = nI v := by
  have g := (by decide +kernel : ∀ v : Fin 127, ((nI v.1).toUInt32 % 65536).toInt32 = nI v.1) ⟨v, by omega⟩
  have g' : ((nI v).toUInt32 % 65536).toInt32 = nI v := g
  rw [g']
  unfold vp_nar
  rw [(pk_charN (q := v) (by omega)).1]
theorem ptT_at (T : Nat → Int32) (pl : Nat) (x : Int64) (m : Nat) : ∀ c i, ptT T pl x m c i = if pl ≤ i ∧ i < pl + c then vp_nar .char ((byt x (m - 1 - (i - pl))).toUInt32 % 65536).toInt32 else T i
  | 0, i => by
    rw [if_neg (by omega)]
    rfl
  | c + 1, i => by
    show upd (ptT T pl x m c) (pl + c) _ i = _
    by_cases e : i = pl + c
    · subst e
      rw [pk_us, if_pos (by omega), Nat.add_sub_cancel_left]
    · rw [pk_un e, ptT_at T pl x m c i]
      exact ifc ⟨fun y => by omega, fun y => by omega⟩
theorem ptL_5 (E : hF) (pl : Nat) (x : Int64) (k : Nat) : ∀ c i, ptL E pl x k c 5 i = if pl ≤ i ∧ i < pl + c then byt x (k - 1 - (i - pl)) else E 5 i
  | 0, i => by
    rw [if_neg (by omega)]
    rfl
  | c + 1, i => by
    show fs (fs (ptL E pl x k c) 5 (pl + c) (byt x (k - 1 - c))) 6 1 (nI (pl + c + 1)) 5 i = _
    rw [fs_ne _ _ _ (by decide), fs_at]
    by_cases e : i = pl + c
    · subst e
      rw [if_pos ⟨rfl, rfl⟩, if_pos (by omega), Nat.add_sub_cancel_left]
    · rw [if_neg (fun y => e y.2), ptL_5 E pl x k c i]
      exact ifc ⟨fun y => by omega, fun y => by omega⟩
theorem ptL_o (E : hF) (pl : Nat) (x : Int64) (k : Nat) {j : Nat} (h5 : j ≠ 5) (h6 : j ≠ 6) : ∀ c, ptL E pl x k c j = E j
  | 0 => rfl
  | c + 1 => by
    show fs (fs (ptL E pl x k c) 5 (pl + c) (byt x (k - 1 - c))) 6 1 (nI (pl + c + 1)) j = _
    rw [fs_ne _ _ _ h6, fs_ne _ _ _ h5, ptL_o E pl x k h5 h6 c]
theorem ptL_60 (E : hF) (pl : Nat) (x : Int64) (k : Nat) : ∀ c, ptL E pl x k c 6 0 = E 6 0
  | 0 => rfl
  | c + 1 => by
    show fs (fs (ptL E pl x k c) 5 (pl + c) (byt x (k - 1 - c))) 6 1 (nI (pl + c + 1)) 6 0 = _
    rw [fs_at, if_neg (by omega), fs_ne _ _ _ (by decide), ptL_60 E pl x k c]
section RLp
variable {n c : Nat} {F : hF} {x y : Nat} {N C : Nat → Nat} {Fs : Nat → hF} {sv : Nat → Int32} {SN SC : Nat → Nat} {SFs : Nat → hF} {pl : Nat} {T : Nat → Int32} {E : hF}
theorem RJ.put (H : RJ n c F x y N C Fs sv SN SC SFs pl T E) (w : Int64) : RJ n c F x y N C Fs sv SN SC SFs (apdL pl w) (apdT T pl w) (putE E pl w) := by
  obtain ⟨c1, c2⟩ := put_C (x := w)
  have H' := H
  obtain ⟨h1, h2, h3, h4, h5, h6, h9, h10, h11, h12⟩ := H'
  unfold apdL apdT putE
  by_cases q : wfG 8 0 w = 0
  · rw [if_pos q, if_pos q, if_pos (c1.mpr q)]
    exact H
  · rw [if_neg q, if_neg q, if_neg (fun y => q (c1.mp y)), c2 q]
    by_cases p : pl + wfG 8 0 w ≤ 80
    · rw [if_pos p, if_pos p, if_pos p]
      refine H.pad (fun j j5 j6 => ptL_o E pl w _ j5 j6 _) (ptL_60 E pl w _ _) (ptL_61 h10 w _ _) p (fun i hi => ?_) (fun i => ?_)
      · rw [ptT_at, ptL_5]
        by_cases e : pl ≤ i
        · obtain ⟨v, v1, v2, ev⟩ := byt_v (j := wfG 8 0 w - 1 - (i - pl)) q (by omega)
          rw [if_pos ⟨e, hi⟩, if_pos ⟨e, hi⟩, ev, chr_v v2]
          exact ⟨rfl, v, v1, v2, rfl⟩
        · rw [if_neg (by omega), if_neg (by omega)]
          exact h11 i (by omega)
      · rw [ptT_at]
        by_cases e : pl ≤ i ∧ i < pl + wfG 8 0 w
        · obtain ⟨v, v1, v2, ev⟩ := byt_v (j := wfG 8 0 w - 1 - (i - pl)) q (by omega)
          rw [if_pos e, ev, chr_v v2]
          exact (pk_charN (by omega)).1
        · rw [if_neg e]
          exact h12 i
    · rw [if_neg p, if_neg p, if_neg p]
      exact H
theorem RJ.wipe (H : RJ n c F x y N C Fs sv SN SC SFs pl T E) : RJ n c F x y N C Fs sv SN SC SFs 0 T (fs E 6 1 0) := by
  have h12 := H.2.2.2.2.2.2.2.2.2
  exact H.pad (fun j j5 j6 => fs_ne _ _ _ j6) (by rw [fs_at, if_neg (by omega)]) (by rw [fs_same]; rfl) (by decide) (fun i hi => absurd hi (Nat.not_lt_zero i)) h12
end RLp
