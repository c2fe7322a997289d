/-! the reader of orders, as functions of its row -/
def zA (z : Nat → Int32) : Nat := (z 0).toInt.toNat
def zOk (pl : Nat) (z : Nat → Int32) : Prop := z 0 = nI (zA z) ∧ zA z ≤ pl
theorem zA_0 (z : Nat → Int32) {a : Nat} (ha : a ≤ 80) : zA (upd z 0 (nI a)) = a := by
  show (nI a).toInt.toNat = a
  rw [nI_toInt (by omega)]; rfl
theorem zOk_0 {pl : Nat} (hpl : pl ≤ 80) (z : Nat → Int32) {a : Nat} (ha : a ≤ pl) : zOk pl (upd z 0 (nI a)) := by
  unfold zOk
  rw [zA_0 z (by omega)]
  exact ⟨rfl, ha⟩
theorem zA_k (z : Nat → Int32) {k : Nat} (v : Int32) (hk : k ≠ 0) : zA (upd z k v) = zA z := by
  unfold zA
  rw [show upd z k v 0 = z 0 from pk_un (Ne.symm hk)]
theorem zOk_k {pl k : Nat} {z : Nat → Int32} {v : Int32} (hk : k ≠ 0) (h : zOk pl z) : zOk pl (upd z k v) := by
  unfold zOk
  rw [zA_k z v hk, show upd z k v 0 = z 0 from pk_un (Ne.symm hk)]
  exact h
theorem zOk_s {pl : Nat} {z : Nat → Int32} (h : zOk pl z) : upd z 0 (nI (zA z)) = z := upd_self h.1
theorem kAt_in {T : Nat → Int32} {pl a : Nat} (h : kAt T pl a ≠ 0) : a < pl := by
  unfold kAt at h
  split at h
  · assumption
  · exact absurd rfl h
abbrev zP (T : Nat → Int32) (pl : Nat) (z : Nat → Int32) (x : Int32) : Prop := z 1 = 0 ∧ kAt T pl (zA z) = x
def zTk (T : Nat → Int32) (pl : Nat) (z : Nat → Int32) (x : Int32) : Nat → Int32 := upd z 0 (nI (tkA T pl (zA z) (z 1) x))
def zEx (T : Nat → Int32) (pl : Nat) (z : Nat → Int32) (x : Int32) : Nat → Int32 := upd (upd z 0 (nI (tkA T pl (zA z) (z 1) x))) 1 (exF T pl (zA z) (z 1) x)
def vDg (T : Nat → Int32) (pl : Nat) (z : Nat → Int32) : Int32 := (rdD T pl (zA z) (z 1)).1
def zDg (T : Nat → Int32) (pl : Nat) (z : Nat → Int32) : Nat → Int32 := upd (upd z 0 (nI (rdD T pl (zA z) (z 1)).2.1)) 1 (rdD T pl (zA z) (z 1)).2.2
abbrev zMo (T : Nat → Int32) (pl : Nat) (z : Nat → Int32) : Prop := zDg T pl z 1 = 0 ∧ wI (kAt T pl (zA (zDg T pl z))) 48 57
def vNm (T : Nat → Int32) (pl : Nat) (z : Nat → Int32) : Int32 := if zP T pl z 48 then 0 else if zMo T pl z then 10 * vDg T pl z + kAt T pl (zA (zDg T pl z)) - 48 else vDg T pl z
def zNm (T : Nat → Int32) (pl : Nat) (z : Nat → Int32) : Nat → Int32 := if zP T pl z 48 then zTk T pl z 48 else if zMo T pl z then upd (zDg T pl z) 0 (nI (zA (zDg T pl z) + 1)) else zDg T pl z
theorem zTk_no {T : Nat → Int32} {pl : Nat} {z : Nat → Int32} {x : Int32} (hz : zOk pl z) (h : ¬ zP T pl z x) : zTk T pl z x = z := by
  unfold zTk tkA
  rw [if_neg h]
  exact zOk_s hz
theorem zTk_ok {T : Nat → Int32} {pl : Nat} (hpl : pl ≤ 80) {z : Nat → Int32} {x : Int32} (hx : x ≠ 0) (hz : zOk pl z) : zOk pl (zTk T pl z x) := by
  unfold zTk tkA
  split
  · next h => exact zOk_0 hpl z (kAt_in (T := T) (by rw [h.2]; exact hx))
  · exact zOk_0 hpl z hz.2
theorem zEx_ok {T : Nat → Int32} {pl : Nat} (hpl : pl ≤ 80) {z : Nat → Int32} {x : Int32} (hx : x ≠ 0) (hz : zOk pl z) : zOk pl (zEx T pl z x) :=
  zOk_k (by decide) (zTk_ok (T := T) hpl hx hz)
theorem zDg_ok {T : Nat → Int32} {pl : Nat} (hpl : pl ≤ 80) {z : Nat → Int32} (hz : zOk pl z) : zOk pl (zDg T pl z) := by
  refine zOk_k (by decide) ?_
  unfold rdD
  split
  · next h =>
    refine zOk_0 hpl z (kAt_in (T := T) fun e => ?_)
    have h2 := h.2
    rw [e] at h2
    exact absurd h2 (by decide)
  · exact zOk_0 hpl z hz.2
theorem zNm_ok {T : Nat → Int32} {pl : Nat} (hpl : pl ≤ 80) {z : Nat → Int32} (hz : zOk pl z) : zOk pl (zNm T pl z) := by
  unfold zNm
  split
  · exact zTk_ok hpl (by decide) hz
  · split
    · next h =>
      refine zOk_0 hpl _ (kAt_in (T := T) fun e => ?_)
      have h2 := h.2
      rw [e] at h2
      exact absurd h2 (by decide)
    · exact zDg_ok hpl hz
/-- a number read into place i -/
def zN (T : Nat → Int32) (pl i : Nat) (z : Nat → Int32) : Nat → Int32 := upd (zNm T pl z) i (vNm T pl z)
def zD (T : Nat → Int32) (pl i : Nat) (z : Nat → Int32) : Nat → Int32 := upd (zDg T pl z) i (vDg T pl z)
def zB (T : Nat → Int32) (pl : Nat) (z : Nat → Int32) : Nat → Int32 := upd (upd z 2 (kAt T pl (zA z))) 6 (-6)
def z3N (T : Nat → Int32) (pl : Nat) (z : Nat → Int32) : Nat → Int32 := zN T pl 5 (zEx T pl (zN T pl 4 (zEx T pl (zN T pl 3 (zTk T pl z 43)) 44)) 44)
def zRO (T : Nat → Int32) (pl : Nat) (z : Nat → Int32) : Nat → Int32 :=
  if zP T pl (zB T pl z) 43 then (if zP T pl (z3N T pl (zB T pl z)) 94 then zN T pl 6 (zTk T pl (z3N T pl (zB T pl z)) 94) else z3N T pl (zB T pl z))
  else if zP T pl (zB T pl z) 99 then zN T pl 4 (zEx T pl (zD T pl 3 (zTk T pl (zB T pl z) 99)) 36)
  else if zP T pl (zB T pl z) 100 then zN T pl 3 (zTk T pl (zB T pl z) 100)
  else if zP T pl (zB T pl z) 116 then zN T pl 3 (zTk T pl (zB T pl z) 116)
  else zEx T pl (zB T pl z) 101
theorem zN_ok {T : Nat → Int32} {pl : Nat} (hpl : pl ≤ 80) {z : Nat → Int32} {i : Nat} (hi : i ≠ 0) (hz : zOk pl z) : zOk pl (zN T pl i z) := zOk_k hi (zNm_ok hpl hz)
theorem zD_ok {T : Nat → Int32} {pl : Nat} (hpl : pl ≤ 80) {z : Nat → Int32} {i : Nat} (hi : i ≠ 0) (hz : zOk pl z) : zOk pl (zD T pl i z) := zOk_k hi (zDg_ok hpl hz)
theorem zB_ok {T : Nat → Int32} {pl : Nat} {z : Nat → Int32} (hz : zOk pl z) : zOk pl (zB T pl z) := zOk_k (by decide) (zOk_k (by decide) hz)
theorem z3N_ok {T : Nat → Int32} {pl : Nat} (hpl : pl ≤ 80) {z : Nat → Int32} (hz : zOk pl z) : zOk pl (z3N T pl z) :=
  zN_ok hpl (by decide) (zEx_ok hpl (by decide) (zN_ok hpl (by decide) (zEx_ok hpl (by decide) (zN_ok hpl (by decide) (zTk_ok hpl (by decide) hz)))))
theorem zRO_ok {T : Nat → Int32} {pl : Nat} (hpl : pl ≤ 80) {z : Nat → Int32} (hz : zOk pl z) : zOk pl (zRO T pl z) := by
  unfold zRO
  have hb := zB_ok (T := T) hz
  split
  · split
    · exact zN_ok hpl (by decide) (zTk_ok hpl (by decide) (z3N_ok hpl hb))
    · exact z3N_ok hpl hb
  · split
    · exact zN_ok hpl (by decide) (zEx_ok hpl (by decide) (zD_ok hpl (by decide) (zTk_ok hpl (by decide) hb)))
    · split
      · exact zN_ok hpl (by decide) (zTk_ok hpl (by decide) hb)
      · split
        · exact zN_ok hpl (by decide) (zTk_ok hpl (by decide) hb)
        · exact zEx_ok hpl (by decide) hb
/-- findFault: k orders at most are still to be read -/
def zFF (T : Nat → Int32) (pl : Nat) : Nat → (Nat → Int32) → (Nat → Int32)
  | 0, z => z
  | k + 1, z => if zP T pl (zRO T pl z) 59 then zFF T pl k (zTk T pl (zRO T pl z) 59) else zRO T pl z
theorem zFF_ok {T : Nat → Int32} {pl : Nat} (hpl : pl ≤ 80) : ∀ (k : Nat) {z : Nat → Int32}, zOk pl z → zOk pl (zFF T pl k z)
  | 0, _, h => h
  | k + 1, z, h => by
    show zOk pl (if _ then _ else _)
    split
    · exact zFF_ok hpl k (zTk_ok hpl (by decide) (zRO_ok hpl h))
    · exact zRO_ok hpl h
def zS0 (z : Nat → Int32) : Nat → Int32 := upd (upd z 0 0) 1 0
theorem zS0_ok (pl : Nat) (z : Nat → Int32) : zOk pl (zS0 z) := ⟨rfl, Nat.zero_le _⟩
def vFF (T : Nat → Int32) (pl : Nat) (z : Nat → Int32) : Int32 := if zFF T pl 80 (zS0 z) 1 ≠ 0 ∨ zA (zFF T pl 80 (zS0 z)) < pl then nI (zA (zFF T pl 80 (zS0 z))) else -6
theorem kX3_takeZ (l : Launch) (G : hG) (r : Nat → Nat) (T z : Nat → Int32) (pl : Nat) (x : Int32) (hpl : pl ≤ 80) (hz : zOk pl z) (hT : ∀ i, narrow .char (.int (T i)) = .int (T i)) : hM l G yX3_take wsX3_take ({ frames := 2, cells := 0, slots := 0, locals := 61 }) (rdW G r pl T z) [.ref (r 0), .int x] (hR (some (.int (bI (zP T pl z x)))) (rdW G r pl T (zTk T pl z x))) :=
  kX3_take l G r T z pl (zA z) x hpl hz.1 (by have := hz.2; omega) hT
theorem kX3_expectZ (l : Launch) (G : hG) (r : Nat → Nat) (T z : Nat → Int32) (pl : Nat) (x : Int32) (hpl : pl ≤ 80) (hz : zOk pl z) (hT : ∀ i, narrow .char (.int (T i)) = .int (T i)) : hM l G yX3_expect wsX3_expect ({ frames := 3, cells := 0, slots := 0, locals := 82 }) (rdW G r pl T z) [.ref (r 0), .int x] (hR none (rdW G r pl T (zEx T pl z x))) :=
  kX3_expect l G r T z pl (zA z) x hpl hz.1 (by have := hz.2; omega) hT
theorem kX3_readDigitZ (l : Launch) (G : hG) (r : Nat → Nat) (T z : Nat → Int32) (pl : Nat) (hpl : pl ≤ 80) (hz : zOk pl z) (hT : ∀ i, narrow .char (.int (T i)) = .int (T i)) : hM l G yX3_readDigit wsX3_readDigit ({ frames := 2, cells := 0, slots := 0, locals := 62 }) (rdW G r pl T z) [.ref (r 0)] (hR (some (.int (vDg T pl z))) (rdW G r pl T (zDg T pl z))) :=
  kX3_readDigit l G r T z pl (zA z) hpl hz.1 (by have := hz.2; omega) hT
theorem kX3_startZ (l : Launch) (G : hG) (r : Nat → Nat) (T z : Nat → Int32) (pl : Nat) : hM l G yX3_start wsX3_start ({ frames := 1, cells := 0, slots := 0, locals := 40 }) (rdW G r pl T z) [.ref (r 0)] (hR none (rdW G r pl T (zS0 z))) :=
  kX3_start l G r T z pl
theorem zFF_step {T : Nat → Int32} {pl k : Nat} {y W : Nat → Int32} {M : Prop} [Decidable M] (hpl : pl ≤ 80) (hy : zOk pl y) (hm : M) (hk : k < 80) (hg : (if M then zFF T pl (80 - k) y else y) = W) : (if zP T pl (zRO T pl y) 59 then zFF T pl (80 - (k + 1)) (zTk T pl (zRO T pl y) 59) else zTk T pl (zRO T pl y) 59) = W := by
  rw [if_pos hm, show 80 - k = (80 - (k + 1)) + 1 by omega] at hg
  rw [← hg]
  show _ = if zP T pl (zRO T pl y) 59 then _ else _
  by_cases h : zP T pl (zRO T pl y) 59
  · rw [if_pos h, if_pos h]
  · rw [if_neg h, if_neg h]
    exact zTk_no (zRO_ok hpl hy) h
theorem zFF_end {T : Nat → Int32} {pl k : Nat} {y W : Nat → Int32} {M : Prop} [Decidable M] (hk : ¬ (M ∧ k < 80)) (hg : (if M then zFF T pl (80 - k) y else y) = W) : y = W := by
  rw [← hg]
  by_cases h : M
  · rw [if_pos h, show 80 - k = 0 from Nat.sub_eq_zero_of_le (Nat.not_lt.mp fun q => hk ⟨h, q⟩)]
    rfl
  · rw [if_neg h]
