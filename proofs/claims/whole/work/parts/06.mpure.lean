/-! the reference's methods as functions of its rows -/
abbrev wI (v a b : Int32) : Prop := ¬ v < a ∧ ¬ b < v
def metE (n : Nat) (E : hF) : Int32 := sumN n (fun s => if E 0 (8 + 10 * s + 4) = 1 then E 0 (8 + 10 * s + 1) else 0)
def cntE (n : Nat) (E : hF) (w : Int32) : Int32 := sumN n (fun s => if E 0 (8 + 10 * s + 4) = w then 1 else 0)
def stoE (n : Nat) (E : hF) (x : Int32) : Int32 := orN n (fun s => if E 0 (8 + 10 * s + 3) = x ∧ ¬ E 0 (8 + 10 * s + 4) = 6 then (1 : Int32) <<< (nI s &&& 31) else 0)
def loaE (n : Nat) (E : hF) (x : Int32) : Int32 := sumN n (fun s => if E 0 (8 + 10 * s + 6) = x then E 0 (8 + 10 * s + 2) else 0)
def cosE (c : Nat) (E : hF) : Int32 := sumN c (fun k => E 0 (208 + 7 * k + 4))
def wopE (n : Nat) (E : hF) : Int32 := sumN n (fun s => if E 0 (8 + 10 * s + 4) = 4 ∧ E 0 (8 + 10 * s + 6) = -6 ∧ ¬ E 0 (8 + 10 * s + 2) ≤ 0 then 1 else 0)
abbrev hasB (E : hF) (s : Nat) : Prop := E 0 (8 + 10 * s + 3) = -6 ∨ E 0 (8 + 10 * (E 0 (8 + 10 * s + 3)).toNatClampNeg + 4) = 4
def lvS (s : Nat) (E : hF) : hF := if E 0 (8 + 10 * s + 4) = 1 ∧ E 0 (8 + 10 * s + 8) = 0 then fs E 0 (8 + 10 * s + 4) 2 else E
def cmE (n : Nat) : Nat → Nat → hF → hF
  | 0, _, E => E
  | d + 1, s, E => if E 0 (8 + 10 * s + 4) = 0 then (if E 0 0 < metE n E + E 0 (8 + 10 * s + 1) then E else cmE n d (s + 1) (fs (fs E 0 (8 + 10 * s + 4) 1) 0 (8 + 10 * s + 8) (E 0 1))) else cmE n d (s + 1) E
def tkS (s : Nat) (E : hF) : hF := if E 0 (8 + 10 * s + 4) = 1 then fs E 0 (8 + 10 * s + 8) (E 0 (8 + 10 * s + 8) - 1) else E
def lorE (n : Nat) (E : hF) : hF := itN n tkS (cmE n n 0 (itN n lvS E))
def nxS (n : Nat) (E : hF) (k : Nat) (f : Int32) : Int32 := if E 0 6 = 1 then (if E 0 (8 + 10 * k + 4) = 4 ∧ stoE n E (nI k) = 0 then nI k else f) else (if E 0 (8 + 10 * (n - 1 - k) + 4) = 2 ∧ hasB E (n - 1 - k) then nI (n - 1 - k) else f)
def nxE (n : Nat) (E : hF) : Int32 := itN n (nxS n E) (-6)
def taE (E : hF) (c s : Nat) : hF :=
  if E 0 6 = 1 then fs (fs (fs (fs (fs E 0 (208 + 7 * c + 2) (nI s)) 0 (8 + 10 * s + 7) (nI c)) 0 (8 + 10 * s + 4) 5) 0 (8 + 10 * s + 5) ((E 0 (8 + 10 * s + 0) + 1) / 2)) 0 (8 + 10 * s + 6) (-6)
  else fs (fs (fs E 0 (208 + 7 * c + 2) (nI s)) 0 (8 + 10 * s + 7) (nI c)) 0 (8 + 10 * s + 4) 3
def llE (n : Nat) (E : hF) : Nat :=
  if loaE n E (nI (if loaE n E 0 ≤ loaE n E 1 then 0 else 1)) ≤ loaE n E 2 then (if loaE n E 0 ≤ loaE n E 1 then 0 else 1) else 2
def fiA (E : hF) (c s : Nat) : hF := fs (fs E 0 (208 + 7 * c + 2) (-6)) 0 (8 + 10 * s + 7) (-6)
def fiB (n : Nat) (E : hF) (c s : Nat) : Int32 := if E 0 2 < loaE n (fs (fiA E c s) 0 (8 + 10 * s + 4) 4) (nI (llE n (fiA E c s))) + E 0 (8 + 10 * s + 2) then -6 else nI (llE n (fiA E c s))
def fiE (n : Nat) (E : hF) (c s : Nat) : hF :=
  if E 0 (8 + 10 * s + 4) = 3 then
    fs (fs (fs (fiA E c s) 0 (8 + 10 * s + 4) 4) 0 (8 + 10 * s + 6) (fiB n E c s)) 0 (208 + 7 * c + 5) (E 0 (208 + 7 * c + 5) + 1)
  else
    fs (fs (fs (fiA E c s) 0 (8 + 10 * s + 4) 6) 0 (208 + 7 * c + 6) (E 0 (208 + 7 * c + 6) + 1)) 0 7 (E 0 7 + (if (nI s + E 0 3) - (nI s + E 0 3) / 4 * 4 = 0 then 1 else 0))
def woA (E : hF) (c s : Nat) (x : Int32) : hF :=
  fs (fs (fs (fs E 0 (8 + 10 * s + 5) x) 0 (8 + 10 * s + 9) (E 0 (8 + 10 * s + 9) + 1)) 0 (208 + 7 * c + 3) (E 0 (208 + 7 * c + 3) + 1)) 0 (208 + 7 * c + 4) (E 0 (208 + 7 * c + 4) + E 0 (208 + 7 * c + 1))
def woL (E : hF) (c s : Nat) : Int32 := E 0 (8 + 10 * s + 5) - E 0 (208 + 7 * c + 0)
def woE (n : Nat) (E : hF) (c s : Nat) : hF :=
  if woL E c s ≤ 0 then fiE n (woA E c s 0) c s else woA E c s (woL E c s)
def c1S (n : Nat) (c : Nat) (E : hF) : hF := if E 0 (208 + 7 * c + 2) = -6 then (if nxE n E = -6 then E else taE E c (nxE n E).toNatClampNeg) else E
def c2S (n : Nat) (c : Nat) (r : hF × Int32) : hF × Int32 :=
  if r.1 0 (208 + 7 * c + 2) = -6 then r
  else (woE n r.1 c (r.1 0 (208 + 7 * c + 2)).toNatClampNeg, if woL r.1 c (r.1 0 (208 + 7 * c + 2)).toNatClampNeg ≤ 0 then r.2 + 1 else r.2)
def p1E (n c : Nat) (E : hF) : hF × Int32 := itN c (c2S n) (itN c (c1S n) (lorE n E), 0)
def poE (n c : Nat) (E : hF) : hF := fs (p1E n c E).1 0 3 ((p1E n c E).1 0 3 + 1)
def poR (n c : Nat) (E : hF) : Int32 := (p1E n c E).2
def psS (n c : Nat) (_ : Nat) (r : hF × Int32) : hF × Int32 := (poE n c r.1, r.2 + poR n c r.1)
def psE (n c h : Nat) (E : hF) : hF × Int32 := itN h (psS n c) (E, 0)
/-- what keeps the reference from a wrong index -/
def mOk (n c : Nat) (E : hF) : Prop := n ≤ 20 ∧ c ≤ 6 ∧ E 0 4 = nI n ∧ E 0 5 = nI c ∧ (∀ s, s < n → E 0 (8 + 10 * s + 3) = -6 ∨ ∃ b, b < n ∧ E 0 (8 + 10 * s + 3) = nI b) ∧ (∀ s, s < n → E 0 (8 + 10 * s + 7) = -6 ∨ ∃ k, k < c ∧ E 0 (8 + 10 * s + 7) = nI k) ∧ (∀ k, k < c → E 0 (208 + 7 * k + 2) = -6 ∨ ∃ s, s < n ∧ E 0 (208 + 7 * k + 2) = nI s)
section MOK
variable {n c : Nat} {E : hF}
theorem mOk.hn (h : mOk n c E) : n ≤ 20 := h.1
theorem mOk.hc (h : mOk n c E) : c ≤ 6 := h.2.1
theorem mOk.h4 (h : mOk n c E) : E 0 4 = nI n := h.2.2.1
theorem mOk.h5 (h : mOk n c E) : E 0 5 = nI c := h.2.2.2.1
theorem mOk.hb (h : mOk n c E) : ∀ s, s < n → E 0 (8 + 10 * s + 3) = -6 ∨ ∃ b, b < n ∧ E 0 (8 + 10 * s + 3) = nI b := h.2.2.2.2.1
theorem mOk.hy (h : mOk n c E) : ∀ s, s < n → E 0 (8 + 10 * s + 7) = -6 ∨ ∃ k, k < c ∧ E 0 (8 + 10 * s + 7) = nI k := h.2.2.2.2.2.1
theorem mOk.hs (h : mOk n c E) : ∀ k, k < c → E 0 (208 + 7 * k + 2) = -6 ∨ ∃ s, s < n ∧ E 0 (208 + 7 * k + 2) = nI s := h.2.2.2.2.2.2
theorem mOk.part (h : mOk n c E) {s p : Nat} (v : Int32) (hs : s < n) (hp : p < 10) (h3 : p ≠ 3) (h7 : p ≠ 7) : mOk n c (fs E 0 (8 + 10 * s + p) v) := by
  obtain ⟨a1, a2, a3, a4, a5, a6, a7⟩ := h
  refine ⟨a1, a2, ?_, ?_, fun t ht => ?_, fun t ht => ?_, fun t ht => ?_⟩
  · rw [fs_at, if_neg (by omega)]; exact a3
  · rw [fs_at, if_neg (by omega)]; exact a4
  · rw [fs_at, if_neg (by omega)]; exact a5 t ht
  · rw [fs_at, if_neg (by omega)]; exact a6 t ht
  · rw [fs_at, if_neg (by omega)]; exact a7 t ht
theorem mOk.by' (h : mOk n c E) {s : Nat} {v : Int32} (hs : s < n) (hv : v = -6 ∨ ∃ k, k < c ∧ v = nI k) : mOk n c (fs E 0 (8 + 10 * s + 7) v) := by
  obtain ⟨a1, a2, a3, a4, a5, a6, a7⟩ := h
  refine ⟨a1, a2, ?_, ?_, fun t ht => ?_, fun t ht => ?_, fun t ht => ?_⟩
  · rw [fs_at, if_neg (by omega)]; exact a3
  · rw [fs_at, if_neg (by omega)]; exact a4
  · rw [fs_at, if_neg (by omega)]; exact a5 t ht
  · rw [fs_at]
    by_cases e : t = s
    · rw [if_pos (by omega)]; exact hv
    · rw [if_neg (by omega)]; exact a6 t ht
  · rw [fs_at, if_neg (by omega)]; exact a7 t ht
theorem mOk.crew (h : mOk n c E) {k p : Nat} (v : Int32) (hp : p < 7) (h2 : p ≠ 2) : mOk n c (fs E 0 (208 + 7 * k + p) v) := by
  obtain ⟨a1, a2, a3, a4, a5, a6, a7⟩ := h
  refine ⟨a1, a2, ?_, ?_, fun t ht => ?_, fun t ht => ?_, fun t ht => ?_⟩
  · rw [fs_at, if_neg (by omega)]; exact a3
  · rw [fs_at, if_neg (by omega)]; exact a4
  · rw [fs_at, if_neg (by omega)]; exact a5 t ht
  · rw [fs_at, if_neg (by omega)]; exact a6 t ht
  · rw [fs_at, if_neg (by omega)]; exact a7 t ht
theorem mOk.has (h : mOk n c E) {k : Nat} {v : Int32} (hv : v = -6 ∨ ∃ s, s < n ∧ v = nI s) : mOk n c (fs E 0 (208 + 7 * k + 2) v) := by
  obtain ⟨a1, a2, a3, a4, a5, a6, a7⟩ := h
  refine ⟨a1, a2, ?_, ?_, fun t ht => ?_, fun t ht => ?_, fun t ht => ?_⟩
  · rw [fs_at, if_neg (by omega)]; exact a3
  · rw [fs_at, if_neg (by omega)]; exact a4
  · rw [fs_at, if_neg (by omega)]; exact a5 t ht
  · rw [fs_at, if_neg (by omega)]; exact a6 t ht
  · rw [fs_at]
    by_cases e : t = k
    · rw [if_pos (by omega)]; exact hv
    · rw [if_neg (by omega)]; exact a7 t ht
theorem mOk.head (h : mOk n c E) {i : Nat} (v : Int32) (hi : i < 8) (h4 : i ≠ 4) (h5 : i ≠ 5) : mOk n c (fs E 0 i v) := by
  obtain ⟨a1, a2, a3, a4, a5, a6, a7⟩ := h
  refine ⟨a1, a2, ?_, ?_, fun t ht => ?_, fun t ht => ?_, fun t ht => ?_⟩
  · rw [fs_at, if_neg (by omega)]; exact a3
  · rw [fs_at, if_neg (by omega)]; exact a4
  · rw [fs_at, if_neg (by omega)]; exact a5 t ht
  · rw [fs_at, if_neg (by omega)]; exact a6 t ht
  · rw [fs_at, if_neg (by omega)]; exact a7 t ht
theorem mOk.row (h : mOk n c E) {j i : Nat} (v : Int32) (hj : j ≠ 0) : mOk n c (fs E j i v) := by
  unfold mOk
  rw [fs_ne E i v (Ne.symm hj)]
  exact h
theorem mOk.of0 {E' : hF} (h : mOk n c E) (e : E' 0 = E 0) : mOk n c E' := by
  unfold mOk at h ⊢
  rw [e]
  exact h
end MOK
theorem nI_ne6 {k : Nat} (hk : k < 2 ^ 31) : ¬ nI k = -6 := by
  intro h
  have h1 := nI_toInt hk
  rw [h] at h1
  have h2 : (-6 : Int32).toInt = -6 := by decide
  omega
theorem mlvS {n c : Nat} {E : hF} (h : mOk n c E) {s : Nat} (hs : s < n) : mOk n c (lvS s E) := by
  unfold lvS
  split
  · exact h.part _ hs (by decide) (by decide) (by decide)
  · exact h
theorem mtkS {n c : Nat} {E : hF} (h : mOk n c E) {s : Nat} (hs : s < n) : mOk n c (tkS s E) := by
  unfold tkS
  split
  · exact h.part _ hs (by decide) (by decide) (by decide)
  · exact h
theorem itN_P {α : Type} {P : α → Prop} {f : Nat → α → α} {a : α} (h0 : P a) : ∀ n : Nat, (∀ i x, i < n → P x → P (f i x)) → P (itN n f a)
  | 0, _ => h0
  | n + 1, hf => hf n _ (Nat.lt_succ_self n) (itN_P h0 n fun i x hi hx => hf i x (Nat.lt_succ_of_lt hi) hx)
theorem mcmE {n c : Nat} : ∀ (d s : Nat) {E : hF}, mOk n c E → s + d ≤ n → mOk n c (cmE n d s E)
  | 0, _, _, h, _ => h
  | d + 1, s, E, h, hd => by
    unfold cmE
    split
    · split
      · exact h
      · exact mcmE d (s + 1) ((h.part _ (by omega) (by decide) (by decide) (by decide)).part _ (by omega) (by decide) (by decide) (by decide)) (by omega)
    · exact mcmE d (s + 1) h (by omega)
theorem mlorE {n c : Nat} {E : hF} (h : mOk n c E) : mOk n c (lorE n E) :=
  itN_P (mcmE n 0 (itN_P h n fun _ _ hi hx => mlvS hx hi) (by omega)) n fun _ _ hi hx => mtkS hx hi
theorem nxE_of (n : Nat) (E : hF) : ∀ k, k ≤ n → itN k (nxS n E) (-6) = -6 ∨ ∃ s, s < n ∧ itN k (nxS n E) (-6) = nI s
  | 0, _ => Or.inl rfl
  | k + 1, hk => by
    show nxS n E k (itN k (nxS n E) (-6)) = -6 ∨ ∃ s, s < n ∧ nxS n E k (itN k (nxS n E) (-6)) = nI s
    have ih := nxE_of n E k (by omega)
    generalize itN k (nxS n E) (-6) = f at ih ⊢
    unfold nxS
    split
    · split
      · exact Or.inr ⟨k, by omega, rfl⟩
      · exact ih
    · split
      · exact Or.inr ⟨n - 1 - k, by omega, rfl⟩
      · exact ih
theorem mtaE {n c : Nat} {E : hF} (h : mOk n c E) {k s : Nat} (hk : k < c) (hs : s < n) : mOk n c (taE E k s) := by
  unfold taE
  have h1 := (h.has (k := k) (Or.inr ⟨s, hs, rfl⟩)).by' hs (Or.inr ⟨k, hk, rfl⟩)
  split
  · exact ((h1.part _ hs (by decide) (by decide) (by decide)).part _ hs (by decide) (by decide) (by decide)).part _ hs (by decide) (by decide) (by decide)
  · exact h1.part _ hs (by decide) (by decide) (by decide)
theorem mfiA {n c : Nat} {E : hF} (h : mOk n c E) {k s : Nat} (hs : s < n) : mOk n c (fiA E k s) := (h.has (k := k) (Or.inl rfl)).by' hs (Or.inl rfl)
theorem mfiE {n c : Nat} {E : hF} (h : mOk n c E) {k s : Nat} (hs : s < n) : mOk n c (fiE n E k s) := by
  unfold fiE
  have h1 := mfiA h (k := k) hs
  split
  · exact ((h1.part _ hs (by decide) (by decide) (by decide)).part _ hs (by decide) (by decide) (by decide)).crew _ (by decide) (by decide)
  · exact ((h1.part _ hs (by decide) (by decide) (by decide)).crew _ (by decide) (by decide)).head _ (by decide) (by decide) (by decide)
theorem mwoA {n c : Nat} {E : hF} (h : mOk n c E) {k s : Nat} (x : Int32) (hs : s < n) : mOk n c (woA E k s x) :=
  (((h.part _ hs (by decide) (by decide) (by decide)).part _ hs (by decide) (by decide) (by decide)).crew _ (by decide) (by decide)).crew _ (by decide) (by decide)
theorem mwoE {n c : Nat} {E : hF} (h : mOk n c E) {k s : Nat} (hs : s < n) : mOk n c (woE n E k s) := by
  unfold woE
  split
  · exact mfiE (mwoA h _ hs) hs
  · exact mwoA h _ hs
theorem mc1S {n c : Nat} {E : hF} (h : mOk n c E) {k : Nat} (hk : k < c) : mOk n c (c1S n k E) := by
  unfold c1S
  split
  · split
    · exact h
    · rename_i h1 h2
      rcases nxE_of n E n (Nat.le_refl n) with q | ⟨s, hs, q⟩
      · exact absurd q h2
      · have q' : nxE n E = nI s := q
        rw [q', nI_clamp (by have := h.hn; omega)]
        exact mtaE h hk hs
  · exact h
theorem mc2S {n c : Nat} {r : hF × Int32} (h : mOk n c r.1) {k : Nat} (hk : k < c) : mOk n c (c2S n k r).1 := by
  unfold c2S
  split
  · exact h
  · rename_i h1
    rcases h.hs k hk with q | ⟨s, hs, q⟩
    · exact absurd q h1
    · rw [q, nI_clamp (by have := h.hn; omega)]
      exact mwoE h hs
theorem mc1N {n c : Nat} {E : hF} (h : mOk n c E) {k : Nat} (hk : k ≤ c) : mOk n c (itN k (c1S n) E) := itN_P h k fun _ _ hi hx => mc1S hx (by omega)
theorem mc2N {n c : Nat} {r : hF × Int32} (h : mOk n c r.1) {k : Nat} (hk : k ≤ c) : mOk n c (itN k (c2S n) r).1 := itN_P (P := fun r : hF × Int32 => mOk n c r.1) h k fun _ _ hi hx => mc2S hx (by omega)
theorem mp1E {n c : Nat} {E : hF} (h : mOk n c E) : mOk n c (p1E n c E).1 := mc2N (mc1N (mlorE h) (Nat.le_refl c)) (Nat.le_refl c)
theorem mpoE {n c : Nat} {E : hF} (h : mOk n c E) : mOk n c (poE n c E) := (mp1E h).head _ (by decide) (by decide) (by decide)
theorem mpsN {n c : Nat} {E : hF} (h : mOk n c E) (k : Nat) : mOk n c (itN k (psS n c) (E, 0)).1 := itN_P (P := fun r : hF × Int32 => mOk n c r.1) h k fun _ _ _ hx => mpoE hx
theorem i_no {x : Int32} (h1 : ¬ 0 ≤ x) (h2 : ¬ x ≤ 0) : False := by
  rw [Int32.le_iff_toInt_le, Int32.toInt_zero] at h1 h2
  omega
theorem i_eq0 {x : Int32} (h1 : 0 ≤ x) (h2 : x ≤ 0) : x = 0 := by
  rw [Int32.le_iff_toInt_le, Int32.toInt_zero] at h1 h2
  apply Int32.toInt_inj.mp
  rw [Int32.toInt_zero]
  omega
