/-! what-ifs of the reference; cells that agree as far as they reach -/
theorem arrV_to {cI : ClassId} {N : Nat} {f g : Nat → Int32} (h : ∀ i, i < N → f i = g i) : vp_cell cI (N, .inl f) = vp_cell cI (N, .inl g) := by
  rw [vp_cell_i, vp_cell_i]
  unfold arrV
  congr 1
  exact congrArg (fun z => Array.ofFn (n := N) z) (funext fun j => congrArg Value.int (h j.val j.isLt))
theorem va_at_to {D : va_G} {cl : List vw_C} {a : Nat} {cI : ClassId} {N : Nat} {f g : Nat → Int32} {H : Heap} (h : ∀ i, i < N → f i = g i) (hA : va_at D cl (a, .inl (cI, N, .inl f)) H) : va_at D cl (a, .inl (cI, N, .inl g)) H := by
  show H[a]? = some (vp_cell cI (N, .inl g))
  rw [← arrV_to h]
  exact hA
theorem mW_to {G : hG} {q : Nat → Nat} {D : va_G} {F F' : hF} {H : Heap} (h0 : ∀ i, i < 250 → F 0 i = F' 0 i) (h1 : ∀ i, i < 250 → F 1 i = F' 1 i) (h2 : ∀ i, i < 1500 → F 2 i = F' 2 i) (h3 : ∀ i, i < 500 → F 3 i = F' 3 i) (h4 : ∀ i, i < 2 → F 4 i = F' 4 i) (h5 : ∀ i, i < 80 → F 5 i = F' 5 i) (h6 : ∀ i, i < 8 → F 6 i = F' 6 i) (hP : va_P D vwCl (mW G q F) H) : va_P D vwCl (mW G q F') H := by
  have g := hPmem.mp hP
  refine hPmem.mpr fun x hx => ?_
  unfold mW at hx g
  simp only [List.mem_cons, List.not_mem_nil, or_false] at hx
  rcases hx with rfl | rfl | rfl | rfl | rfl | rfl | rfl
  · rw [← h6 0 (by decide), ← h6 1 (by decide), ← h6 2 (by decide), ← h6 3 (by decide), ← h6 4 (by decide), ← h6 5 (by decide), ← h6 6 (by decide), ← h6 7 (by decide)]
    exact g _ (by simp)
  · exact va_at_to h0 (g _ (by simp))
  · exact va_at_to h1 (g _ (by simp))
  · exact va_at_to h2 (g _ (by simp))
  · exact va_at_to h3 (g _ (by simp))
  · exact va_at_to h4 (g _ (by simp))
  · exact va_at_to h5 (g _ (by simp))
theorem va_D_fst {A : Nat → Prop} {ws ws' : va_W} (e : ws.map (fun q => q.1) = ws'.map (fun q => q.1)) (h : va_D A ws) : va_D A ws' := by
  have g := hDmem.mp h
  refine hDmem.mpr ⟨by rw [← e]; exact g.1, fun x hx => ?_⟩
  have h1 : x.1 ∈ ws.map (fun q => q.1) := by rw [e]; exact List.mem_map.mpr ⟨x, hx, rfl⟩
  obtain ⟨y, hy, hyx⟩ := List.mem_map.mp h1
  rw [← hyx]
  exact g.2 y hy
theorem hV_mW {p : Program} {l : Launch} {e : Env} {R : Room} {s : State} {m : MethodId} {args : Array Value} {below : List Frame} {meth : Method} {c : Code} {cells slots : Nat} {Q : State → Prop} {G : hG} {A : Nat → Prop} {nL : Nat} {pc : Nat} {lv : List (Nat × Value)} {st : List Value} {q : Nat → Nat} {F F' : hF}
    (h0 : ∀ i, i < 250 → F 0 i = F' 0 i) (h1 : ∀ i, i < 250 → F 1 i = F' 1 i) (h2 : ∀ i, i < 1500 → F 2 i = F' 2 i) (h3 : ∀ i, i < 500 → F 3 i = F' 3 i) (h4 : ∀ i, i < 2 → F 4 i = F' 4 i) (h5 : ∀ i, i < 80 → F 5 i = F' 5 i) (h6 : ∀ i, i < 8 → F 6 i = F' 6 i)
    (k : hV p l e R s m args below meth c G A nL cells slots Q (mW G q F') pc lv st) : hV p l e R s m args below meth c G A nL cells slots Q (mW G q F) pc lv st :=
  fun H locs ls hP hD hS hl => k H locs ls (mW_to h0 h1 h2 h3 h4 h5 h6 hP) (va_D_fst (ws := mW G q F) (ws' := mW G q F') rfl hD) hS hl
theorem mv_all {f : Nat → Int32} {g : Nat → Int32} {i : Nat} (h : i < 250) : mvN 250 f 0 g 0 i = f i := by
  simp only [mvN]
  rw [if_pos (by omega)]
  congr 1
  omega
/-- the same but for row 0 -/
def sr0 (E E' : hF) : Prop := ∀ j, j ≠ 0 → E' j = E j
theorem sr0.rfl' {E : hF} : sr0 E E := fun _ _ => rfl
theorem sr0.tr {E E' E'' : hF} (h : sr0 E E') (h2 : sr0 E' E'') : sr0 E E'' := fun j hj => (h2 j hj).trans (h j hj)
theorem sr0.fs {E E' : hF} (h : sr0 E E') (i : Nat) (v : Int32) : sr0 E (fs E' 0 i v) := fun j hj => (fs_ne E' i v hj).trans (h j hj)
theorem sr0.it {f : Nat → hF → hF} (hf : ∀ i x, sr0 x (f i x)) {E : hF} : ∀ n, sr0 E (itN n f E)
  | 0 => sr0.rfl'
  | n + 1 => (sr0.it hf n).tr (hf n _)
theorem sr_lvS (i : Nat) (x : hF) : sr0 x (lvS i x) := by
  unfold lvS
  split
  · exact sr0.rfl'.fs _ _
  · exact sr0.rfl'
theorem sr_tkS (i : Nat) (x : hF) : sr0 x (tkS i x) := by
  unfold tkS
  split
  · exact sr0.rfl'.fs _ _
  · exact sr0.rfl'
theorem sr_cmE (n : Nat) : ∀ (d s : Nat) (E : hF), sr0 E (cmE n d s E)
  | 0, _, _ => sr0.rfl'
  | d + 1, s, E => by
    unfold cmE
    split
    · split
      · exact sr0.rfl'
      · exact ((sr0.rfl'.fs _ _).fs _ _).tr (sr_cmE n d (s + 1) _)
    · exact sr_cmE n d (s + 1) _
theorem sr_taE (E : hF) (c s : Nat) : sr0 E (taE E c s) := by
  unfold taE
  split
  · exact ((((sr0.rfl'.fs _ _).fs _ _).fs _ _).fs _ _).fs _ _
  · exact ((sr0.rfl'.fs _ _).fs _ _).fs _ _
theorem sr_fiA (E : hF) (c s : Nat) : sr0 E (fiA E c s) := (sr0.rfl'.fs _ _).fs _ _
theorem sr_fiE (n : Nat) (E : hF) (c s : Nat) : sr0 E (fiE n E c s) := by
  unfold fiE
  split
  · exact (((sr_fiA E c s).fs _ _).fs _ _).fs _ _
  · exact (((sr_fiA E c s).fs _ _).fs _ _).fs _ _
theorem sr_woA (E : hF) (c s : Nat) (x : Int32) : sr0 E (woA E c s x) := (((sr0.rfl'.fs _ _).fs _ _).fs _ _).fs _ _
theorem sr_woE (n : Nat) (E : hF) (c s : Nat) : sr0 E (woE n E c s) := by
  unfold woE
  split
  · exact (sr_woA E c s 0).tr (sr_fiE n _ c s)
  · exact sr_woA E c s _
theorem sr_c1S (n i : Nat) (x : hF) : sr0 x (c1S n i x) := by
  unfold c1S
  split
  · split
    · exact sr0.rfl'
    · exact sr_taE _ _ _
  · exact sr0.rfl'
theorem sr_c2N (n : Nat) (r : hF × Int32) : ∀ k, sr0 r.1 (itN k (c2S n) r).1
  | 0 => sr0.rfl'
  | k + 1 => by
    refine (sr_c2N n r k).tr ?_
    show sr0 (itN k (c2S n) r).1 (c2S n k (itN k (c2S n) r)).1
    generalize itN k (c2S n) r = r'
    unfold c2S
    split
    · exact sr0.rfl'
    · exact sr_woE n _ _ _
theorem sr_poE (n c : Nat) (E : hF) : sr0 E (poE n c E) := ((((sr0.it sr_lvS n).tr (sr_cmE n n 0 _)).tr (sr0.it sr_tkS n)).tr ((sr0.it (sr_c1S n) c).tr (sr_c2N n _ c))).fs _ _
/-- in how many hours all is done, at most d more -/
def goN (n c : Nat) : Nat → Nat → hF → Nat
  | 0, k, _ => k
  | d + 1, k, E => if adP n E then k else goN n c d (k + 1) (poE n c E)
theorem goN_done {n c : Nat} {E : hF} (h : adP n E) : ∀ d k, goN n c d k E = k
  | 0, _ => rfl
  | d + 1, k => by unfold goN; rw [if_pos h]
theorem goN_step {n c : Nat} {E : hF} (h : ¬ adP n E) {k : Nat} (hk : k < 1001) : goN n c (1001 - k) k E = goN n c (1001 - (k + 1)) (k + 1) (poE n c E) := by
  rw [show 1001 - k = (1001 - (k + 1)) + 1 by omega]
  show (if adP n E then k else goN n c (1001 - (k + 1)) (k + 1) (poE n c E)) = _
  rw [if_neg h]
def goR (n c : Nat) (E : hF) : Int32 := if goN n c 1001 0 E ≤ 1000 then nI (goN n c 1001 0 E) else -6
def awR (n c : Nat) (E : hF) (x : Int32) : Int32 := goR n c (fs (fr E 1 (E 0)) 0 0 x)
def ldN (n c : Nat) (E : hF) : Nat → Nat → Int32
  | 0, _ => 60
  | d + 1, k => if awR n c E (nI k) = -6 then ldN n c E d (k + 1) else if awR n c E 60 < awR n c E (nI k) then ldN n c E d (k + 1) else nI k
def ldE (n c : Nat) (E : hF) : Int32 := if awR n c E 60 = -6 then -6 else ldN n c E 59 1
theorem fr_back (E : hF) (x : Int32) : fr (fs (fr E 1 (E 0)) 0 0 x) 0 (E 0) = fr E 1 (E 0) := by
  funext j i
  by_cases h : j = 0
  · subst h; simp [fr]
  · rw [fr_ne _ _ h, fs_ne _ _ _ h]
theorem fr_back2 (E : hF) : fr (fr E 1 (E 0)) 0 (E 0) = fr E 1 (E 0) := by
  funext j i
  by_cases h : j = 0
  · subst h; simp [fr]
  · rw [fr_ne _ _ h]
theorem fr_twice (E : hF) : fr (fr E 1 (E 0)) 1 (fr E 1 (E 0) 0) = fr E 1 (E 0) := by
  funext j i
  by_cases h : j = 1
  · subst h; simp [fr]
  · rw [fr_ne _ _ h]
theorem fr_row1 (E : hF) : fr E 1 (E 0) 1 = E 0 := by simp [fr]
def wcR (n c : Nat) (E : hF) (x : Int32) : Int32 := if 0 ≤ whcS E x 0 then goR n (c + 1) (cmcE (fr E 1 (E 0)) c x 0) else whcS E x 0
def wcE (E : hF) (x : Int32) : hF := if 0 ≤ whcS E x 0 then fr E 1 (E 0) else E
theorem mcmcE {n c : Nat} {E : hF} (h : mOk n c E) (hc : c < 6) (x y : Int32) : mOk n (c + 1) (cmcE E c x y) := by
  obtain ⟨a1, a2, a3, a4, a5, a6, a7⟩ := h
  unfold cmcE
  refine ⟨a1, by omega, ?_, ?_, fun t ht => ?_, fun t ht => ?_, fun t ht => ?_⟩
  · simp only [fs_at]
    repeat rw [if_neg (by omega)]
    exact a3
  · rw [fs_same, nI_1]
  · simp only [fs_at]
    repeat rw [if_neg (by omega)]
    exact a5 t ht
  · simp only [fs_at]
    repeat rw [if_neg (by omega)]
    rcases a6 t ht with q | ⟨k, hk, q⟩
    · exact Or.inl q
    · exact Or.inr ⟨k, by omega, q⟩
  · rw [fs_at, if_neg (by omega), fs_at]
    by_cases e : t = c
    · rw [if_pos (by omega)]; exact Or.inl rfl
    · rw [if_neg (by omega)]
      simp only [fs_at]
      repeat rw [if_neg (by omega)]
      exact a7 t (by omega)
theorem sr_cmcE (E : hF) (c : Nat) (x y : Int32) : sr0 E (cmcE E c x y) := by
  unfold cmcE
  exact ((((((((((sr0.rfl'.fs _ _).fs _ _).fs _ _).fs _ _).fs _ _).fs _ _).fs _ _).fs _ _).fs _ _).fs _ _).fs _ _
theorem fr_back3 (E : hF) (c : Nat) (x y : Int32) : fr (cmcE (fr E 1 (E 0)) c x y) 0 (cmcE (fr E 1 (E 0)) c x y 1) = fr E 1 (E 0) := by
  have h := sr_cmcE (fr E 1 (E 0)) c x y
  funext j i
  by_cases hj : j = 0
  · subst hj
    rw [fr_same, h 1 (by decide), fr_row1, fr_ne _ _ (by decide)]
  · rw [fr_ne _ _ hj, h j hj]
