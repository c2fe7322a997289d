/-! texts are read alike: T the program's pad, U the reference's -/
def TX (T U : Nat → Int32) (pl : Nat) : Prop := ∀ i, i < pl → T i = U i ∧ ∃ v, 33 ≤ v ∧ v ≤ 126 ∧ T i = nI v
section TXT
variable {T U : Nat → Int32} {pl : Nat}
theorem m1n : (-1 : Int32) < 0 := by decide
theorem kc (t : TX T U pl) {a : Nat} {x : Int32} (h0 : ¬ x = 0) (h1 : ¬ x = -1) : kAt T pl a = x ↔ chT U pl a = x := by
  unfold kAt chT
  by_cases h : a < pl
  · rw [if_pos h, if_pos h, (t a h).1]
  · rw [if_neg h, if_neg h]
    exact ⟨fun e => absurd e.symm h0, fun e => absurd e.symm h1⟩
theorem kd (t : TX T U pl) {a lo : Nat} (hlo : lo ≤ 9) : wI (kAt T pl a) (nI (48 + lo)) 57 ↔ wI (chT U pl a - 48) (nI lo) 9 := by
  unfold kAt chT
  by_cases h : a < pl
  · rw [if_pos h, if_pos h]
    obtain ⟨e, v, h1, h2, ev⟩ := t a h
    rw [← e, ev]
    have e1 : (48 : Int32) = nI 48 := rfl
    have e2 : (57 : Int32) = nI 57 := rfl
    have e3 : (9 : Int32) = nI 9 := rfl
    unfold wI
    rw [e1, e2, e3, Int32.lt_iff_toInt_lt, Int32.lt_iff_toInt_lt, Int32.lt_iff_toInt_lt, Int32.lt_iff_toInt_lt, pk_sub_toInt (by omega) (by omega), nI_toInt (by omega), nI_toInt (by omega), nI_toInt (by omega), nI_toInt (by omega), nI_toInt (by omega)]
    omega
  · rw [if_neg h, if_neg h]
    constructor
    · rintro ⟨g, _⟩
      exact absurd (show (0 : Int32) < nI (48 + lo) by rw [← nI_0]; exact nI_lt (by omega) (by omega)) g
    · rintro ⟨g, _⟩
      refine absurd (?_ : (-1 : Int32) - 48 < nI lo) g
      rw [Int32.lt_iff_toInt_lt, nI_toInt (by omega), show ((-1 : Int32) - 48).toInt = -49 by decide]
      omega
theorem kv (t : TX T U pl) {a : Nat} (h : a < pl) : kAt T pl a = chT U pl a := by
  unfold kAt chT
  rw [if_pos h, if_pos h]
  exact (t a h).1
/-- the reader is at a place, well or faulty, as the reference is behind a piece -/
def MZ (z : Nat → Int32) (r : Int32 × Nat) : Prop := ((¬ r.1 < 0 ∧ z 1 = 0) ∨ (r.1 < 0 ∧ ¬ z 1 = 0)) ∧ z 0 = nI r.2
theorem z_at {z : Nat → Int32} {a : Nat} (h : z 0 = nI a) (ha : a ≤ 200) : zA z = a := by
  unfold zA
  rw [h, nI_toInt (by omega)]
  rfl
theorem zTk_bad {z : Nat → Int32} {x : Int32} {a : Nat} (h0 : z 0 = nI a) (ha : a ≤ 200) (h1 : ¬ z 1 = 0) : zTk T pl z x = z := by
  unfold zTk tkA
  rw [if_neg (fun y => h1 y.1), z_at h0 ha]
  exact upd_self h0
theorem zTk_no' {z : Nat → Int32} {x : Int32} {a : Nat} (h0 : z 0 = nI a) (ha : a ≤ 200) (h1 : ¬ kAt T pl a = x) : zTk T pl z x = z := by
  unfold zTk tkA
  rw [z_at h0 ha, if_neg (fun y => h1 y.2)]
  exact upd_self h0
theorem zTk_yes {z : Nat → Int32} {x : Int32} {a : Nat} (h0 : z 0 = nI a) (ha : a ≤ 200) (h1 : z 1 = 0) (h2 : kAt T pl a = x) : zTk T pl z x = upd z 0 (nI (a + 1)) := by
  unfold zTk tkA
  rw [z_at h0 ha, if_pos ⟨h1, h2⟩]
theorem zEx_bad {z : Nat → Int32} {x : Int32} {a : Nat} (h0 : z 0 = nI a) (ha : a ≤ 200) (h1 : ¬ z 1 = 0) : zEx T pl z x = upd z 1 1 := by
  unfold zEx tkA exF
  rw [if_neg (fun y => h1 y.1), if_neg (fun y => h1 y.1), z_at h0 ha, upd_self h0]
theorem zEx_no {z : Nat → Int32} {x : Int32} {a : Nat} (h0 : z 0 = nI a) (ha : a ≤ 200) (h2 : ¬ kAt T pl a = x) : zEx T pl z x = upd z 1 1 := by
  unfold zEx tkA exF
  rw [z_at h0 ha, if_neg (fun y => h2 y.2), if_neg (fun y => h2 y.2), upd_self h0]
theorem zEx_yes {z : Nat → Int32} {x : Int32} {a : Nat} (h0 : z 0 = nI a) (ha : a ≤ 200) (h1 : z 1 = 0) (h2 : kAt T pl a = x) : zEx T pl z x = upd z 0 (nI (a + 1)) := by
  unfold zEx tkA exF
  rw [z_at h0 ha, if_pos ⟨h1, h2⟩, if_pos ⟨h1, h2⟩]
  exact upd_self (by rw [pk_un (by decide)])
/-! a digit, a number -/
theorem zDg_bad {z : Nat → Int32} {a : Nat} (h0 : z 0 = nI a) (ha : a ≤ 200) (h1 : ¬ z 1 = 0) : zDg T pl z = upd z 1 1 ∧ vDg T pl z = 0 := by
  unfold zDg vDg rdD
  rw [if_neg (fun y => h1 y.1), z_at h0 ha]
  exact ⟨by show upd (upd z 0 (nI a)) 1 1 = _; rw [upd_self h0], rfl⟩
theorem zDg_no {z : Nat → Int32} {a : Nat} (h0 : z 0 = nI a) (ha : a ≤ 200) (h2 : ¬ wI (kAt T pl a) 49 57) : zDg T pl z = upd z 1 1 ∧ vDg T pl z = 0 := by
  unfold zDg vDg rdD
  rw [z_at h0 ha, if_neg (fun y => h2 y.2)]
  exact ⟨by show upd (upd z 0 (nI a)) 1 1 = _; rw [upd_self h0], rfl⟩
theorem zDg_yes {z : Nat → Int32} {a : Nat} (h0 : z 0 = nI a) (ha : a ≤ 200) (h1 : z 1 = 0) (h2 : wI (kAt T pl a) 49 57) : zDg T pl z = upd z 0 (nI (a + 1)) ∧ vDg T pl z = kAt T pl a - 48 := by
  unfold zDg vDg rdD
  rw [z_at h0 ha, if_pos ⟨h1, h2⟩]
  exact ⟨by show upd (upd z 0 (nI (a + 1))) 1 (z 1) = _; exact upd_self (by rw [pk_un (by decide)]), rfl⟩
/-- what a piece leaves as it is -/
def kp (i : Nat) (z z' : Nat → Int32) : Prop := ∀ j, j ≠ 0 → j ≠ 1 → j ≠ i → z' j = z j
theorem dig_ge {x lo : Int32} (h : wI x lo 9) (h0 : 0 ≤ lo) : ¬ x < 0 := fun q => by
  have h1 := h.1
  rw [Int32.lt_iff_toInt_lt] at h1 q
  rw [Int32.le_iff_toInt_le] at h0
  rw [Int32.toInt_zero] at h0 q
  omega
theorem MZ_digit (t : TX T U pl) {z : Nat → Int32} {a i : Nat} (h0 : z 0 = nI a) (ha : a ≤ 200) (h1 : z 1 = 0) (hi : 2 ≤ i) : MZ (zD T pl i z) (tdT U pl a 1) ∧ kp i z (zD T pl i z) ∧ (¬ (tdT U pl a 1).1 < 0 → zD T pl i z i = (tdT U pl a 1).1) := by
  have e := kd t (a := a) (lo := 1) (by decide)
  unfold zD tdT
  by_cases q : wI (chT U pl a - 48) 1 9
  · have q' : wI (kAt T pl a) 49 57 := e.mpr q
    have hlt : a < pl := kAt_in (T := T) fun e9 => by rw [e9] at q'; exact absurd q' (by decide)
    obtain ⟨g1, g2⟩ := zDg_yes h0 ha h1 q'
    rw [if_pos q, g1, g2, kv t hlt]
    refine ⟨⟨Or.inl ⟨dig_ge q (by decide), ?_⟩, ?_⟩, fun j j0 j1 ji => ?_, fun _ => pk_us⟩
    · rw [pk_un (by omega), pk_un (by decide)]; exact h1
    · rw [pk_un (by omega), pk_us]
    · rw [pk_un ji, pk_un j0]
  · have q' : ¬ wI (kAt T pl a) 49 57 := fun y => q (e.mp y)
    obtain ⟨g1, g2⟩ := zDg_no h0 ha q'
    rw [if_neg q, g1, g2]
    refine ⟨⟨Or.inr ⟨m1n, ?_⟩, ?_⟩, fun j j0 j1 ji => ?_, fun y => absurd m1n y⟩
    · rw [pk_un (by omega), pk_us]; decide
    · rw [pk_un (by omega), pk_un (by decide)]; exact h0
    · rw [pk_un ji, pk_un j1]
theorem tdT_0 {a : Nat} : (tdT U pl a 0).1 < 0 ↔ ¬ wI (chT U pl a - 48) 0 9 := by
  unfold tdT
  by_cases q : wI (chT U pl a - 48) 0 9
  · rw [if_pos q]
    exact ⟨fun y => absurd y (dig_ge q (by decide)), fun y => absurd q y⟩
  · rw [if_neg q]
    exact ⟨fun _ => q, fun _ => m1n⟩
theorem i_nle0 {x : Int32} (h : x ≤ 0) (h2 : ¬ x < 0) : x = 0 := by
  apply Int32.toInt_inj.mp
  rw [Int32.le_iff_toInt_le] at h
  rw [Int32.lt_iff_toInt_lt] at h2
  rw [Int32.toInt_zero] at *
  omega
theorem dig_val (t : TX T U pl) {a lo : Nat} (hlo : lo ≤ 9) (q : wI (chT U pl a - 48) (nI lo) 9) : ∃ d : Nat, lo ≤ d ∧ d ≤ 9 ∧ chT U pl a - 48 = nI d ∧ chT U pl a = nI (48 + d) ∧ a < pl := by
  obtain ⟨d, d1, d2, e⟩ := wI_lit (a := lo) (b := 9) (by omega) (by decide) q
  have hlt : a < pl := by
    have q' := (kd t hlo).mpr q
    exact kAt_in (T := T) fun e9 => by
      rw [e9] at q'
      exact q'.1 (by rw [← nI_0]; exact nI_lt (by omega) (by omega))
  refine ⟨d, d1, d2, e, ?_, hlt⟩
  have e2 : chT U pl a = (chT U pl a - 48) + 48 := by rw [Int32.sub_add_cancel]
  rw [e2, e, show (48 : Int32) = nI 48 from rfl, nI_add, Nat.add_comm]
theorem MZ_num (t : TX T U pl) {z : Nat → Int32} {a i : Nat} (h0 : z 0 = nI a) (ha : a ≤ 190) (h1 : z 1 = 0) (hi : 2 ≤ i) : MZ (zN T pl i z) (tnT U pl a) ∧ kp i z (zN T pl i z) ∧ (¬ (tnT U pl a).1 < 0 → zN T pl i z i = (tnT U pl a).1) := by
  have hz := z_at h0 (show a ≤ 200 by omega)
  unfold zN
  by_cases q : wI (chT U pl a - 48) 0 9
  · obtain ⟨d, _, d2, e1, e2, hlt⟩ := dig_val t (lo := 0) (by decide) q
    have ek : kAt T pl a = nI (48 + d) := by rw [kv t hlt]; exact e2
    have et : tdT U pl a 0 = (nI d, a + 1) := by
      unfold tdT
      rw [if_pos q, e1]
    by_cases d0 : d = 0
    · subst d0
      have hP : zP T pl z 48 := ⟨h1, by rw [hz]; exact ek⟩
      have v0 : vNm T pl z = 0 := if_pos hP
      have z0 : zNm T pl z = upd z 0 (nI (a + 1)) := by
        unfold zNm
        rw [if_pos hP]
        exact zTk_yes h0 (by omega) h1 ek
      have en : tnT U pl a = (0, a + 1) := by
        unfold tnT
        rw [et, if_neg (fun y => y.1 (show nI 0 ≤ 0 by decide))]
        rfl
      rw [v0, z0, en]
      refine ⟨⟨Or.inl ⟨(show ¬ (0 : Int32) < 0 by decide), ?_⟩, ?_⟩, fun j j0 j1 ji => ?_, fun _ => pk_us⟩
      · rw [pk_un (by omega), pk_un (by decide)]; exact h1
      · rw [pk_un (by omega), pk_us]
      · rw [pk_un ji, pk_un j0]
    · have hP : ¬ zP T pl z 48 := fun y => by
        have y2 := y.2
        rw [hz, ek] at y2
        have := nI_inj6 (a := 48 + d) (b := 48) (by omega) (by decide) y2
        omega
      have hw : wI (kAt T pl a) 49 57 := by
        rw [ek]
        exact ⟨nI_nlt (a := 48 + d) (b := 49) (by omega) (by omega), nI_nlt (a := 57) (b := 48 + d) (by omega) (by decide)⟩
      obtain ⟨g1, g2⟩ := zDg_yes h0 (show a ≤ 200 by omega) h1 hw
      have g2' : vDg T pl z = nI d := by rw [g2, kv t hlt]; exact e1
      have hz1 : zA (zDg T pl z) = a + 1 := by rw [g1]; exact z_at pk_us (by omega)
      have h10 : zDg T pl z 1 = 0 := by rw [g1, pk_un (by decide)]; exact h1
      have hpos : ¬ (tdT U pl a 0).1 ≤ 0 := by
        rw [et]
        exact nI_nle (by omega) (by omega)
      by_cases q2 : wI (chT U pl (a + 1)) 48 57
      · have q3 : wI (chT U pl (a + 1) - 48) 0 9 := by
          obtain ⟨w, w1, w2, we⟩ := wI_lit (a := 48) (b := 57) (by decide) (by decide) q2
          rw [we, show (48 : Int32) = nI 48 from rfl, pk_sub (by omega)]
          exact ⟨nI_pos (by omega), nI_nlt (a := 9) (b := w - 48) (by omega) (by decide)⟩
        obtain ⟨d', _, d2', e1', e2', hlt'⟩ := dig_val t (lo := 0) (by decide) q3
        have hM : zMo T pl z := ⟨h10, by rw [hz1]; exact (kd t (a := a + 1) (lo := 0) (by decide)).mpr q3⟩
        have v0 : vNm T pl z = 10 * vDg T pl z + kAt T pl (a + 1) - 48 := by
          unfold vNm
          rw [if_neg hP, if_pos hM, hz1]
        have z0 : zNm T pl z = upd z 0 (nI (a + 1 + 1)) := by
          unfold zNm
          rw [if_neg hP, if_pos hM, hz1, g1, upd_upd]
        have et' : tdT U pl (a + 1) 0 = (nI d', a + 1 + 1) := by
          unfold tdT
          rw [if_pos q3, e1']
        have en : tnT U pl a = (10 * nI d + nI d', a + 1 + 1) := by
          unfold tnT
          rw [if_pos ⟨hpos, by rw [et]; exact q2⟩, et]
          show (10 * nI d + (tdT U pl (a + 1) 0).1, (tdT U pl (a + 1) 0).2) = _
          rw [et']
        have ev : 10 * vDg T pl z + kAt T pl (a + 1) - 48 = 10 * nI d + nI d' := by
          rw [g2', kv t hlt', e2', Int32.sub_eq_add_neg, Int32.add_assoc]
          rw [← Int32.sub_eq_add_neg, show (48 : Int32) = nI 48 from rfl, pk_sub (by omega), show 48 + d' - 48 = d' by omega]
        have e10 : 10 * nI d + nI d' = nI (10 * d + d') := by rw [show (10 : Int32) = nI 10 from rfl, pk_mul, nI_add]
        rw [v0, z0, en, ev]
        refine ⟨⟨Or.inl ⟨?_, ?_⟩, ?_⟩, fun j j0 j1 ji => ?_, fun _ => pk_us⟩
        · show ¬ 10 * nI d + nI d' < 0
          rw [e10]
          exact nI_pos (by omega)
        · rw [pk_un (by omega), pk_un (by decide)]; exact h1
        · rw [pk_un (by omega), pk_us]
        · rw [pk_un ji, pk_un j0]
      · have hM : ¬ zMo T pl z := fun y => q2 (by
          have y2 := y.2
          rw [hz1] at y2
          have hlt' : a + 1 < pl := kAt_in (T := T) fun e9 => by rw [e9] at y2; exact absurd y2 (by decide)
          rw [← kv t hlt']
          exact y2)
        have v0 : vNm T pl z = nI d := by
          unfold vNm
          rw [if_neg hP, if_neg hM]
          exact g2'
        have z0 : zNm T pl z = upd z 0 (nI (a + 1)) := by
          unfold zNm
          rw [if_neg hP, if_neg hM]
          exact g1
        have en : tnT U pl a = (nI d, a + 1) := by
          unfold tnT
          rw [if_neg (fun y => q2 (by have y2 := y.2; rw [et] at y2; exact y2)), et]
        rw [v0, z0, en]
        refine ⟨⟨Or.inl ⟨nI_pos (by omega), ?_⟩, ?_⟩, fun j j0 j1 ji => ?_, fun _ => pk_us⟩
        · rw [pk_un (by omega), pk_un (by decide)]; exact h1
        · rw [pk_un (by omega), pk_us]
        · rw [pk_un ji, pk_un j0]
  · have et : tdT U pl a 0 = (-1, a) := by
      unfold tdT
      rw [if_neg q]
    have hk0 : ¬ wI (kAt T pl a) 48 57 := fun y => q ((kd t (a := a) (lo := 0) (by decide)).mp y)
    have hP : ¬ zP T pl z 48 := fun y => hk0 (by
      have y2 := y.2
      rw [hz] at y2
      rw [y2]
      decide)
    have hw : ¬ wI (kAt T pl a) 49 57 := fun y => hk0 ⟨fun w => y.1 (by
      rw [Int32.lt_iff_toInt_lt] at w ⊢
      have e1 : (48 : Int32).toInt = 48 := by decide
      have e2 : (49 : Int32).toInt = 49 := by decide
      omega), y.2⟩
    obtain ⟨g1, g2⟩ := zDg_no h0 (show a ≤ 200 by omega) hw
    have hM : ¬ zMo T pl z := fun y => by
      have y1 := y.1
      rw [g1, pk_us] at y1
      exact absurd y1 (by decide)
    have v0 : vNm T pl z = 0 := by
      unfold vNm
      rw [if_neg hP, if_neg hM]
      exact g2
    have z0 : zNm T pl z = upd z 1 1 := by
      unfold zNm
      rw [if_neg hP, if_neg hM]
      exact g1
    have en : tnT U pl a = (-1, a) := by
      unfold tnT
      rw [et, if_neg (fun y => y.1 (show (-1 : Int32) ≤ 0 by decide))]
    rw [v0, z0, en]
    refine ⟨⟨Or.inr ⟨m1n, ?_⟩, ?_⟩, fun j j0 j1 ji => ?_, fun y => absurd m1n y⟩
    · rw [pk_un (by omega), pk_us]; decide
    · rw [pk_un (by omega), pk_un (by decide)]; exact h0
    · rw [pk_un ji, pk_un j1]
theorem zN_bad {z : Nat → Int32} {a i : Nat} (h0 : z 0 = nI a) (ha : a ≤ 200) (h1 : ¬ z 1 = 0) (hi : 2 ≤ i) : zN T pl i z 0 = nI a ∧ ¬ zN T pl i z 1 = 0 ∧ kp i z (zN T pl i z) := by
  obtain ⟨g1, g2⟩ := zDg_bad (T := T) (pl := pl) h0 ha h1
  have hP : ¬ zP T pl z 48 := fun y => h1 y.1
  have hM : ¬ zMo T pl z := fun y => by
    have y1 := y.1
    rw [g1, pk_us] at y1
    exact absurd y1 (by decide)
  have z0 : zNm T pl z = upd z 1 1 := by
    unfold zNm
    rw [if_neg hP, if_neg hM]
    exact g1
  unfold zN
  rw [z0]
  refine ⟨?_, ?_, fun j j0 j1 ji => ?_⟩
  · rw [pk_un (by omega), pk_un (by decide)]; exact h0
  · rw [pk_un (by omega), pk_us]; decide
  · rw [pk_un ji, pk_un j1]
/-- a sign that must stand there, and a number behind it -/
theorem MZ_step (t : TX T U pl) {z : Nat → Int32} {r : Int32 × Nat} {x : Int32} {i : Nat} (h : MZ z r) (hr : r.2 ≤ 180) (hx0 : ¬ x = 0) (hx1 : ¬ x = -1) (hi : 2 ≤ i) : MZ (zN T pl i (zEx T pl z x)) (rs2 U pl r x (-1)) ∧ kp i z (zN T pl i (zEx T pl z x)) ∧ (¬ (rs2 U pl r x (-1)).1 < 0 → zN T pl i (zEx T pl z x) i = (rs2 U pl r x (-1)).1) := by
  obtain ⟨h1, h0⟩ := h
  rcases h1 with ⟨hp, h1⟩ | ⟨hp, h1⟩
  · by_cases q : chT U pl r.2 = x
    · have er : rs2 U pl r x (-1) = tnT U pl (r.2 + 1) := by
        unfold rs2
        rw [if_neg hp, if_pos q]
      have ez := zEx_yes h0 (show r.2 ≤ 200 by omega) h1 ((kc t hx0 hx1).mpr q)
      rw [er, ez]
      obtain ⟨g1, g2, g3⟩ := MZ_num t (z := upd z 0 (nI (r.2 + 1))) (a := r.2 + 1) (i := i) pk_us (by omega) (by rw [pk_un (by decide)]; exact h1) hi
      exact ⟨g1, fun j j0 j1 ji => by rw [g2 j j0 j1 ji, pk_un j0], g3⟩
    · have er : rs2 U pl r x (-1) = (-1, r.2) := by
        unfold rs2
        rw [if_neg hp, if_neg q]
      have ez := zEx_no (T := T) (pl := pl) h0 (show r.2 ≤ 200 by omega) (fun y => q ((kc t hx0 hx1).mp y))
      rw [er, ez]
      obtain ⟨g1, g2, g3⟩ := zN_bad (T := T) (pl := pl) (z := upd z 1 1) (a := r.2) (i := i) (by rw [pk_un (by decide)]; exact h0) (by omega) (by rw [pk_us]; decide) hi
      exact ⟨⟨Or.inr ⟨m1n, g2⟩, g1⟩, fun j j0 j1 ji => by rw [g3 j j0 j1 ji, pk_un j1], fun y => absurd m1n y⟩
  · have er : rs2 U pl r x (-1) = (-1, r.2) := by
      unfold rs2
      rw [if_pos hp]
    have ez := zEx_bad (T := T) (pl := pl) (x := x) h0 (show r.2 ≤ 200 by omega) h1
    rw [er, ez]
    obtain ⟨g1, g2, g3⟩ := zN_bad (T := T) (pl := pl) (z := upd z 1 1) (a := r.2) (i := i) (by rw [pk_un (by decide)]; exact h0) (by omega) (by rw [pk_us]; decide) hi
    exact ⟨⟨Or.inr ⟨m1n, g2⟩, g1⟩, fun j j0 j1 ji => by rw [g3 j j0 j1 ji, pk_un j1], fun y => absurd m1n y⟩
end TXT
