/-! an order, the fault, the orders of a text, alike in both -/
section TXT2
variable {T U : Nat → Int32} {pl : Nat}
theorem rs2_nn {r : Int32 × Nat} {x : Int32} (h : ¬ (rs2 U pl r x (-1)).1 < 0) : ¬ r.1 < 0 := fun y => h (by
  unfold rs2
  rw [if_pos y]
  exact m1n)
theorem tn_m1 (t : TX T U pl) {a : Nat} (h : (tnT U pl a).1 < 0) : (tnT U pl a).1 = -1 := by
  unfold tnT at h ⊢
  by_cases q : wI (chT U pl a - 48) 0 9
  · obtain ⟨d, _, d2, e1, e2, hlt⟩ := dig_val t (lo := 0) (by decide) q
    have et : tdT U pl a 0 = (nI d, a + 1) := by
      unfold tdT
      rw [if_pos q, e1]
    rw [et] at h ⊢
    exfalso
    by_cases c : ¬ (nI d, a + 1).1 ≤ 0 ∧ wI (chT U pl (nI d, a + 1).2) 48 57
    · rw [if_pos c] at h
      have q3 : wI (chT U pl (a + 1) - 48) 0 9 := by
        obtain ⟨w, w1, w2, we⟩ := wI_lit (a := 48) (b := 57) (by decide) (by decide) c.2
        have we' : chT U pl (a + 1) = nI w := we
        rw [we', show (48 : Int32) = nI 48 from rfl, pk_sub (by omega)]
        exact ⟨nI_pos (by omega), nI_nlt (a := 9) (b := w - 48) (by omega) (by decide)⟩
      obtain ⟨d', _, d2', e1', e2', hlt'⟩ := dig_val t (lo := 0) (by decide) q3
      have et' : tdT U pl (a + 1) 0 = (nI d', a + 1 + 1) := by
        unfold tdT
        rw [if_pos q3, e1']
      have h' : 10 * nI d + (tdT U pl (a + 1) 0).1 < 0 := h
      rw [et'] at h'
      have h'' : 10 * nI d + nI d' < 0 := h'
      rw [show (10 : Int32) = nI 10 from rfl, pk_mul, nI_add] at h''
      exact nI_pos (by omega) h''
    · rw [if_neg c] at h
      exact nI_pos (by omega) h
  · have et : tdT U pl a 0 = (-1, a) := by
      unfold tdT
      rw [if_neg q]
    rw [et, if_neg (fun y => y.1 (show (-1 : Int32) ≤ 0 by decide))]
/-- the row of the reader behind an order that may stand there -/
def GR (U : Nat → Int32) (pl a : Nat) (z : Nat → Int32) : Prop := z 1 = 0 ∧ z 0 = nI (roA U pl a) ∧ z 2 = chT U pl a ∧ (chT U pl a = 43 → z 3 = (tnT U pl (a + 1)).1 ∧ z 4 = (s2T U pl (a + 1)).1 ∧ z 5 = (s3T U pl (a + 1)).1 ∧ z 6 = (s4T U pl (a + 1)).1) ∧ (chT U pl a = 99 → z 3 = (tdT U pl (a + 1) 1).1 ∧ z 4 = (c2T U pl (a + 1)).1) ∧ (chT U pl a = 100 ∨ chT U pl a = 116 → z 3 = (tnT U pl (a + 1)).1)
theorem RO_all (t : TX T U pl) {z : Nat → Int32} {a : Nat} (h0 : z 0 = nI a) (ha : a ≤ 100) (h1 : z 1 = 0) : (roB U pl a = true → GR U pl a (zRO T pl z)) ∧ (¬ roB U pl a = true → ¬ zRO T pl z 1 = 0 ∧ zRO T pl z 0 = nI (roA U pl a)) := by
  have hz := z_at h0 (show a ≤ 200 by omega)
  have b0 : zB T pl z 0 = nI a := by unfold zB; rw [pk_un (by decide), pk_un (by decide)]; exact h0
  have b1 : zB T pl z 1 = 0 := by unfold zB; rw [pk_un (by decide), pk_un (by decide)]; exact h1
  have b2 : zB T pl z 2 = kAt T pl a := by unfold zB; rw [pk_un (by decide), pk_us, hz]
  have b6 : zB T pl z 6 = -6 := by unfold zB; rw [pk_us]
  have hzb := z_at b0 (show a ≤ 200 by omega)
  have hP : ∀ x : Int32, ¬ x = 0 → ¬ x = -1 → (zP T pl (zB T pl z) x ↔ chT U pl a = x) := fun x x0 x1 => by
    show (zB T pl z 1 = 0 ∧ kAt T pl (zA (zB T pl z)) = x) ↔ _
    rw [hzb, b1]
    exact ⟨fun y => (kc t x0 x1).mp y.2, fun y => ⟨rfl, (kc t x0 x1).mpr y⟩⟩
  have hTk : ∀ x : Int32, ¬ x = 0 → ¬ x = -1 → chT U pl a = x → zTk T pl (zB T pl z) x = upd (zB T pl z) 0 (nI (a + 1)) ∧ zB T pl z 2 = chT U pl a := fun x x0 x1 e => by
    have e' := (kc t x0 x1).mpr e
    exact ⟨zTk_yes b0 (by omega) b1 e', by rw [b2, e', e]⟩
  unfold zRO
  generalize zB T pl z = zb at b0 b1 b2 b6 hP hTk ⊢
  have ne : ∀ {x y : Int32}, ¬ x = y → chT U pl a = x → ¬ chT U pl a = y := fun h e e2 => h (e.symm.trans e2)
  by_cases c43 : chT U pl a = 43
  · obtain ⟨eT, e2⟩ := hTk 43 (by decide) (by decide) c43
    rw [if_pos ((hP 43 (by decide) (by decide)).mpr c43)]
    have hB : roB U pl a = decide (¬ (s3T U pl (a + 1)).1 < 0 ∧ ¬ (s4T U pl (a + 1)).1 = -1) := by unfold roB; rw [if_pos c43]
    have hA : roA U pl a = (s4T U pl (a + 1)).2 := by unfold roA; rw [if_pos c43]
    have l1 := tnT_le U pl (a + 1)
    have l2 := s2T_le U pl (a + 1)
    have l3 := s3T_le U pl (a + 1)
    have e3N : z3N T pl zb = zN T pl 5 (zEx T pl (zN T pl 4 (zEx T pl (zN T pl 3 (upd zb 0 (nI (a + 1)))) 44)) 44) := by rw [← eT]; rfl
    obtain ⟨M3, K3, V3⟩ := MZ_num t (z := upd zb 0 (nI (a + 1))) (a := a + 1) (i := 3) pk_us (by omega) (by rw [pk_un (by decide)]; exact b1) (by decide)
    generalize zN T pl 3 (upd zb 0 (nI (a + 1))) = A3 at e3N M3 K3 V3
    obtain ⟨M4, K4, V4⟩ := MZ_step t (x := 44) (i := 4) M3 (by omega) (by decide) (by decide) (by decide)
    have M4' : MZ (zN T pl 4 (zEx T pl A3 44)) (s2T U pl (a + 1)) := M4
    have V4' : ¬ (s2T U pl (a + 1)).1 < 0 → zN T pl 4 (zEx T pl A3 44) 4 = (s2T U pl (a + 1)).1 := V4
    have n4 : ¬ (s2T U pl (a + 1)).1 < 0 → ¬ (tnT U pl (a + 1)).1 < 0 := fun y => rs2_nn (U := U) (pl := pl) (x := 44) y
    generalize zN T pl 4 (zEx T pl A3 44) = A4 at e3N M4' K4 V4'
    obtain ⟨M5, K5, V5⟩ := MZ_step t (x := 44) (i := 5) M4' (by omega) (by decide) (by decide) (by decide)
    have M5' : MZ (zN T pl 5 (zEx T pl A4 44)) (s3T U pl (a + 1)) := M5
    have V5' : ¬ (s3T U pl (a + 1)).1 < 0 → zN T pl 5 (zEx T pl A4 44) 5 = (s3T U pl (a + 1)).1 := V5
    have n5 : ¬ (s3T U pl (a + 1)).1 < 0 → ¬ (s2T U pl (a + 1)).1 < 0 := fun y => rs2_nn (U := U) (pl := pl) (x := 44) y
    rw [← e3N] at M5' K5 V5'
    generalize z3N T pl zb = z3 at M5' K5 V5'
    have f2 : z3 2 = chT U pl a := by rw [K5 2 (by decide) (by decide) (by decide), K4 2 (by decide) (by decide) (by decide), K3 2 (by decide) (by decide) (by decide), pk_un (by decide)]; exact e2
    have f6 : z3 6 = -6 := by rw [K5 6 (by decide) (by decide) (by decide), K4 6 (by decide) (by decide) (by decide), K3 6 (by decide) (by decide) (by decide), pk_un (by decide)]; exact b6
    obtain ⟨hM5, h05⟩ := M5'
    have hz3 := z_at h05 (show (s3T U pl (a + 1)).2 ≤ 200 by omega)
    rcases hM5 with ⟨p5, o5⟩ | ⟨p5, o5⟩
    · have f3 : z3 3 = (tnT U pl (a + 1)).1 := by rw [K5 3 (by decide) (by decide) (by decide), K4 3 (by decide) (by decide) (by decide)]; exact V3 (n4 (n5 p5))
      have f4 : z3 4 = (s2T U pl (a + 1)).1 := by rw [K5 4 (by decide) (by decide) (by decide)]; exact V4' (n5 p5)
      have f5 := V5' p5
      by_cases q : chT U pl (s3T U pl (a + 1)).2 = 94
      · have q' := (kc t (by decide) (by decide)).mpr q
        have e4 : s4T U pl (a + 1) = tnT U pl ((s3T U pl (a + 1)).2 + 1) := by
          unfold s4T rs2
          rw [if_neg p5, if_pos q]
        rw [if_pos ⟨o5, by rw [hz3]; exact q'⟩, zTk_yes h05 (by omega) o5 q', hB, hA, e4]
        obtain ⟨⟨M6, h06⟩, K6, V6⟩ := MZ_num t (z := upd z3 0 (nI ((s3T U pl (a + 1)).2 + 1))) (a := (s3T U pl (a + 1)).2 + 1) (i := 6) pk_us (by omega) (by rw [pk_un (by decide)]; exact o5) (by decide)
        generalize zN T pl 6 (upd z3 0 (nI ((s3T U pl (a + 1)).2 + 1))) = z6 at M6 h06 K6 V6
        rcases M6 with ⟨p6, o6⟩ | ⟨p6, o6⟩
        · refine ⟨fun _ => ⟨o6, by rw [hA, e4]; exact h06, by rw [K6 2 (by decide) (by decide) (by decide), pk_un (by decide)]; exact f2, fun _ => ⟨?_, ?_, ?_, ?_⟩, fun y => absurd y (ne (by decide) c43), fun y => ?_⟩, fun y => ?_⟩
          · rw [K6 3 (by decide) (by decide) (by decide), pk_un (by decide)]; exact f3
          · rw [K6 4 (by decide) (by decide) (by decide), pk_un (by decide)]; exact f4
          · rw [K6 5 (by decide) (by decide) (by decide), pk_un (by decide)]; exact f5
          · rw [e4]; exact V6 p6
          · rcases y with y | y
            · exact absurd y (ne (by decide) c43)
            · exact absurd y (ne (by decide) c43)
          · exact absurd (decide_eq_true ⟨p5, fun y9 => p6 (by rw [y9]; exact m1n)⟩) y
        · refine ⟨fun y => ?_, fun _ => ⟨o6, h06⟩⟩
          exact absurd (tn_m1 t p6) (of_decide_eq_true y).2
      · have e4 : s4T U pl (a + 1) = (-6, (s3T U pl (a + 1)).2) := by
          unfold s4T rs2
          rw [if_neg p5, if_neg q]
        rw [if_neg (fun y => q ((kc t (by decide) (by decide)).mp (by have y2 := y.2; rw [hz3] at y2; exact y2))), hB, hA, e4]
        refine ⟨fun _ => ⟨o5, by rw [hA, e4]; exact h05, f2, fun _ => ⟨f3, f4, f5, by rw [e4]; exact f6⟩, fun y => absurd y (ne (by decide) c43), fun y => ?_⟩, fun y => ?_⟩
        · rcases y with y | y
          · exact absurd y (ne (by decide) c43)
          · exact absurd y (ne (by decide) c43)
        · exact absurd (decide_eq_true ⟨p5, show ¬ (-6 : Int32) = -1 by decide⟩) y
    · have e4 : s4T U pl (a + 1) = (-6, (s3T U pl (a + 1)).2) := by
        unfold s4T rs2
        rw [if_pos p5]
      rw [if_neg (fun y => o5 y.1), hB, hA, e4]
      refine ⟨fun y => ?_, fun _ => ⟨o5, h05⟩⟩
      exact absurd p5 (of_decide_eq_true y).1
  rw [if_neg (fun y => c43 ((hP 43 (by decide) (by decide)).mp y))]
  by_cases c99 : chT U pl a = 99
  · obtain ⟨eT, e2⟩ := hTk 99 (by decide) (by decide) c99
    have hB : roB U pl a = decide (¬ (c2T U pl (a + 1)).1 < 0) := by unfold roB; rw [if_neg c43, if_pos c99]
    have hA : roA U pl a = (c2T U pl (a + 1)).2 := by unfold roA; rw [if_neg c43, if_pos c99]
    rw [if_pos ((hP 99 (by decide) (by decide)).mpr c99), eT, hB, hA]
    have l1 := tdT_le U pl (a + 1) 1
    obtain ⟨M3, K3, V3⟩ := MZ_digit t (z := upd zb 0 (nI (a + 1))) (a := a + 1) (i := 3) pk_us (by omega) (by rw [pk_un (by decide)]; exact b1) (by decide)
    generalize zD T pl 3 (upd zb 0 (nI (a + 1))) = A3 at M3 K3 V3 ⊢
    obtain ⟨M4, K4, V4⟩ := MZ_step t (x := 36) (i := 4) M3 (by omega) (by decide) (by decide) (by decide)
    have M4' : MZ (zN T pl 4 (zEx T pl A3 36)) (c2T U pl (a + 1)) := M4
    have V4' : ¬ (c2T U pl (a + 1)).1 < 0 → zN T pl 4 (zEx T pl A3 36) 4 = (c2T U pl (a + 1)).1 := V4
    have n4 : ¬ (c2T U pl (a + 1)).1 < 0 → ¬ (tdT U pl (a + 1) 1).1 < 0 := fun y => rs2_nn (U := U) (pl := pl) (x := 36) y
    generalize zN T pl 4 (zEx T pl A3 36) = A4 at M4' K4 V4' ⊢
    obtain ⟨hM, h04⟩ := M4'
    rcases hM with ⟨p, o⟩ | ⟨p, o⟩
    · refine ⟨fun _ => ⟨o, by rw [hA]; exact h04, by rw [K4 2 (by decide) (by decide) (by decide), K3 2 (by decide) (by decide) (by decide), pk_un (by decide)]; exact e2, fun y => absurd y c43, fun _ => ⟨by rw [K4 3 (by decide) (by decide) (by decide)]; exact V3 (n4 p), V4' p⟩, fun y => ?_⟩, fun y => absurd (decide_eq_true p) y⟩
      rcases y with y | y
      · exact absurd y (ne (by decide) c99)
      · exact absurd y (ne (by decide) c99)
    · exact ⟨fun y => absurd p (of_decide_eq_true y), fun _ => ⟨o, h04⟩⟩
  rw [if_neg (fun y => c99 ((hP 99 (by decide) (by decide)).mp y))]
  have dt : ∀ x : Int32, chT U pl a = x → x = 100 ∨ x = 116 → (roB U pl a = true → GR U pl a (zN T pl 3 (zTk T pl zb x))) ∧ (¬ roB U pl a = true → ¬ zN T pl 3 (zTk T pl zb x) 1 = 0 ∧ zN T pl 3 (zTk T pl zb x) 0 = nI (roA U pl a)) := fun x cx hx => by
    have x0 : ¬ x = 0 := by rcases hx with e | e <;> (rw [e]; decide)
    have x1 : ¬ x = -1 := by rcases hx with e | e <;> (rw [e]; decide)
    have cd : chT U pl a = 100 ∨ chT U pl a = 116 := by rw [cx]; exact hx
    obtain ⟨eT, e2⟩ := hTk x x0 x1 cx
    have hB : roB U pl a = decide (¬ (tnT U pl (a + 1)).1 < 0) := by unfold roB; rw [if_neg c43, if_neg c99, if_pos cd]
    have hA : roA U pl a = (tnT U pl (a + 1)).2 := by unfold roA; rw [if_neg c43, if_neg c99, if_pos cd]
    rw [eT, hB, hA]
    obtain ⟨⟨M3, h03⟩, K3, V3⟩ := MZ_num t (z := upd zb 0 (nI (a + 1))) (a := a + 1) (i := 3) pk_us (by omega) (by rw [pk_un (by decide)]; exact b1) (by decide)
    generalize zN T pl 3 (upd zb 0 (nI (a + 1))) = A3 at M3 h03 K3 V3 ⊢
    rcases M3 with ⟨p, o⟩ | ⟨p, o⟩
    · exact ⟨fun _ => ⟨o, by rw [hA]; exact h03, by rw [K3 2 (by decide) (by decide) (by decide), pk_un (by decide)]; exact e2, fun y => absurd y c43, fun y => absurd y c99, fun _ => V3 p⟩, fun y => absurd (decide_eq_true p) y⟩
    · exact ⟨fun y => absurd p (of_decide_eq_true y), fun _ => ⟨o, h03⟩⟩
  by_cases c100 : chT U pl a = 100
  · rw [if_pos ((hP 100 (by decide) (by decide)).mpr c100)]
    exact dt 100 c100 (Or.inl rfl)
  rw [if_neg (fun y => c100 ((hP 100 (by decide) (by decide)).mp y))]
  by_cases c116 : chT U pl a = 116
  · rw [if_pos ((hP 116 (by decide) (by decide)).mpr c116)]
    exact dt 116 c116 (Or.inr rfl)
  rw [if_neg (fun y => c116 ((hP 116 (by decide) (by decide)).mp y))]
  have hn : ¬ (chT U pl a = 100 ∨ chT U pl a = 116) := fun y => by
    rcases y with y | y
    · exact c100 y
    · exact c116 y
  have hB : roB U pl a = decide (chT U pl a = 101) := by unfold roB; rw [if_neg c43, if_neg c99, if_neg hn]
  rw [hB]
  by_cases c101 : chT U pl a = 101
  · have e' := (kc t (by decide) (by decide)).mpr c101
    have hA : roA U pl a = a + 1 := by unfold roA; rw [if_neg c43, if_neg c99, if_neg hn, if_pos c101]
    rw [zEx_yes b0 (by omega) b1 e']
    refine ⟨fun _ => ⟨by rw [pk_un (by decide)]; exact b1, by rw [pk_us, hA], by rw [pk_un (by decide), b2, e', c101], fun y => absurd y c43, fun y => absurd y c99, fun y => absurd y hn⟩, fun y => absurd (decide_eq_true c101) y⟩
  · have hA : roA U pl a = a := by unfold roA; rw [if_neg c43, if_neg c99, if_neg hn, if_neg c101]
    rw [zEx_no b0 (by omega) (fun y => c101 ((kc t (by decide) (by decide)).mp y)), hA]
    exact ⟨fun y => absurd (of_decide_eq_true y) c101, fun _ => ⟨by rw [pk_us]; decide, by rw [pk_un (by decide)]; exact b0⟩⟩
/-! the fault -/
theorem GR_ok (hpl : pl ≤ 80) {z : Nat → Int32} {a : Nat} (h0 : z 0 = nI a) (ha : a ≤ pl) (h : GR U pl a (zRO T pl z)) : roA U pl a ≤ pl := by
  have hz : zOk pl z := by
    unfold zOk
    rw [z_at h0 (by omega)]
    exact ⟨h0, ha⟩
  have g := zRO_ok (T := T) hpl hz
  have e := h.2.1
  have := roA_le U pl a
  have g2 := g.2
  rw [z_at e (by omega)] at g2
  exact g2
theorem FF_eq (t : TX T U pl) (hpl : pl ≤ 80) : ∀ (k d a : Nat) (z : Nat → Int32), z 0 = nI a → z 1 = 0 → a ≤ pl → pl < a + 2 * k → pl - a < d → (if zFF T pl k z 1 ≠ 0 ∨ zA (zFF T pl k z) < pl then nI (zA (zFF T pl k z)) else -6) = ffT U pl d a
  | 0, _, a, _, _, _, ha, hk, _ => absurd hk (by omega)
  | k + 1, 0, _, _, _, _, _, _, hd => absurd hd (by omega)
  | k + 1, d + 1, a, z, h0, h1, ha, hk, hd => by
    obtain ⟨g1, g2⟩ := RO_all t h0 (by omega) h1
    unfold ffT
    show (if (if zP T pl (zRO T pl z) 59 then zFF T pl k (zTk T pl (zRO T pl z) 59) else zRO T pl z) 1 ≠ 0 ∨ zA (if zP T pl (zRO T pl z) 59 then zFF T pl k (zTk T pl (zRO T pl z) 59) else zRO T pl z) < pl then nI (zA (if zP T pl (zRO T pl z) 59 then zFF T pl k (zTk T pl (zRO T pl z) 59) else zRO T pl z)) else -6) = _
    have hro := roA_le U pl a
    by_cases q : roB U pl a = true
    · have G := g1 q
      have hle := GR_ok hpl h0 ha G
      have hgt := roA_gt q
      rw [if_pos q]
      have hzr := z_at G.2.1 (by omega)
      by_cases e : roA U pl a = pl
      · have hn : ¬ zP T pl (zRO T pl z) 59 := fun y => by
          have y2 := y.2
          rw [hzr] at y2
          unfold kAt at y2
          rw [if_neg (by omega)] at y2
          exact absurd y2 (by decide)
        rw [if_neg hn, if_pos e, if_neg]
        rintro (y | y)
        · exact y G.1
        · rw [hzr] at y
          omega
      · rw [if_neg e]
        by_cases w : chT U pl (roA U pl a) = 59
        · have w' := (kc t (by decide) (by decide)).mpr w
          rw [if_pos (show zP T pl (zRO T pl z) 59 from ⟨G.1, by rw [hzr]; exact w'⟩), if_pos w, zTk_yes G.2.1 (by omega) G.1 w']
          exact FF_eq t hpl k d (roA U pl a + 1) _ pk_us (by rw [pk_un (by decide)]; exact G.1) (by omega) (by omega) (by omega)
        · rw [if_neg (show ¬ zP T pl (zRO T pl z) 59 from fun y => w ((kc t (by decide) (by decide)).mp (by have y2 := y.2; rw [hzr] at y2; exact y2))), if_neg w, if_pos (Or.inr (by rw [hzr]; omega)), hzr]
    · obtain ⟨f1, f2⟩ := g2 q
      rw [if_neg q, if_neg (show ¬ zP T pl (zRO T pl z) 59 from fun y => f1 y.1), if_pos (Or.inl f1), z_at f2 (by omega)]
theorem vFF_eq (t : TX T U pl) (hpl : pl ≤ 80) (z : Nat → Int32) : vFF T pl z = ffT U pl 81 0 := FF_eq t hpl 80 81 0 (zS0 z) rfl rfl (Nat.zero_le _) (by omega) (by omega)
end TXT2
