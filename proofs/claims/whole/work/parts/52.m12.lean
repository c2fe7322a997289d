/-! carryOut of the reference: what holds from order to order is given by K, what at the end by Fin -/
set_option maxHeartbeats 4000000 in
set_option maxRecDepth 100000 in
theorem kX8_carryOut_bad (l : Launch) (G : hG) (q : Nat → Nat) (E : hF) (pl : Nat) (hpl : pl ≤ 80) (h61 : E 6 1 = nI pl) (hff : ¬ ffT (E 5) pl 81 0 = -6) : hM l G yX8_carryOut wsX8_carryOut ({ frames := 9, cells := 0, slots := 0, locals := 240 }) (mW G q E) [.ref (q 0)] (fun v w => v = some (.int (-3)) ∧ ∃ z' : Nat → Int32, z' 0 = E 6 0 ∧ z' 1 = E 6 1 ∧ w = mW G q (fr E 6 z')) := by
  refine hM_of (cc := cX8_carryOut) (maxL := 3) (ret := (some .int)) (by decide) rfl (Nat.le_of_ble_eq_true rfl) ?_
  intro pp ee ss mm aa bb me cd X hin
  have iX8 : ∀ w ∈ wsX80, w ∈ wsX8_carryOut := by decide +kernel
  refine hV_to (ws' := mW G q (fr E 6 (E 6))) (congrArg (mW G q) (fr_self E 6)) rfl rfl ?_
  refine haload_n X dX8_carryOut_0 rfl ?_
  refine hcallV0e (C := RX8) (T := TX8) (N := 14) (As := []) (rest := []) X (q0 := 0) (kX8_findFault l G q E (E 6) pl hpl h61) gX8_carryOut_X8_findFault rfl (n := 0) (by decide +kernel) (by decide) rfl rfl rfl rfl (Nat.le_of_ble_eq_true rfl) dX8_carryOut_1 rfl rfl (by decide) ?_
  rintro _ _ ⟨rfl, y1, hy0, hy1, rfl⟩
  refine hV_st (st' := [.int (ffT (E 5) pl 81 0)]) rfl ?_
  refine hbipush (v := (-6)) X dX8_carryOut_4 rfl ?_
  refine hicmp_eq (tgt := 12) X dX8_carryOut_6 (by decide) (fun c1 => ?_) (fun c1 => ?_)
  · exact absurd c1 hff
  · refine hbipush (v := (-3)) X dX8_carryOut_9 rfl ?_
    exact hiret X dX8_carryOut_11 ⟨rfl, y1, hy0, hy1, rfl⟩

set_option maxHeartbeats 4000000 in
set_option maxRecDepth 100000 in
theorem kX8_carryOut_ok (l : Launch) (G : hG) (q : Nat → Nat) (E : hF) (pl r : Nat) (hpl : pl ≤ 80) (hr : r ≤ 6) (h60 : E 6 0 = nI r) (h61 : E 6 1 = nI pl) (hff : ffT (E 5) pl 81 0 = -6) (K : Nat → Nat → hF → Prop) (Fin : Nat → hF → Prop) (K0 : ∀ E0 : hF, E0 0 = E 0 → K 0 0 E0) (Kdo : ∀ (k a : Nat) (E1 : hF) (y : Nat → Int32), K k a E1 → a < pl → (y 3 = chT (E 5) pl a → (chT (E 5) pl a = 43 → y 4 = (tnT (E 5) pl (a + 1)).1 ∧ y 5 = (s2T (E 5) pl (a + 1)).1 ∧ y 6 = (s3T (E 5) pl (a + 1)).1 ∧ y 7 = (s4T (E 5) pl (a + 1)).1) → (chT (E 5) pl a = 99 → y 4 = (tdT (E 5) pl (a + 1) 1).1 ∧ y 5 = (c2T (E 5) pl (a + 1)).1) → (chT (E 5) pl a = 100 ∨ chT (E 5) pl a = 116 → y 4 = (tnT (E 5) pl (a + 1)).1) → roB (E 5) pl a = true ∧ ∃ n c, mOk n c E1 ∧ (wnd (fr E1 6 y) = 0 → ∀ E2 : hF, E2 0 = dsE n c (fr E1 6 y) 0 → K (k + 1) (nxA (E 5) pl (roA (E 5) pl a) 59) E2) ∧ (¬ wnd (fr E1 6 y) = 0 → ∀ E2 : hF, E2 0 = E1 0 → Fin k E2))) (Ke : ∀ (k a : Nat) (E1 : hF), K k a E1 → ¬ a < pl → ∀ E2 : hF, E2 0 = E1 0 → Fin k E2) : hM l G yX8_carryOut wsX8_carryOut ({ frames := 9, cells := 0, slots := 0, locals := 240 }) (mW G q E) [.ref (q 0)] (fun v w => ∃ (k : Nat) (E' : hF), v = some (.int (nI k)) ∧ Fin k E' ∧ (∀ j, j ≠ 0 → j ≠ 6 → E' j = recE E r j) ∧ E' 6 0 = (if r = 6 then 6 else nI r + 1) ∧ E' 6 1 = 0 ∧ w = mW G q E') := by
  refine hM_of (cc := cX8_carryOut) (maxL := 3) (ret := (some .int)) (by decide) rfl (Nat.le_of_ble_eq_true rfl) ?_
  intro pp ee ss mm aa bb me cd X hin
  have iX8 : ∀ w ∈ wsX80, w ∈ wsX8_carryOut := by decide +kernel
  have Z : ∀ (k : Nat) (b : Int32) (E1 : hF) (z1 : Nat → Int32), (∀ E2 : hF, E2 0 = E1 0 → Fin k E2) → (∀ j, j ≠ 0 → j ≠ 6 → E1 j = recE E r j) → z1 0 = (if r = 6 then 6 else nI r + 1) → hV pp l ee ({ frames := 9, cells := 0, slots := 0, locals := 240 }) ss mm aa bb me cd G (va_A (mW G q E) ss.heap.size) 3 0 0 (MQ bb (hQc G (mW G q E) ss.heap.size (fun v w => ∃ (k : Nat) (E' : hF), v = some (.int (nI k)) ∧ Fin k E' ∧ (∀ j, j ≠ 0 → j ≠ 6 → E' j = recE E r j) ∧ E' 6 0 = (if r = 6 then 6 else nI r + 1) ∧ E' 6 1 = 0 ∧ w = mW G q E')) aa ss 0 0 (va_A (mW G q E) ss.heap.size)) (mW G q (fr E1 6 z1)) 79 [(2, .int b), (1, .int (nI k)), (0, .ref (q 0))] [] := by
    intro k b E1 z1 hF hrow hz0
    refine haload_n X dX8_carryOut_79 rfl ?_
    refine hiconst (v := 0) X dX8_carryOut_80 rfl ?_
    refine hput1 X (T := TX8) (N := 14) iX8 tyX8 tyX8_ok nmX8 0 rfl rfl 7 (by decide) (by decide +kernel) (by decide +kernel) rfl rfl (Nat.le_of_ble_eq_true rfl) dX8_carryOut_81 (ws' := mW G q (fr E1 6 (upd z1 1 0))) (mWg7 G q _ _ _) ?_
    refine hiload_n X dX8_carryOut_84 rfl ?_
    exact hiret X dX8_carryOut_85 ⟨k, fr E1 6 (upd z1 1 0), rfl, hF _ (fr_ne _ _ (by decide)), fun j h0 h6 => by rw [fr_ne _ _ h6]; exact hrow j h0 h6, by rw [fr_same, pk_un (by decide)]; exact hz0, by rw [fr_same, pk_us], rfl⟩
  have L : ∀ (d k a : Nat) (E1 : hF) (z1 : Nat → Int32), K k a E1 → (∀ j, j ≠ 0 → j ≠ 6 → E1 j = recE E r j) → z1 0 = (if r = 6 then 6 else nI r + 1) → z1 1 = nI pl → z1 2 = nI a → a ≤ 200 → 200 - a < d → hV pp l ee ({ frames := 9, cells := 0, slots := 0, locals := 240 }) ss mm aa bb me cd G (va_A (mW G q E) ss.heap.size) 3 0 0 (MQ bb (hQc G (mW G q E) ss.heap.size (fun v w => ∃ (k : Nat) (E' : hF), v = some (.int (nI k)) ∧ Fin k E' ∧ (∀ j, j ≠ 0 → j ≠ 6 → E' j = recE E r j) ∧ E' 6 0 = (if r = 6 then 6 else nI r + 1) ∧ E' 6 1 = 0 ∧ w = mW G q E')) aa ss 0 0 (va_A (mW G q E) ss.heap.size)) (mW G q (fr E1 6 z1)) 25 [(2, .int 1), (1, .int (nI k)), (0, .ref (q 0))] [] := by
    intro d
    induction d with
    | zero =>
      intro k a E1 z1 hK hrow hz0 hz1 hz2 ha hd0
      exact absurd hd0 (Nat.not_lt_zero _)
    | succ d ih =>
      intro k a E1 z1 hK hrow hz0 hz1 hz2 ha hd0
      refine hiload_n X dX8_carryOut_25 rfl ?_
      refine hif_eq (tgt := 79) X dX8_carryOut_26 (by decide) (fun c9 => absurd c9 (by decide)) (fun c9 => ?_)
      refine haload_n X dX8_carryOut_29 rfl ?_
      refine hget1 X (T := TX8) (N := 14) iX8 0 rfl rfl 8 (by decide) (by decide +kernel) rfl dX8_carryOut_30 ?_
      refine hV_st (st' := [.int (nI a)]) (congrArg (fun v9 => [Value.int v9]) (show fr E1 6 z1 6 2 = nI a by rw [fr_same]; exact hz2)) ?_
      refine haload_n X dX8_carryOut_33 rfl ?_
      refine hget1 X (T := TX8) (N := 14) iX8 0 rfl rfl 7 (by decide) (by decide +kernel) rfl dX8_carryOut_34 ?_
      refine hV_st (st' := [.int (nI pl), .int (nI a)]) (congrArg (fun v9 => [Value.int v9, .int (nI a)]) (show fr E1 6 z1 6 1 = nI pl by rw [fr_same]; exact hz1)) ?_
      refine hicmp_ge (tgt := 79) X dX8_carryOut_37 (by decide) (fun c8 => ?_) (fun c8 => ?_)
      · have hn : ¬ a < pl := by
          have := (nI_leI (by omega) (by omega)).mp c8
          omega
        exact Z k 1 E1 z1 (Ke k a E1 hK hn) hrow hz0
      · have hlt : a < pl := Nat.lt_of_not_le fun z9 => c8 ((nI_leI (by omega) (by omega)).mpr z9)
        have e5 : E1 5 = E 5 := (hrow 5 (by decide) (by decide)).trans (recE_ne E r (by decide) (by decide))
        refine haload_n X dX8_carryOut_40 rfl ?_
        refine hcallV0e (C := RX8) (T := TX8) (N := 14) (As := []) (rest := []) X (q0 := 0) (kX8_readsOrder l G q E1 z1 pl a hpl hz1 hz2 (by omega)) gX8_carryOut_X8_readsOrder rfl (n := 0) (by decide +kernel) (by decide) rfl rfl rfl rfl (Nat.le_of_ble_eq_true rfl) dX8_carryOut_41 rfl rfl (by decide) ?_
        rintro _ _ ⟨rfl, y, hy0, hy1, hy2, hy3, hyA, hyB, hyC, rfl⟩
        rw [e5] at hy2 hy3 hyA hyB hyC
        refine hV_st (st' := [.int (bI (roB (E1 5) pl a = true))]) rfl ?_
        refine hpop X dX8_carryOut_44 rfl ?_
        have hro := roA_le (E 5) pl a
        refine haload_n X dX8_carryOut_45 rfl ?_
        refine hbipush (v := 59) X dX8_carryOut_46 rfl ?_
        refine hcallV0 (C := RX8) (T := TX8) (N := 14) (As := [.int 59]) (rest := []) (st' := [.int (bI (chT (E1 5) pl (roA (E 5) pl a) = 59))]) (w := mW G q (fr E1 6 (upd y 2 (nI (nxA (E1 5) pl (roA (E 5) pl a) 59))))) X (q0 := 0) (kX8_isNext l G q E1 y pl (roA (E 5) pl a) 59 hpl (hy1.trans hz1) hy2 (by omega)) gX8_carryOut_X8_isNext rfl (n := 1) (by decide +kernel) (by decide) rfl rfl rfl rfl (Nat.le_of_ble_eq_true rfl) dX8_carryOut_48 rfl rfl (by decide) rfl ?_
        refine hpop X dX8_carryOut_51 rfl ?_
        rw [e5]
        generalize hy9 : upd y 2 (nI (nxA (E 5) pl (roA (E 5) pl a) 59)) = y2
        have g0 : y2 0 = z1 0 := by rw [← hy9, pk_un (by decide)]; exact hy0
        have g1 : y2 1 = nI pl := by rw [← hy9, pk_un (by decide)]; exact hy1.trans hz1
        have g2 : y2 2 = nI (nxA (E 5) pl (roA (E 5) pl a) 59) := by rw [← hy9, pk_us]
        have g3 : y2 3 = y 3 := by rw [← hy9, pk_un (by decide)]
        have g4 : y2 4 = y 4 := by rw [← hy9, pk_un (by decide)]
        have g5 : y2 5 = y 5 := by rw [← hy9, pk_un (by decide)]
        have g6 : y2 6 = y 6 := by rw [← hy9, pk_un (by decide)]
        have g7 : y2 7 = y 7 := by rw [← hy9, pk_un (by decide)]
        obtain ⟨hB, n, c, hm, kt, kf⟩ := Kdo k a E1 y2 hK hlt (g3.trans hy3) (fun w9 => by rw [g4, g5, g6, g7]; exact hyA w9) (fun w9 => by rw [g4, g5]; exact hyB w9) (fun w9 => by rw [g4]; exact hyC w9)
        have hm2 : mOk n c (fr E1 6 y2) := hm.of0 (fr_ne _ _ (by decide))
        have hgt := roA_gt hB
        have hnx : roA (E 5) pl a ≤ nxA (E 5) pl (roA (E 5) pl a) 59 ∧ nxA (E 5) pl (roA (E 5) pl a) 59 ≤ roA (E 5) pl a + 1 := by unfold nxA; split <;> omega
        refine haload_n X dX8_carryOut_52 rfl ?_
        refine hcallV0 (C := RX8) (T := TX8) (N := 14) (As := []) (rest := []) (st' := [.int (wnd (fr E1 6 y2))]) (w := mW G q (fr E1 6 y2)) X (q0 := 0) (kX8_whyNotDone l G q (fr E1 6 y2) n c hm2) gX8_carryOut_X8_whyNotDone rfl (n := 0) (by decide +kernel) (by decide) rfl rfl rfl rfl (Nat.le_of_ble_eq_true rfl) dX8_carryOut_53 rfl rfl (by decide) rfl ?_
        refine hif_ne (tgt := 63) X dX8_carryOut_56 (by decide) (fun c7 => ?_) (fun c7 => ?_)
        · refine hiconst (v := 0) X dX8_carryOut_63 rfl ?_
          refine histore_n (lv' := [(2, .int 0), (1, .int (nI k)), (0, .ref (q 0))]) X dX8_carryOut_64 (by decide) rfl ?_
          refine hiload_n X dX8_carryOut_65 rfl ?_
          refine hif_eq (tgt := 25) X dX8_carryOut_66 (by decide) (fun c6 => ?_) (fun c6 => absurd rfl c6)
          refine hiload_n X dX8_carryOut_25 rfl ?_
          refine hif_eq (tgt := 79) X dX8_carryOut_26 (by decide) (fun c5 => ?_) (fun c5 => absurd rfl c5)
          exact Z k 0 E1 y2 (kf c7) hrow (g0.trans hz0)
        · have hw : wnd (fr E1 6 y2) = 0 := c7
          refine hiconst (v := 1) X dX8_carryOut_59 rfl ?_
          refine hgoto (tgt := 64) X dX8_carryOut_60 (by decide) ?_
          refine histore_n (lv' := [(2, .int 1), (1, .int (nI k)), (0, .ref (q 0))]) X dX8_carryOut_64 (by decide) rfl ?_
          refine hiload_n X dX8_carryOut_65 rfl ?_
          refine hif_eq (tgt := 25) X dX8_carryOut_66 (by decide) (fun c6 => absurd c6 (by decide)) (fun c6 => ?_)
          refine haload_n X dX8_carryOut_69 rfl ?_
          refine hcallV0 (C := RX8) (T := TX8) (N := 14) (As := []) (rest := []) (st' := []) (w := mW G q (dsE n c (fr E1 6 y2))) X (q0 := 0) (kX8_does l G q (fr E1 6 y2) n c hm2 hw) gX8_carryOut_X8_does rfl (n := 0) (by decide +kernel) (by decide) rfl rfl rfl rfl (Nat.le_of_ble_eq_true rfl) dX8_carryOut_70 rfl rfl (by decide) rfl ?_
          refine hiinc (v := nI (k + 1)) (lv' := [(1, .int (nI (k + 1))), (2, .int 1), (0, .ref (q 0))]) X dX8_carryOut_73 rfl (nI_1 _) (by decide) rfl ?_
          refine hgoto (tgt := 25) X dX8_carryOut_76 (by decide) ?_
          have hs := sr_dsE n c (fr E1 6 y2)
          have e6 : dsE n c (fr E1 6 y2) 6 = y2 := (hs 6 (by decide)).trans (fr_same _ _ _)
          refine hV_to (ws' := mW G q (fr (dsE n c (fr E1 6 y2)) 6 y2)) (lv' := [(1, .int (nI (k + 1))), (2, .int 1), (0, .ref (q 0))]) (st' := []) (congrArg (mW G q) (by have g := fr_self (dsE n c (fr E1 6 y2)) 6; rw [e6] at g; exact g)) rfl rfl ?_
          refine hV_lv (lv' := [(2, .int 1), (1, .int (nI (k + 1))), (0, .ref (q 0))]) [1, 0, 2] rfl ?_
          exact ih (k + 1) _ _ y2 (kt hw _ rfl) (fun j h0 h6 => by rw [hs j h0, fr_ne _ _ h6]; exact hrow j h0 h6) (g0.trans hz0) g1 g2 (by omega) (by omega)
  refine hV_to (ws' := mW G q (fr E 6 (E 6))) (congrArg (mW G q) (fr_self E 6)) rfl rfl ?_
  refine haload_n X dX8_carryOut_0 rfl ?_
  refine hcallV0e (C := RX8) (T := TX8) (N := 14) (As := []) (rest := []) X (q0 := 0) (kX8_findFault l G q E (E 6) pl hpl h61) gX8_carryOut_X8_findFault rfl (n := 0) (by decide +kernel) (by decide) rfl rfl rfl rfl (Nat.le_of_ble_eq_true rfl) dX8_carryOut_1 rfl rfl (by decide) ?_
  rintro _ _ ⟨rfl, y1, hy0, hy1, rfl⟩
  refine hV_st (st' := [.int (ffT (E 5) pl 81 0)]) rfl ?_
  refine hbipush (v := (-6)) X dX8_carryOut_4 rfl ?_
  refine hicmp_eq (tgt := 12) X dX8_carryOut_6 (by decide) (fun c1 => ?_) (fun c1 => ?_)
  · refine haload_n X dX8_carryOut_12 rfl ?_
    have hb60 : fr E 6 y1 6 0 = nI r := by rw [fr_same]; exact hy0.trans h60
    refine hcallV0 (C := RX8) (T := TX8) (N := 14) (As := []) (rest := []) (st' := []) (w := mW G q (recE (fr E 6 y1) r)) X (q0 := 0) (kX8_record l G q (fr E 6 y1) r hr hb60) gX8_carryOut_X8_record rfl (n := 0) (by decide +kernel) (by decide) rfl rfl rfl rfl (Nat.le_of_ble_eq_true rfl) dX8_carryOut_13 rfl rfl (by decide) rfl ?_
    have e6i : ∀ i, i ≠ 0 → recE (fr E 6 y1) r 6 i = y1 i := fun i hi => by rw [recE_6 _ _ hi, fr_same]
    refine hiconst (v := 0) X dX8_carryOut_16 rfl ?_
    refine histore_n (lv' := [(1, .int 0), (0, .ref (q 0))]) X dX8_carryOut_17 (by decide) rfl ?_
    refine haload_n X dX8_carryOut_18 rfl ?_
    refine hiconst (v := 0) X dX8_carryOut_19 rfl ?_
    refine hV_to (ws' := mW G q (fr (recE (fr E 6 y1) r) 6 (recE (fr E 6 y1) r 6))) (lv' := [(1, .int 0), (0, .ref (q 0))]) (st' := [.int 0, .ref (q 0)]) (congrArg (mW G q) (fr_self _ 6)) rfl rfl ?_
    refine hput1 X (T := TX8) (N := 14) iX8 tyX8 tyX8_ok nmX8 0 rfl rfl 8 (by decide) (by decide +kernel) (by decide +kernel) rfl rfl (Nat.le_of_ble_eq_true rfl) dX8_carryOut_20 (ws' := mW G q (fr (recE (fr E 6 y1) r) 6 (upd (recE (fr E 6 y1) r 6) 2 0))) (mWg8 G q _ _ _) ?_
    refine hiconst (v := 1) X dX8_carryOut_23 rfl ?_
    refine histore_n (lv' := [(2, .int 1), (1, .int 0), (0, .ref (q 0))]) X dX8_carryOut_24 (by decide) rfl ?_
    exact L 201 0 0 _ _ (K0 _ (by rw [recE_0]; exact fr_ne _ _ (by decide))) (fun j h0 h6 => recE_fr h6) (by rw [pk_un (by decide), recE_60]) (by rw [pk_un (by decide), e6i 1 (by decide)]; exact hy1.trans h61) (by rw [pk_us]; rfl) (by decide) (by decide)
  · exact absurd hff c1
