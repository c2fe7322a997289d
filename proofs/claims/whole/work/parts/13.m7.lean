set_option maxHeartbeats 4000000 in
set_option maxRecDepth 100000 in
theorem kX8_character (l : Launch) (G : hG) (q : Nat → Nat) (E : hF) (z : Nat → Int32) (pl a : Nat) (hpl : pl ≤ 80) (h1 : z 1 = nI pl) (ha : a < 2 ^ 30) : hM l G yX8_character wsX8_character ({ frames := 1, cells := 0, slots := 0, locals := 40 }) (mW G q (fr E 6 z)) [.ref (q 0), .int (nI a)] (hR (some (.int (chT (E 5) pl a))) (mW G q (fr E 6 z))) := by
  refine hM_of (cc := cX8_character) (maxL := 2) (ret := (some .int)) (by decide) rfl (Nat.le_of_ble_eq_true rfl) ?_
  intro pp ee ss mm aa bb me cd X hin
  have iX8 : ∀ w ∈ wsX80, w ∈ wsX8_character := by decide +kernel
  refine hiload_n X dX8_character_0 rfl ?_
  refine haload_n X dX8_character_1 rfl ?_
  refine hget1 X (T := TX8) (N := 14) iX8 0 rfl rfl 7 (by decide) (by decide +kernel) rfl dX8_character_2 ?_
  have r1 : ((fr E 6 z) 6 1 : Int32) = z 1 := by rw [fr_same]
  refine hV_st (st' := [.int (z 1), .int (nI a)]) (congrArg (fun z => Value.int z :: [.int (nI a)]) r1) ?_
  refine hV_st (st' := [.int (nI pl), .int (nI a)]) (congrArg (fun z => Value.int z :: [.int (nI a)]) h1) ?_
  refine hicmp_ge (tgt := 17) X dX8_character_5 (by decide) (fun c2 => ?_) (fun c2 => ?_)
  · have hge : ¬ a < pl := Nat.not_lt.mpr ((nI_leI (a := pl) (b := a) (by omega) (by omega)).mp c2)
    refine hiconst (v := (-1)) X dX8_character_17 rfl ?_
    refine hiret X dX8_character_18 ⟨congrArg (fun z => some (Value.int z)) (?_ : (-1) = chT (E 5) pl a), ?_⟩
    · first | (simp [chT, hlt]; done) | (simp [chT, hge]; done)
    rfl
  · have hlt : a < pl := Nat.lt_of_not_le fun z9 => c2 ((nI_leI (a := pl) (b := a) (by omega) (by omega)).mpr z9)
    refine haload_n X dX8_character_8 rfl ?_
    refine hget1 X (T := TX8) (N := 14) iX8 0 rfl rfl 6 (by decide) (by decide +kernel) rfl dX8_character_9 ?_
    refine hiload_n X dX8_character_12 rfl ?_
    refine hiald (n := 80) (f := (fr E 6 z) 5) X 6 rfl a rfl (by omega) (by decide) dX8_character_13 ?_
    have r3 : ((fr E 6 z) 5 a : Int32) = E 5 a := by rw [fr_ne _ _ (by decide)]
    refine hV_st (st' := [.int (E 5 a)]) (congrArg (fun z => Value.int z :: []) r3) ?_
    refine hgoto (tgt := 18) X dX8_character_14 (by decide) ?_
    refine hiret X dX8_character_18 ⟨congrArg (fun z => some (Value.int z)) (?_ : (E 5 a) = chT (E 5) pl a), ?_⟩
    · first | (simp [chT, hlt]; done) | (simp [chT, hge]; done)
    rfl

set_option maxHeartbeats 4000000 in
set_option maxRecDepth 100000 in
theorem kX8_isNext (l : Launch) (G : hG) (q : Nat → Nat) (E : hF) (z : Nat → Int32) (pl a : Nat) (x : Int32) (hpl : pl ≤ 80) (h1 : z 1 = nI pl) (h2 : z 2 = nI a) (ha : a < 2 ^ 30) : hM l G yX8_isNext wsX8_isNext ({ frames := 2, cells := 0, slots := 0, locals := 61 }) (mW G q (fr E 6 z)) [.ref (q 0), .int x] (hR (some (.int (bI (chT (E 5) pl a = x)))) (mW G q (fr E 6 (upd z 2 (nI (nxA (E 5) pl a x)))))) := by
  refine hM_of (cc := cX8_isNext) (maxL := 3) (ret := (some .boolean)) (by decide) rfl (Nat.le_of_ble_eq_true rfl) ?_
  intro pp ee ss mm aa bb me cd X hin
  have iX8 : ∀ w ∈ wsX80, w ∈ wsX8_isNext := by decide +kernel
  refine haload_n X dX8_isNext_0 rfl ?_
  refine haload_n X dX8_isNext_1 rfl ?_
  refine hget1 X (T := TX8) (N := 14) iX8 0 rfl rfl 8 (by decide) (by decide +kernel) rfl dX8_isNext_2 ?_
  have r1 : ((fr E 6 z) 6 2 : Int32) = z 2 := by rw [fr_same]
  refine hV_st (st' := [.int (z 2), .ref (q 0)]) (congrArg (fun z => Value.int z :: [.ref (q 0)]) r1) ?_
  refine hV_st (st' := [.int (nI a), .ref (q 0)]) (congrArg (fun z => Value.int z :: [.ref (q 0)]) h2) ?_
  refine hcallV0 (C := RX8) (T := TX8) (N := 14) (As := [.int (nI a)]) (rest := []) (st' := [.int (chT (E 5) pl a)]) (w := mW G q (fr E 6 z)) X (q0 := 0) (kX8_character l G q E z pl a (hpl) (h1) (by omega)) gX8_isNext_X8_character rfl (n := 1) (by decide +kernel) (by decide) rfl rfl rfl rfl (Nat.le_of_ble_eq_true rfl) dX8_isNext_5 rfl rfl (by decide) rfl ?_
  refine hiload_n X dX8_isNext_8 rfl ?_
  refine hicmp_ne (tgt := 16) X dX8_isNext_9 (by decide) (fun c2 => ?_) (fun c2 => ?_)
  · refine hiconst (v := 0) X dX8_isNext_16 rfl ?_
    refine histore_n (lv' := [(2, .int 0), (0, .ref (q 0)), (1, .int x)]) X dX8_isNext_17 (by decide) rfl ?_
    refine haload_n X dX8_isNext_18 rfl ?_
    refine hdup X dX8_isNext_19 rfl ?_
    refine hget1 X (T := TX8) (N := 14) iX8 0 rfl rfl 8 (by decide) (by decide +kernel) rfl dX8_isNext_20 ?_
    have r3 : ((fr E 6 z) 6 2 : Int32) = z 2 := by rw [fr_same]
    refine hV_st (st' := [.int (z 2), .ref (q 0)]) (congrArg (fun z => Value.int z :: [.ref (q 0)]) r3) ?_
    refine hV_st (st' := [.int (nI a), .ref (q 0)]) (congrArg (fun z => Value.int z :: [.ref (q 0)]) h2) ?_
    refine hiload_n X dX8_isNext_23 rfl ?_
    refine hif_eq (tgt := 31) X dX8_isNext_24 (by decide) (fun c4 => ?_) (fun c4 => ?_)
    rotate_left
    · exact absurd (by decide) c4
    refine hiconst (v := 0) X dX8_isNext_31 rfl ?_
    refine hiadd X dX8_isNext_32 ?_
    refine hV_st (st' := [.int (nI (a + 0)), .ref (q 0)]) (congrArg (fun z => Value.int z :: [.ref (q 0)]) (nadd rfl rfl)) ?_
    refine hput1 X (T := TX8) (N := 14) iX8 tyX8 tyX8_ok nmX8 0 rfl rfl 8 (by decide) (by decide +kernel) (by decide +kernel) rfl rfl (Nat.le_of_ble_eq_true rfl) dX8_isNext_33 (ws' := mW G q (fr E 6 (upd z 2 (nI (a + 0))))) (mWg8 G q _ _ _) ?_
    refine hiload_n X dX8_isNext_36 rfl ?_
    refine hzret X rfl dX8_isNext_37 ⟨congrArg (fun z => some (Value.int z)) (?_ : 0 = bI (chT (E 5) pl a = x)), ?_⟩
    · simp [bI, c2]
    refine congrArg (mW G q) (?_ : (fr E 6 (upd z 2 (nI (a + 0))) : hF) = fr E 6 (upd z 2 (nI (nxA (E 5) pl a x))))
    simp [nxA, nI_1, c2]
  · refine hiconst (v := 1) X dX8_isNext_12 rfl ?_
    refine hgoto (tgt := 17) X dX8_isNext_13 (by decide) ?_
    refine histore_n (lv' := [(2, .int 1), (0, .ref (q 0)), (1, .int x)]) X dX8_isNext_17 (by decide) rfl ?_
    refine haload_n X dX8_isNext_18 rfl ?_
    refine hdup X dX8_isNext_19 rfl ?_
    refine hget1 X (T := TX8) (N := 14) iX8 0 rfl rfl 8 (by decide) (by decide +kernel) rfl dX8_isNext_20 ?_
    have r5 : ((fr E 6 z) 6 2 : Int32) = z 2 := by rw [fr_same]
    refine hV_st (st' := [.int (z 2), .ref (q 0)]) (congrArg (fun z => Value.int z :: [.ref (q 0)]) r5) ?_
    refine hV_st (st' := [.int (nI a), .ref (q 0)]) (congrArg (fun z => Value.int z :: [.ref (q 0)]) h2) ?_
    refine hiload_n X dX8_isNext_23 rfl ?_
    refine hif_eq (tgt := 31) X dX8_isNext_24 (by decide) (fun c6 => ?_) (fun c6 => ?_)
    · exact absurd c6 (by decide)
    refine hiconst (v := 1) X dX8_isNext_27 rfl ?_
    refine hgoto (tgt := 32) X dX8_isNext_28 (by decide) ?_
    refine hiadd X dX8_isNext_32 ?_
    refine hV_st (st' := [.int (nI (a + 1)), .ref (q 0)]) (congrArg (fun z => Value.int z :: [.ref (q 0)]) (nadd rfl rfl)) ?_
    refine hput1 X (T := TX8) (N := 14) iX8 tyX8 tyX8_ok nmX8 0 rfl rfl 8 (by decide) (by decide +kernel) (by decide +kernel) rfl rfl (Nat.le_of_ble_eq_true rfl) dX8_isNext_33 (ws' := mW G q (fr E 6 (upd z 2 (nI (a + 1))))) (mWg8 G q _ _ _) ?_
    refine hiload_n X dX8_isNext_36 rfl ?_
    refine hzret X rfl dX8_isNext_37 ⟨congrArg (fun z => some (Value.int z)) (?_ : 1 = bI (chT (E 5) pl a = x)), ?_⟩
    · simp [bI, c2]
    refine congrArg (mW G q) (?_ : (fr E 6 (upd z 2 (nI (a + 1))) : hF) = fr E 6 (upd z 2 (nI (nxA (E 5) pl a x))))
    simp [nxA, nI_1, c2]

set_option maxHeartbeats 4000000 in
set_option maxRecDepth 100000 in
theorem kX8_takeDigit (l : Launch) (G : hG) (q : Nat → Nat) (E : hF) (z : Nat → Int32) (pl a : Nat) (x : Int32) (hpl : pl ≤ 80) (h1 : z 1 = nI pl) (h2 : z 2 = nI a) (ha : a < 2 ^ 30) : hM l G yX8_takeDigit wsX8_takeDigit ({ frames := 2, cells := 0, slots := 0, locals := 62 }) (mW G q (fr E 6 z)) [.ref (q 0), .int x] (hR (some (.int ((tdT (E 5) pl a x).1))) (mW G q (fr E 6 (upd z 2 (nI (tdT (E 5) pl a x).2))))) := by
  refine hM_of (cc := cX8_takeDigit) (maxL := 3) (ret := (some .int)) (by decide) rfl (Nat.le_of_ble_eq_true rfl) ?_
  intro pp ee ss mm aa bb me cd X hin
  have iX8 : ∀ w ∈ wsX80, w ∈ wsX8_takeDigit := by decide +kernel
  refine haload_n X dX8_takeDigit_0 rfl ?_
  refine haload_n X dX8_takeDigit_1 rfl ?_
  refine hget1 X (T := TX8) (N := 14) iX8 0 rfl rfl 8 (by decide) (by decide +kernel) rfl dX8_takeDigit_2 ?_
  have r1 : ((fr E 6 z) 6 2 : Int32) = z 2 := by rw [fr_same]
  refine hV_st (st' := [.int (z 2), .ref (q 0)]) (congrArg (fun z => Value.int z :: [.ref (q 0)]) r1) ?_
  refine hV_st (st' := [.int (nI a), .ref (q 0)]) (congrArg (fun z => Value.int z :: [.ref (q 0)]) h2) ?_
  refine hcallV0 (C := RX8) (T := TX8) (N := 14) (As := [.int (nI a)]) (rest := []) (st' := [.int (chT (E 5) pl a)]) (w := mW G q (fr E 6 z)) X (q0 := 0) (kX8_character l G q E z pl a (hpl) (h1) (by omega)) gX8_takeDigit_X8_character rfl (n := 1) (by decide +kernel) (by decide) rfl rfl rfl rfl (Nat.le_of_ble_eq_true rfl) dX8_takeDigit_5 rfl rfl (by decide) rfl ?_
  refine hbipush (v := 48) X dX8_takeDigit_8 rfl ?_
  refine hisub X dX8_takeDigit_10 ?_
  refine histore_n (lv' := [(2, .int ((chT (E 5) pl a) - 48)), (0, .ref (q 0)), (1, .int x)]) X dX8_takeDigit_11 (by decide) rfl ?_
  refine hiload_n X dX8_takeDigit_12 rfl ?_
  refine hiload_n X dX8_takeDigit_13 rfl ?_
  refine hbipush (v := 9) X dX8_takeDigit_14 rfl ?_
  refine hcallSr (wsC := []) (wsR := mW G q (fr E 6 z)) (As := [.int ((chT (E 5) pl a) - 48), .int x, .int 9]) (rest := []) (st' := [.int (bI (wI ((chT (E 5) pl a) - 48) x 9))]) (w := []) X (kX8_within l G ((chT (E 5) pl a) - 48) x 9) gX8_takeDigit_X8_within rfl (n := 3) (by decide +kernel) (by decide) rfl rfl (Nat.le_of_ble_eq_true rfl) dX8_takeDigit_16 rfl rfl (by decide) rfl ?_
  refine hif_neB (tgt := 24) X dX8_takeDigit_19 (by decide) (fun c2 => ?_) (fun c2 => ?_)
  · refine haload_n X dX8_takeDigit_24 rfl ?_
    refine hdup X dX8_takeDigit_25 rfl ?_
    refine hget1 X (T := TX8) (N := 14) iX8 0 rfl rfl 8 (by decide) (by decide +kernel) rfl dX8_takeDigit_26 ?_
    have r3 : ((fr E 6 z) 6 2 : Int32) = z 2 := by rw [fr_same]
    refine hV_st (st' := [.int (z 2), .ref (q 0)]) (congrArg (fun z => Value.int z :: [.ref (q 0)]) r3) ?_
    refine hV_st (st' := [.int (nI a), .ref (q 0)]) (congrArg (fun z => Value.int z :: [.ref (q 0)]) h2) ?_
    refine hiconst (v := 1) X dX8_takeDigit_29 rfl ?_
    refine hiadd X dX8_takeDigit_30 ?_
    refine hV_st (st' := [.int (nI (a + 1)), .ref (q 0)]) (congrArg (fun z => Value.int z :: [.ref (q 0)]) (nadd rfl rfl)) ?_
    refine hput1 X (T := TX8) (N := 14) iX8 tyX8 tyX8_ok nmX8 0 rfl rfl 8 (by decide) (by decide +kernel) (by decide +kernel) rfl rfl (Nat.le_of_ble_eq_true rfl) dX8_takeDigit_31 (ws' := mW G q (fr E 6 (upd z 2 (nI (a + 1))))) (mWg8 G q _ _ _) ?_
    refine hiload_n X dX8_takeDigit_34 rfl ?_
    refine hiret X dX8_takeDigit_35 ⟨congrArg (fun z => some (Value.int z)) (?_ : ((chT (E 5) pl a) - 48) = (tdT (E 5) pl a x).1), ?_⟩
    · simp [tdT, c2, if_pos c2]
    refine congrArg (mW G q) (?_ : (fr E 6 (upd z 2 (nI (a + 1))) : hF) = fr E 6 (upd z 2 (nI (tdT (E 5) pl a x).2)))
    simp [tdT, nI_1, upd_self h2, c2, if_pos c2]
  · refine hiconst (v := (-1)) X dX8_takeDigit_22 rfl ?_
    refine hiret X dX8_takeDigit_23 ⟨congrArg (fun z => some (Value.int z)) (?_ : (-1) = (tdT (E 5) pl a x).1), ?_⟩
    · simp [tdT, c2, if_neg c2]
    refine congrArg (mW G q) (?_ : (fr E 6 z : hF) = fr E 6 (upd z 2 (nI (tdT (E 5) pl a x).2)))
    simp [tdT, nI_1, upd_self h2, c2, if_neg c2]

set_option maxHeartbeats 4000000 in
set_option maxRecDepth 100000 in
theorem kX8_takeNumber (l : Launch) (G : hG) (q : Nat → Nat) (E : hF) (z : Nat → Int32) (pl a : Nat) (hpl : pl ≤ 80) (h1 : z 1 = nI pl) (h2 : z 2 = nI a) (ha : a < 2 ^ 29) : hM l G yX8_takeNumber wsX8_takeNumber ({ frames := 3, cells := 0, slots := 0, locals := 84 }) (mW G q (fr E 6 z)) [.ref (q 0)] (hR (some (.int ((tnT (E 5) pl a).1))) (mW G q (fr E 6 (upd z 2 (nI (tnT (E 5) pl a).2))))) := by
  refine hM_of (cc := cX8_takeNumber) (maxL := 2) (ret := (some .int)) (by decide) rfl (Nat.le_of_ble_eq_true rfl) ?_
  intro pp ee ss mm aa bb me cd X hin
  have iX8 : ∀ w ∈ wsX80, w ∈ wsX8_takeNumber := by decide +kernel
  refine haload_n X dX8_takeNumber_0 rfl ?_
  refine hiconst (v := 0) X dX8_takeNumber_1 rfl ?_
  refine hcallV0 (C := RX8) (T := TX8) (N := 14) (As := [.int 0]) (rest := []) (st' := [.int ((tdT (E 5) pl a 0).1)]) (w := mW G q (fr E 6 (upd z 2 (nI (tdT (E 5) pl a 0).2)))) X (q0 := 0) (kX8_takeDigit l G q E z pl a 0 (hpl) (h1) (h2) (by omega)) gX8_takeNumber_X8_takeDigit rfl (n := 1) (by decide +kernel) (by decide) rfl rfl rfl rfl (Nat.le_of_ble_eq_true rfl) dX8_takeNumber_2 rfl rfl (by decide) rfl ?_
  refine histore_n (lv' := [(1, .int ((tdT (E 5) pl a 0).1)), (0, .ref (q 0))]) X dX8_takeNumber_5 (by decide) rfl ?_
  refine hiload_n X dX8_takeNumber_6 rfl ?_
  refine hif_le (tgt := 39) X dX8_takeNumber_7 (by decide) (fun c1 => ?_) (fun c1 => ?_)
  · refine hiload_n X dX8_takeNumber_39 rfl ?_
    refine hiret X dX8_takeNumber_40 ⟨congrArg (fun z => some (Value.int z)) (?_ : ((tdT (E 5) pl a 0).1) = (tnT (E 5) pl a).1), ?_⟩
    · simp [tnT, c1]
    refine congrArg (mW G q) (?_ : (fr E 6 (upd z 2 (nI (tdT (E 5) pl a 0).2)) : hF) = fr E 6 (upd z 2 (nI (tnT (E 5) pl a).2)))
    simp [tnT, upd_upd, c1]
  · refine haload_n X dX8_takeNumber_10 rfl ?_
    refine haload_n X dX8_takeNumber_11 rfl ?_
    refine hget1 X (T := TX8) (N := 14) iX8 0 rfl rfl 8 (by decide) (by decide +kernel) rfl dX8_takeNumber_12 ?_
    have r2 : ((fr E 6 (upd z 2 (nI (tdT (E 5) pl a 0).2))) 6 2 : Int32) = nI (tdT (E 5) pl a 0).2 := by rw [fr_same, pk_us]
    refine hV_st (st' := [.int (nI ((tdT (E 5) pl a 0).2)), .ref (q 0)]) (congrArg (fun z => Value.int z :: [.ref (q 0)]) r2) ?_
    refine hcallV0 (C := RX8) (T := TX8) (N := 14) (As := [.int (nI ((tdT (E 5) pl a 0).2))]) (rest := []) (st' := [.int (chT (E 5) pl ((tdT (E 5) pl a 0).2))]) (w := mW G q (fr E 6 (upd z 2 (nI (tdT (E 5) pl a 0).2)))) X (q0 := 0) (kX8_character l G q E (upd z 2 (nI (tdT (E 5) pl a 0).2)) pl ((tdT (E 5) pl a 0).2) (hpl) (by rw [pk_un (by decide)]; exact h1) (by have := tdT_le (E 5) pl a 0; omega)) gX8_takeNumber_X8_character rfl (n := 1) (by decide +kernel) (by decide) rfl rfl rfl rfl (Nat.le_of_ble_eq_true rfl) dX8_takeNumber_15 rfl rfl (by decide) rfl ?_
    refine hbipush (v := 48) X dX8_takeNumber_18 rfl ?_
    refine hbipush (v := 57) X dX8_takeNumber_20 rfl ?_
    refine hcallSr (wsC := []) (wsR := mW G q (fr E 6 (upd z 2 (nI (tdT (E 5) pl a 0).2)))) (As := [.int (chT (E 5) pl ((tdT (E 5) pl a 0).2)), .int 48, .int 57]) (rest := []) (st' := [.int (bI (wI (chT (E 5) pl ((tdT (E 5) pl a 0).2)) 48 57))]) (w := []) X (kX8_within l G (chT (E 5) pl ((tdT (E 5) pl a 0).2)) 48 57) gX8_takeNumber_X8_within rfl (n := 3) (by decide +kernel) (by decide) rfl rfl (Nat.le_of_ble_eq_true rfl) dX8_takeNumber_22 rfl rfl (by decide) rfl ?_
    refine hif_eqB (tgt := 39) X dX8_takeNumber_25 (by decide) (fun c3 => ?_) (fun c3 => ?_)
    · refine hiload_n X dX8_takeNumber_39 rfl ?_
      refine hiret X dX8_takeNumber_40 ⟨congrArg (fun z => some (Value.int z)) (?_ : ((tdT (E 5) pl a 0).1) = (tnT (E 5) pl a).1), ?_⟩
      · simp [tnT, c1, c3, if_neg c3]
      refine congrArg (mW G q) (?_ : (fr E 6 (upd z 2 (nI (tdT (E 5) pl a 0).2)) : hF) = fr E 6 (upd z 2 (nI (tnT (E 5) pl a).2)))
      simp [tnT, upd_upd, c1, c3, if_neg c3]
    · refine hbipush (v := 10) X dX8_takeNumber_28 rfl ?_
      refine hiload_n X dX8_takeNumber_30 rfl ?_
      refine himul X dX8_takeNumber_31 ?_
      refine haload_n X dX8_takeNumber_32 rfl ?_
      refine hiconst (v := 0) X dX8_takeNumber_33 rfl ?_
      refine hcallV0 (C := RX8) (T := TX8) (N := 14) (As := [.int 0]) (rest := [.int (10 * ((tdT (E 5) pl a 0).1))]) (st' := [.int ((tdT (E 5) pl ((tdT (E 5) pl a 0).2) 0).1), .int (10 * ((tdT (E 5) pl a 0).1))]) (w := mW G q (fr E 6 (upd (upd z 2 (nI (tdT (E 5) pl a 0).2)) 2 (nI (tdT (E 5) pl ((tdT (E 5) pl a 0).2) 0).2)))) X (q0 := 0) (kX8_takeDigit l G q E (upd z 2 (nI (tdT (E 5) pl a 0).2)) pl ((tdT (E 5) pl a 0).2) 0 (hpl) (by rw [pk_un (by decide)]; exact h1) (by rw [pk_us]) (by have := tdT_le (E 5) pl a 0; omega)) gX8_takeNumber_X8_takeDigit rfl (n := 1) (by decide +kernel) (by decide) rfl rfl rfl rfl (Nat.le_of_ble_eq_true rfl) dX8_takeNumber_34 rfl rfl (by decide) rfl ?_
      refine hiadd X dX8_takeNumber_37 ?_
      refine histore_n (lv' := [(1, .int ((10 * ((tdT (E 5) pl a 0).1)) + ((tdT (E 5) pl ((tdT (E 5) pl a 0).2) 0).1))), (0, .ref (q 0))]) X dX8_takeNumber_38 (by decide) rfl ?_
      refine hiload_n X dX8_takeNumber_39 rfl ?_
      refine hiret X dX8_takeNumber_40 ⟨congrArg (fun z => some (Value.int z)) (?_ : ((10 * ((tdT (E 5) pl a 0).1)) + ((tdT (E 5) pl ((tdT (E 5) pl a 0).2) 0).1)) = (tnT (E 5) pl a).1), ?_⟩
      · simp [tnT, c1, c3, if_pos c3]
      refine congrArg (mW G q) (?_ : (fr E 6 (upd (upd z 2 (nI (tdT (E 5) pl a 0).2)) 2 (nI (tdT (E 5) pl ((tdT (E 5) pl a 0).2) 0).2)) : hF) = fr E 6 (upd z 2 (nI (tnT (E 5) pl a).2)))
      simp [tnT, upd_upd, c1, c3, if_pos c3]

