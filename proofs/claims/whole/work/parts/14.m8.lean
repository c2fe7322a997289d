set_option maxHeartbeats 4000000 in
set_option maxRecDepth 100000 in
theorem kX8_readsStand (l : Launch) (G : hG) (q : Nat → Nat) (E : hF) (z : Nat → Int32) (pl a : Nat) (hpl : pl ≤ 80) (h1 : z 1 = nI pl) (h2 : z 2 = nI a) (ha : a < 2 ^ 28) : hM l G yX8_readsStand wsX8_readsStand ({ frames := 4, cells := 0, slots := 0, locals := 105 }) (mW G q (fr E 6 z)) [.ref (q 0)] (fun v w => v = some (.int (bI (¬ (s3T (E 5) pl a).1 < 0 ∧ ¬ (s4T (E 5) pl a).1 = -1))) ∧ ∃ z' : Nat → Int32, z' 0 = z 0 ∧ z' 1 = z 1 ∧ z' 3 = z 3 ∧ z' 2 = nI (s4T (E 5) pl a).2 ∧ z' 4 = (tnT (E 5) pl a).1 ∧ z' 5 = (s2T (E 5) pl a).1 ∧ z' 6 = (s3T (E 5) pl a).1 ∧ z' 7 = (s4T (E 5) pl a).1 ∧ w = mW G q (fr E 6 z')) := by
  refine hM_of (cc := cX8_readsStand) (maxL := 1) (ret := (some .boolean)) (by decide) rfl (Nat.le_of_ble_eq_true rfl) ?_
  intro pp ee ss mm aa bb me cd X hin
  have iX8 : ∀ w ∈ wsX80, w ∈ wsX8_readsStand := by decide +kernel
  have J4 : ∀ (z4 : Nat → Int32), (z4 0 = z 0) → (z4 1 = nI pl) → (z4 3 = z 3) → (z4 2 = nI (s4T (E 5) pl a).2) → (z4 4 = (tnT (E 5) pl a).1) → (z4 5 = (s2T (E 5) pl a).1) → (z4 6 = (s3T (E 5) pl a).1) → (z4 7 = (s4T (E 5) pl a).1) → hV pp l ee ({ frames := 4, cells := 0, slots := 0, locals := 105 }) ss mm aa bb me cd G (va_A (mW G q (fr E 6 z)) ss.heap.size) 1 0 0 (MQ bb (hQc G (mW G q (fr E 6 z)) ss.heap.size (fun v w => v = some (.int (bI (¬ (s3T (E 5) pl a).1 < 0 ∧ ¬ (s4T (E 5) pl a).1 = -1))) ∧ ∃ z' : Nat → Int32, z' 0 = z 0 ∧ z' 1 = z 1 ∧ z' 3 = z 3 ∧ z' 2 = nI (s4T (E 5) pl a).2 ∧ z' 4 = (tnT (E 5) pl a).1 ∧ z' 5 = (s2T (E 5) pl a).1 ∧ z' 6 = (s3T (E 5) pl a).1 ∧ z' 7 = (s4T (E 5) pl a).1 ∧ w = mW G q (fr E 6 z'))) aa ss 0 0 (va_A (mW G q (fr E 6 z)) ss.heap.size)) (mW G q (fr E 6 z4)) 93 [(0, .ref (q 0))] [] := by
    intro z4 hz0 hz1 hz3 hz2 hz4 hz5 hz6 hz7
    refine haload_n X dX8_readsStand_93 rfl ?_
    refine hget1 X (T := TX8) (N := 14) iX8 0 rfl rfl 12 (by decide) (by decide +kernel) rfl dX8_readsStand_94 ?_
    have r1 : ((fr E 6 z4) 6 6 : Int32) = z4 6 := by rw [fr_same]
    refine hV_st (st' := [.int (z4 6)]) (congrArg (fun z => Value.int z :: []) r1) ?_
    refine hV_st (st' := [.int ((s3T (E 5) pl a).1)]) (congrArg (fun z => Value.int z :: []) hz6) ?_
    refine hif_lt (tgt := 112) X dX8_readsStand_97 (by decide) (fun c2 => ?_) (fun c2 => ?_)
    · refine hiconst (v := 0) X dX8_readsStand_112 rfl ?_
      refine hzret X rfl dX8_readsStand_113 ⟨congrArg (fun z => some (Value.int z)) (?_ : 0 = bI (¬ (s3T (E 5) pl a).1 < 0 ∧ ¬ (s4T (E 5) pl a).1 = -1)), z4, hz0, hz1.trans h1.symm, hz3, hz2, hz4, hz5, hz6, hz7, rfl⟩
      simp [bI, c2]
    · refine haload_n X dX8_readsStand_100 rfl ?_
      refine hget1 X (T := TX8) (N := 14) iX8 0 rfl rfl 13 (by decide) (by decide +kernel) rfl dX8_readsStand_101 ?_
      have r3 : ((fr E 6 z4) 6 7 : Int32) = z4 7 := by rw [fr_same]
      refine hV_st (st' := [.int (z4 7)]) (congrArg (fun z => Value.int z :: []) r3) ?_
      refine hV_st (st' := [.int ((s4T (E 5) pl a).1)]) (congrArg (fun z => Value.int z :: []) hz7) ?_
      refine hiconst (v := (-1)) X dX8_readsStand_104 rfl ?_
      refine hicmp_eq (tgt := 112) X dX8_readsStand_105 (by decide) (fun c4 => ?_) (fun c4 => ?_)
      · refine hiconst (v := 0) X dX8_readsStand_112 rfl ?_
        refine hzret X rfl dX8_readsStand_113 ⟨congrArg (fun z => some (Value.int z)) (?_ : 0 = bI (¬ (s3T (E 5) pl a).1 < 0 ∧ ¬ (s4T (E 5) pl a).1 = -1)), z4, hz0, hz1.trans h1.symm, hz3, hz2, hz4, hz5, hz6, hz7, rfl⟩
        simp [bI, c2, c4]
      · refine hiconst (v := 1) X dX8_readsStand_108 rfl ?_
        refine hgoto (tgt := 113) X dX8_readsStand_109 (by decide) ?_
        refine hzret X rfl dX8_readsStand_113 ⟨congrArg (fun z => some (Value.int z)) (?_ : 1 = bI (¬ (s3T (E 5) pl a).1 < 0 ∧ ¬ (s4T (E 5) pl a).1 = -1)), z4, hz0, hz1.trans h1.symm, hz3, hz2, hz4, hz5, hz6, hz7, rfl⟩
        simp [bI, c2, c4]
  have J3 : ∀ (z3 : Nat → Int32), (z3 0 = z 0) → (z3 1 = nI pl) → (z3 3 = z 3) → (z3 2 = nI (s3T (E 5) pl a).2) → (z3 4 = (tnT (E 5) pl a).1) → (z3 5 = (s2T (E 5) pl a).1) → (z3 6 = (s3T (E 5) pl a).1) → hV pp l ee ({ frames := 4, cells := 0, slots := 0, locals := 105 }) ss mm aa bb me cd G (va_A (mW G q (fr E 6 z)) ss.heap.size) 1 0 0 (MQ bb (hQc G (mW G q (fr E 6 z)) ss.heap.size (fun v w => v = some (.int (bI (¬ (s3T (E 5) pl a).1 < 0 ∧ ¬ (s4T (E 5) pl a).1 = -1))) ∧ ∃ z' : Nat → Int32, z' 0 = z 0 ∧ z' 1 = z 1 ∧ z' 3 = z 3 ∧ z' 2 = nI (s4T (E 5) pl a).2 ∧ z' 4 = (tnT (E 5) pl a).1 ∧ z' 5 = (s2T (E 5) pl a).1 ∧ z' 6 = (s3T (E 5) pl a).1 ∧ z' 7 = (s4T (E 5) pl a).1 ∧ w = mW G q (fr E 6 z'))) aa ss 0 0 (va_A (mW G q (fr E 6 z)) ss.heap.size)) (mW G q (fr E 6 z3)) 64 [(0, .ref (q 0))] [] := by
    intro z3 hz0 hz1 hz3 hz2 hz4 hz5 hz6
    refine haload_n X dX8_readsStand_64 rfl ?_
    refine haload_n X dX8_readsStand_65 rfl ?_
    refine hget1 X (T := TX8) (N := 14) iX8 0 rfl rfl 12 (by decide) (by decide +kernel) rfl dX8_readsStand_66 ?_
    have r5 : ((fr E 6 z3) 6 6 : Int32) = z3 6 := by rw [fr_same]
    refine hV_st (st' := [.int (z3 6), .ref (q 0)]) (congrArg (fun z => Value.int z :: [.ref (q 0)]) r5) ?_
    refine hV_st (st' := [.int ((s3T (E 5) pl a).1), .ref (q 0)]) (congrArg (fun z => Value.int z :: [.ref (q 0)]) hz6) ?_
    refine hif_lt (tgt := 88) X dX8_readsStand_69 (by decide) (fun c6 => ?_) (fun c6 => ?_)
    · refine hbipush (v := (-6)) X dX8_readsStand_88 rfl ?_
      refine hput1 X (T := TX8) (N := 14) iX8 tyX8 tyX8_ok nmX8 0 rfl rfl 13 (by decide) (by decide +kernel) (by decide +kernel) rfl rfl (Nat.le_of_ble_eq_true rfl) dX8_readsStand_90 (ws' := mW G q (fr E 6 (upd z3 7 (-6)))) (mWg13 G q _ _ _) ?_
      exact hV_to (ws' := mW G q (fr E 6 (upd z3 7 (-6)))) (lv' := [(0, .ref (q 0))]) (st' := []) rfl rfl rfl (J4 (upd z3 7 (-6)) (by simp [upd, hz0, hz1, hz2, hz3, hz4, hz5, hz6, h1, s4T, rs2, c6]) (by simp [upd, hz0, hz1, hz2, hz3, hz4, hz5, hz6, h1, s4T, rs2, c6]) (by simp [upd, hz0, hz1, hz2, hz3, hz4, hz5, hz6, h1, s4T, rs2, c6]) (by simp [upd, hz0, hz1, hz2, hz3, hz4, hz5, hz6, h1, s4T, rs2, c6]) (by simp [upd, hz0, hz1, hz2, hz3, hz4, hz5, hz6, h1, s4T, rs2, c6]) (by simp [upd, hz0, hz1, hz2, hz3, hz4, hz5, hz6, h1, s4T, rs2, c6]) (by simp [upd, hz0, hz1, hz2, hz3, hz4, hz5, hz6, h1, s4T, rs2, c6]) (by simp [upd, hz0, hz1, hz2, hz3, hz4, hz5, hz6, h1, s4T, rs2, c6]))
    · refine haload_n X dX8_readsStand_72 rfl ?_
      refine hbipush (v := 94) X dX8_readsStand_73 rfl ?_
      refine hcallV0 (C := RX8) (T := TX8) (N := 14) (As := [.int 94]) (rest := [.ref (q 0)]) (st' := [.int (bI (chT (E 5) pl ((s3T (E 5) pl a).2) = 94)), .ref (q 0)]) (w := mW G q (fr E 6 (upd z3 2 (nI (nxA (E 5) pl ((s3T (E 5) pl a).2) 94))))) X (q0 := 0) (kX8_isNext l G q E z3 pl ((s3T (E 5) pl a).2) 94 (hpl) (hz1) (hz2) (by have := s3T_le (E 5) pl a; omega)) gX8_readsStand_X8_isNext rfl (n := 1) (by decide +kernel) (by decide) rfl rfl rfl rfl (Nat.le_of_ble_eq_true rfl) dX8_readsStand_75 rfl rfl (by decide) rfl ?_
      refine hif_eqB (tgt := 88) X dX8_readsStand_78 (by decide) (fun c7 => ?_) (fun c7 => ?_)
      · have b8 : nxA (E 5) pl ((s3T (E 5) pl a).2) 94 = (s3T (E 5) pl a).2 := by simp [nxA, c7]
        rw [b8]
        refine hbipush (v := (-6)) X dX8_readsStand_88 rfl ?_
        refine hput1 X (T := TX8) (N := 14) iX8 tyX8 tyX8_ok nmX8 0 rfl rfl 13 (by decide) (by decide +kernel) (by decide +kernel) rfl rfl (Nat.le_of_ble_eq_true rfl) dX8_readsStand_90 (ws' := mW G q (fr E 6 (upd (upd z3 2 (nI ((s3T (E 5) pl a).2))) 7 (-6)))) (mWg13 G q _ _ _) ?_
        exact hV_to (ws' := mW G q (fr E 6 (upd (upd z3 2 (nI ((s3T (E 5) pl a).2))) 7 (-6)))) (lv' := [(0, .ref (q 0))]) (st' := []) rfl rfl rfl (J4 (upd (upd z3 2 (nI ((s3T (E 5) pl a).2))) 7 (-6)) (by simp [upd, hz0, hz1, hz2, hz3, hz4, hz5, hz6, h1, s4T, rs2, c6, c7]) (by simp [upd, hz0, hz1, hz2, hz3, hz4, hz5, hz6, h1, s4T, rs2, c6, c7]) (by simp [upd, hz0, hz1, hz2, hz3, hz4, hz5, hz6, h1, s4T, rs2, c6, c7]) (by simp [upd, hz0, hz1, hz2, hz3, hz4, hz5, hz6, h1, s4T, rs2, c6, c7]) (by simp [upd, hz0, hz1, hz2, hz3, hz4, hz5, hz6, h1, s4T, rs2, c6, c7]) (by simp [upd, hz0, hz1, hz2, hz3, hz4, hz5, hz6, h1, s4T, rs2, c6, c7]) (by simp [upd, hz0, hz1, hz2, hz3, hz4, hz5, hz6, h1, s4T, rs2, c6, c7]) (by simp [upd, hz0, hz1, hz2, hz3, hz4, hz5, hz6, h1, s4T, rs2, c6, c7]))
      · have b9 : nxA (E 5) pl ((s3T (E 5) pl a).2) 94 = ((s3T (E 5) pl a).2 + 1) := by simp [nxA, c7]
        rw [b9]
        refine haload_n X dX8_readsStand_81 rfl ?_
        refine hcallV0 (C := RX8) (T := TX8) (N := 14) (As := []) (rest := [.ref (q 0)]) (st' := [.int ((tnT (E 5) pl ((s3T (E 5) pl a).2 + 1)).1), .ref (q 0)]) (w := mW G q (fr E 6 (upd (upd z3 2 (nI (((s3T (E 5) pl a).2 + 1)))) 2 (nI (tnT (E 5) pl ((s3T (E 5) pl a).2 + 1)).2)))) X (q0 := 0) (kX8_takeNumber l G q E (upd z3 2 (nI (((s3T (E 5) pl a).2 + 1)))) pl ((s3T (E 5) pl a).2 + 1) (hpl) (by rw [pk_un (by decide)]; exact hz1) (by rw [pk_us]) (by have := s3T_le (E 5) pl a; omega)) gX8_readsStand_X8_takeNumber rfl (n := 0) (by decide +kernel) (by decide) rfl rfl rfl rfl (Nat.le_of_ble_eq_true rfl) dX8_readsStand_82 rfl rfl (by decide) rfl ?_
        refine hgoto (tgt := 90) X dX8_readsStand_85 (by decide) ?_
        refine hput1 X (T := TX8) (N := 14) iX8 tyX8 tyX8_ok nmX8 0 rfl rfl 13 (by decide) (by decide +kernel) (by decide +kernel) rfl rfl (Nat.le_of_ble_eq_true rfl) dX8_readsStand_90 (ws' := mW G q (fr E 6 (upd (upd (upd z3 2 (nI (((s3T (E 5) pl a).2 + 1)))) 2 (nI (tnT (E 5) pl ((s3T (E 5) pl a).2 + 1)).2)) 7 ((tnT (E 5) pl ((s3T (E 5) pl a).2 + 1)).1)))) (mWg13 G q _ _ _) ?_
        exact hV_to (ws' := mW G q (fr E 6 (upd (upd (upd z3 2 (nI (((s3T (E 5) pl a).2 + 1)))) 2 (nI (tnT (E 5) pl ((s3T (E 5) pl a).2 + 1)).2)) 7 ((tnT (E 5) pl ((s3T (E 5) pl a).2 + 1)).1)))) (lv' := [(0, .ref (q 0))]) (st' := []) rfl rfl rfl (J4 (upd (upd (upd z3 2 (nI (((s3T (E 5) pl a).2 + 1)))) 2 (nI (tnT (E 5) pl ((s3T (E 5) pl a).2 + 1)).2)) 7 ((tnT (E 5) pl ((s3T (E 5) pl a).2 + 1)).1)) (by simp [upd, hz0, hz1, hz2, hz3, hz4, hz5, hz6, h1, s4T, rs2, c6, c7]) (by simp [upd, hz0, hz1, hz2, hz3, hz4, hz5, hz6, h1, s4T, rs2, c6, c7]) (by simp [upd, hz0, hz1, hz2, hz3, hz4, hz5, hz6, h1, s4T, rs2, c6, c7]) (by simp [upd, hz0, hz1, hz2, hz3, hz4, hz5, hz6, h1, s4T, rs2, c6, c7]) (by simp [upd, hz0, hz1, hz2, hz3, hz4, hz5, hz6, h1, s4T, rs2, c6, c7]) (by simp [upd, hz0, hz1, hz2, hz3, hz4, hz5, hz6, h1, s4T, rs2, c6, c7]) (by simp [upd, hz0, hz1, hz2, hz3, hz4, hz5, hz6, h1, s4T, rs2, c6, c7]) (by simp [upd, hz0, hz1, hz2, hz3, hz4, hz5, hz6, h1, s4T, rs2, c6, c7]))
  have J2 : ∀ (z2 : Nat → Int32), (z2 0 = z 0) → (z2 1 = nI pl) → (z2 3 = z 3) → (z2 2 = nI (s2T (E 5) pl a).2) → (z2 4 = (tnT (E 5) pl a).1) → (z2 5 = (s2T (E 5) pl a).1) → hV pp l ee ({ frames := 4, cells := 0, slots := 0, locals := 105 }) ss mm aa bb me cd G (va_A (mW G q (fr E 6 z)) ss.heap.size) 1 0 0 (MQ bb (hQc G (mW G q (fr E 6 z)) ss.heap.size (fun v w => v = some (.int (bI (¬ (s3T (E 5) pl a).1 < 0 ∧ ¬ (s4T (E 5) pl a).1 = -1))) ∧ ∃ z' : Nat → Int32, z' 0 = z 0 ∧ z' 1 = z 1 ∧ z' 3 = z 3 ∧ z' 2 = nI (s4T (E 5) pl a).2 ∧ z' 4 = (tnT (E 5) pl a).1 ∧ z' 5 = (s2T (E 5) pl a).1 ∧ z' 6 = (s3T (E 5) pl a).1 ∧ z' 7 = (s4T (E 5) pl a).1 ∧ w = mW G q (fr E 6 z'))) aa ss 0 0 (va_A (mW G q (fr E 6 z)) ss.heap.size)) (mW G q (fr E 6 z2)) 36 [(0, .ref (q 0))] [] := by
    intro z2 hz0 hz1 hz3 hz2 hz4 hz5
    refine haload_n X dX8_readsStand_36 rfl ?_
    refine haload_n X dX8_readsStand_37 rfl ?_
    refine hget1 X (T := TX8) (N := 14) iX8 0 rfl rfl 11 (by decide) (by decide +kernel) rfl dX8_readsStand_38 ?_
    have r10 : ((fr E 6 z2) 6 5 : Int32) = z2 5 := by rw [fr_same]
    refine hV_st (st' := [.int (z2 5), .ref (q 0)]) (congrArg (fun z => Value.int z :: [.ref (q 0)]) r10) ?_
    refine hV_st (st' := [.int ((s2T (E 5) pl a).1), .ref (q 0)]) (congrArg (fun z => Value.int z :: [.ref (q 0)]) hz5) ?_
    refine hif_lt (tgt := 60) X dX8_readsStand_41 (by decide) (fun c11 => ?_) (fun c11 => ?_)
    · refine hiconst (v := (-1)) X dX8_readsStand_60 rfl ?_
      refine hput1 X (T := TX8) (N := 14) iX8 tyX8 tyX8_ok nmX8 0 rfl rfl 12 (by decide) (by decide +kernel) (by decide +kernel) rfl rfl (Nat.le_of_ble_eq_true rfl) dX8_readsStand_61 (ws' := mW G q (fr E 6 (upd z2 6 (-1)))) (mWg12 G q _ _ _) ?_
      exact hV_to (ws' := mW G q (fr E 6 (upd z2 6 (-1)))) (lv' := [(0, .ref (q 0))]) (st' := []) rfl rfl rfl (J3 (upd z2 6 (-1)) (by simp [upd, hz0, hz1, hz2, hz3, hz4, hz5, h1, s3T, rs2, c11]) (by simp [upd, hz0, hz1, hz2, hz3, hz4, hz5, h1, s3T, rs2, c11]) (by simp [upd, hz0, hz1, hz2, hz3, hz4, hz5, h1, s3T, rs2, c11]) (by simp [upd, hz0, hz1, hz2, hz3, hz4, hz5, h1, s3T, rs2, c11]) (by simp [upd, hz0, hz1, hz2, hz3, hz4, hz5, h1, s3T, rs2, c11]) (by simp [upd, hz0, hz1, hz2, hz3, hz4, hz5, h1, s3T, rs2, c11]) (by simp [upd, hz0, hz1, hz2, hz3, hz4, hz5, h1, s3T, rs2, c11]))
    · refine haload_n X dX8_readsStand_44 rfl ?_
      refine hbipush (v := 44) X dX8_readsStand_45 rfl ?_
      refine hcallV0 (C := RX8) (T := TX8) (N := 14) (As := [.int 44]) (rest := [.ref (q 0)]) (st' := [.int (bI (chT (E 5) pl ((s2T (E 5) pl a).2) = 44)), .ref (q 0)]) (w := mW G q (fr E 6 (upd z2 2 (nI (nxA (E 5) pl ((s2T (E 5) pl a).2) 44))))) X (q0 := 0) (kX8_isNext l G q E z2 pl ((s2T (E 5) pl a).2) 44 (hpl) (hz1) (hz2) (by have := s2T_le (E 5) pl a; omega)) gX8_readsStand_X8_isNext rfl (n := 1) (by decide +kernel) (by decide) rfl rfl rfl rfl (Nat.le_of_ble_eq_true rfl) dX8_readsStand_47 rfl rfl (by decide) rfl ?_
      refine hif_eqB (tgt := 60) X dX8_readsStand_50 (by decide) (fun c12 => ?_) (fun c12 => ?_)
      · have b13 : nxA (E 5) pl ((s2T (E 5) pl a).2) 44 = (s2T (E 5) pl a).2 := by simp [nxA, c12]
        rw [b13]
        refine hiconst (v := (-1)) X dX8_readsStand_60 rfl ?_
        refine hput1 X (T := TX8) (N := 14) iX8 tyX8 tyX8_ok nmX8 0 rfl rfl 12 (by decide) (by decide +kernel) (by decide +kernel) rfl rfl (Nat.le_of_ble_eq_true rfl) dX8_readsStand_61 (ws' := mW G q (fr E 6 (upd (upd z2 2 (nI ((s2T (E 5) pl a).2))) 6 (-1)))) (mWg12 G q _ _ _) ?_
        exact hV_to (ws' := mW G q (fr E 6 (upd (upd z2 2 (nI ((s2T (E 5) pl a).2))) 6 (-1)))) (lv' := [(0, .ref (q 0))]) (st' := []) rfl rfl rfl (J3 (upd (upd z2 2 (nI ((s2T (E 5) pl a).2))) 6 (-1)) (by simp [upd, hz0, hz1, hz2, hz3, hz4, hz5, h1, s3T, rs2, c11, c12]) (by simp [upd, hz0, hz1, hz2, hz3, hz4, hz5, h1, s3T, rs2, c11, c12]) (by simp [upd, hz0, hz1, hz2, hz3, hz4, hz5, h1, s3T, rs2, c11, c12]) (by simp [upd, hz0, hz1, hz2, hz3, hz4, hz5, h1, s3T, rs2, c11, c12]) (by simp [upd, hz0, hz1, hz2, hz3, hz4, hz5, h1, s3T, rs2, c11, c12]) (by simp [upd, hz0, hz1, hz2, hz3, hz4, hz5, h1, s3T, rs2, c11, c12]) (by simp [upd, hz0, hz1, hz2, hz3, hz4, hz5, h1, s3T, rs2, c11, c12]))
      · have b14 : nxA (E 5) pl ((s2T (E 5) pl a).2) 44 = ((s2T (E 5) pl a).2 + 1) := by simp [nxA, c12]
        rw [b14]
        refine haload_n X dX8_readsStand_53 rfl ?_
        refine hcallV0 (C := RX8) (T := TX8) (N := 14) (As := []) (rest := [.ref (q 0)]) (st' := [.int ((tnT (E 5) pl ((s2T (E 5) pl a).2 + 1)).1), .ref (q 0)]) (w := mW G q (fr E 6 (upd (upd z2 2 (nI (((s2T (E 5) pl a).2 + 1)))) 2 (nI (tnT (E 5) pl ((s2T (E 5) pl a).2 + 1)).2)))) X (q0 := 0) (kX8_takeNumber l G q E (upd z2 2 (nI (((s2T (E 5) pl a).2 + 1)))) pl ((s2T (E 5) pl a).2 + 1) (hpl) (by rw [pk_un (by decide)]; exact hz1) (by rw [pk_us]) (by have := s2T_le (E 5) pl a; omega)) gX8_readsStand_X8_takeNumber rfl (n := 0) (by decide +kernel) (by decide) rfl rfl rfl rfl (Nat.le_of_ble_eq_true rfl) dX8_readsStand_54 rfl rfl (by decide) rfl ?_
        refine hgoto (tgt := 61) X dX8_readsStand_57 (by decide) ?_
        refine hput1 X (T := TX8) (N := 14) iX8 tyX8 tyX8_ok nmX8 0 rfl rfl 12 (by decide) (by decide +kernel) (by decide +kernel) rfl rfl (Nat.le_of_ble_eq_true rfl) dX8_readsStand_61 (ws' := mW G q (fr E 6 (upd (upd (upd z2 2 (nI (((s2T (E 5) pl a).2 + 1)))) 2 (nI (tnT (E 5) pl ((s2T (E 5) pl a).2 + 1)).2)) 6 ((tnT (E 5) pl ((s2T (E 5) pl a).2 + 1)).1)))) (mWg12 G q _ _ _) ?_
        exact hV_to (ws' := mW G q (fr E 6 (upd (upd (upd z2 2 (nI (((s2T (E 5) pl a).2 + 1)))) 2 (nI (tnT (E 5) pl ((s2T (E 5) pl a).2 + 1)).2)) 6 ((tnT (E 5) pl ((s2T (E 5) pl a).2 + 1)).1)))) (lv' := [(0, .ref (q 0))]) (st' := []) rfl rfl rfl (J3 (upd (upd (upd z2 2 (nI (((s2T (E 5) pl a).2 + 1)))) 2 (nI (tnT (E 5) pl ((s2T (E 5) pl a).2 + 1)).2)) 6 ((tnT (E 5) pl ((s2T (E 5) pl a).2 + 1)).1)) (by simp [upd, hz0, hz1, hz2, hz3, hz4, hz5, h1, s3T, rs2, c11, c12]) (by simp [upd, hz0, hz1, hz2, hz3, hz4, hz5, h1, s3T, rs2, c11, c12]) (by simp [upd, hz0, hz1, hz2, hz3, hz4, hz5, h1, s3T, rs2, c11, c12]) (by simp [upd, hz0, hz1, hz2, hz3, hz4, hz5, h1, s3T, rs2, c11, c12]) (by simp [upd, hz0, hz1, hz2, hz3, hz4, hz5, h1, s3T, rs2, c11, c12]) (by simp [upd, hz0, hz1, hz2, hz3, hz4, hz5, h1, s3T, rs2, c11, c12]) (by simp [upd, hz0, hz1, hz2, hz3, hz4, hz5, h1, s3T, rs2, c11, c12]))
  refine haload_n X dX8_readsStand_0 rfl ?_
  refine haload_n X dX8_readsStand_1 rfl ?_
  refine hcallV0 (C := RX8) (T := TX8) (N := 14) (As := []) (rest := [.ref (q 0)]) (st' := [.int ((tnT (E 5) pl a).1), .ref (q 0)]) (w := mW G q (fr E 6 (upd z 2 (nI (tnT (E 5) pl a).2)))) X (q0 := 0) (kX8_takeNumber l G q E z pl a (hpl) (h1) (h2) (by omega)) gX8_readsStand_X8_takeNumber rfl (n := 0) (by decide +kernel) (by decide) rfl rfl rfl rfl (Nat.le_of_ble_eq_true rfl) dX8_readsStand_2 rfl rfl (by decide) rfl ?_
  refine hput1 X (T := TX8) (N := 14) iX8 tyX8 tyX8_ok nmX8 0 rfl rfl 10 (by decide) (by decide +kernel) (by decide +kernel) rfl rfl (Nat.le_of_ble_eq_true rfl) dX8_readsStand_5 (ws' := mW G q (fr E 6 (upd (upd z 2 (nI (tnT (E 5) pl a).2)) 4 ((tnT (E 5) pl a).1)))) (mWg10 G q _ _ _) ?_
  refine haload_n X dX8_readsStand_8 rfl ?_
  refine haload_n X dX8_readsStand_9 rfl ?_
  refine hget1 X (T := TX8) (N := 14) iX8 0 rfl rfl 10 (by decide) (by decide +kernel) rfl dX8_readsStand_10 ?_
  have r15 : ((fr E 6 (upd (upd z 2 (nI (tnT (E 5) pl a).2)) 4 ((tnT (E 5) pl a).1))) 6 4 : Int32) = (tnT (E 5) pl a).1 := by rw [fr_same, pk_us]
  refine hV_st (st' := [.int ((tnT (E 5) pl a).1), .ref (q 0)]) (congrArg (fun z => Value.int z :: [.ref (q 0)]) r15) ?_
  refine hif_lt (tgt := 32) X dX8_readsStand_13 (by decide) (fun c16 => ?_) (fun c16 => ?_)
  · refine hiconst (v := (-1)) X dX8_readsStand_32 rfl ?_
    refine hput1 X (T := TX8) (N := 14) iX8 tyX8 tyX8_ok nmX8 0 rfl rfl 11 (by decide) (by decide +kernel) (by decide +kernel) rfl rfl (Nat.le_of_ble_eq_true rfl) dX8_readsStand_33 (ws' := mW G q (fr E 6 (upd (upd (upd z 2 (nI (tnT (E 5) pl a).2)) 4 ((tnT (E 5) pl a).1)) 5 (-1)))) (mWg11 G q _ _ _) ?_
    exact hV_to (ws' := mW G q (fr E 6 (upd (upd (upd z 2 (nI (tnT (E 5) pl a).2)) 4 ((tnT (E 5) pl a).1)) 5 (-1)))) (lv' := [(0, .ref (q 0))]) (st' := []) rfl rfl rfl (J2 (upd (upd (upd z 2 (nI (tnT (E 5) pl a).2)) 4 ((tnT (E 5) pl a).1)) 5 (-1)) (by simp [upd, h1, s2T, rs2, c16]) (by simp [upd, h1, s2T, rs2, c16]) (by simp [upd, h1, s2T, rs2, c16]) (by simp [upd, h1, s2T, rs2, c16]) (by simp [upd, h1, s2T, rs2, c16]) (by simp [upd, h1, s2T, rs2, c16]))
  · refine haload_n X dX8_readsStand_16 rfl ?_
    refine hbipush (v := 44) X dX8_readsStand_17 rfl ?_
    refine hcallV0 (C := RX8) (T := TX8) (N := 14) (As := [.int 44]) (rest := [.ref (q 0)]) (st' := [.int (bI (chT (E 5) pl ((tnT (E 5) pl a).2) = 44)), .ref (q 0)]) (w := mW G q (fr E 6 (upd (upd (upd z 2 (nI (tnT (E 5) pl a).2)) 4 ((tnT (E 5) pl a).1)) 2 (nI (nxA (E 5) pl ((tnT (E 5) pl a).2) 44))))) X (q0 := 0) (kX8_isNext l G q E (upd (upd z 2 (nI (tnT (E 5) pl a).2)) 4 ((tnT (E 5) pl a).1)) pl ((tnT (E 5) pl a).2) 44 (hpl) (by rw [pk_un (by decide), pk_un (by decide)]; exact h1) (by rw [pk_un (by decide), pk_us]) (by have := tnT_le (E 5) pl a; omega)) gX8_readsStand_X8_isNext rfl (n := 1) (by decide +kernel) (by decide) rfl rfl rfl rfl (Nat.le_of_ble_eq_true rfl) dX8_readsStand_19 rfl rfl (by decide) rfl ?_
    refine hif_eqB (tgt := 32) X dX8_readsStand_22 (by decide) (fun c17 => ?_) (fun c17 => ?_)
    · have b18 : nxA (E 5) pl ((tnT (E 5) pl a).2) 44 = (tnT (E 5) pl a).2 := by simp [nxA, c17]
      rw [b18]
      refine hiconst (v := (-1)) X dX8_readsStand_32 rfl ?_
      refine hput1 X (T := TX8) (N := 14) iX8 tyX8 tyX8_ok nmX8 0 rfl rfl 11 (by decide) (by decide +kernel) (by decide +kernel) rfl rfl (Nat.le_of_ble_eq_true rfl) dX8_readsStand_33 (ws' := mW G q (fr E 6 (upd (upd (upd (upd z 2 (nI (tnT (E 5) pl a).2)) 4 ((tnT (E 5) pl a).1)) 2 (nI ((tnT (E 5) pl a).2))) 5 (-1)))) (mWg11 G q _ _ _) ?_
      exact hV_to (ws' := mW G q (fr E 6 (upd (upd (upd (upd z 2 (nI (tnT (E 5) pl a).2)) 4 ((tnT (E 5) pl a).1)) 2 (nI ((tnT (E 5) pl a).2))) 5 (-1)))) (lv' := [(0, .ref (q 0))]) (st' := []) rfl rfl rfl (J2 (upd (upd (upd (upd z 2 (nI (tnT (E 5) pl a).2)) 4 ((tnT (E 5) pl a).1)) 2 (nI ((tnT (E 5) pl a).2))) 5 (-1)) (by simp [upd, h1, s2T, rs2, c16, c17]) (by simp [upd, h1, s2T, rs2, c16, c17]) (by simp [upd, h1, s2T, rs2, c16, c17]) (by simp [upd, h1, s2T, rs2, c16, c17]) (by simp [upd, h1, s2T, rs2, c16, c17]) (by simp [upd, h1, s2T, rs2, c16, c17]))
    · have b19 : nxA (E 5) pl ((tnT (E 5) pl a).2) 44 = ((tnT (E 5) pl a).2 + 1) := by simp [nxA, c17]
      rw [b19]
      refine haload_n X dX8_readsStand_25 rfl ?_
      refine hcallV0 (C := RX8) (T := TX8) (N := 14) (As := []) (rest := [.ref (q 0)]) (st' := [.int ((tnT (E 5) pl ((tnT (E 5) pl a).2 + 1)).1), .ref (q 0)]) (w := mW G q (fr E 6 (upd (upd (upd (upd z 2 (nI (tnT (E 5) pl a).2)) 4 ((tnT (E 5) pl a).1)) 2 (nI (((tnT (E 5) pl a).2 + 1)))) 2 (nI (tnT (E 5) pl ((tnT (E 5) pl a).2 + 1)).2)))) X (q0 := 0) (kX8_takeNumber l G q E (upd (upd (upd z 2 (nI (tnT (E 5) pl a).2)) 4 ((tnT (E 5) pl a).1)) 2 (nI (((tnT (E 5) pl a).2 + 1)))) pl ((tnT (E 5) pl a).2 + 1) (hpl) (by rw [pk_un (by decide), pk_un (by decide), pk_un (by decide)]; exact h1) (by rw [pk_us]) (by have := tnT_le (E 5) pl a; omega)) gX8_readsStand_X8_takeNumber rfl (n := 0) (by decide +kernel) (by decide) rfl rfl rfl rfl (Nat.le_of_ble_eq_true rfl) dX8_readsStand_26 rfl rfl (by decide) rfl ?_
      refine hgoto (tgt := 33) X dX8_readsStand_29 (by decide) ?_
      refine hput1 X (T := TX8) (N := 14) iX8 tyX8 tyX8_ok nmX8 0 rfl rfl 11 (by decide) (by decide +kernel) (by decide +kernel) rfl rfl (Nat.le_of_ble_eq_true rfl) dX8_readsStand_33 (ws' := mW G q (fr E 6 (upd (upd (upd (upd (upd z 2 (nI (tnT (E 5) pl a).2)) 4 ((tnT (E 5) pl a).1)) 2 (nI (((tnT (E 5) pl a).2 + 1)))) 2 (nI (tnT (E 5) pl ((tnT (E 5) pl a).2 + 1)).2)) 5 ((tnT (E 5) pl ((tnT (E 5) pl a).2 + 1)).1)))) (mWg11 G q _ _ _) ?_
      exact hV_to (ws' := mW G q (fr E 6 (upd (upd (upd (upd (upd z 2 (nI (tnT (E 5) pl a).2)) 4 ((tnT (E 5) pl a).1)) 2 (nI (((tnT (E 5) pl a).2 + 1)))) 2 (nI (tnT (E 5) pl ((tnT (E 5) pl a).2 + 1)).2)) 5 ((tnT (E 5) pl ((tnT (E 5) pl a).2 + 1)).1)))) (lv' := [(0, .ref (q 0))]) (st' := []) rfl rfl rfl (J2 (upd (upd (upd (upd (upd z 2 (nI (tnT (E 5) pl a).2)) 4 ((tnT (E 5) pl a).1)) 2 (nI (((tnT (E 5) pl a).2 + 1)))) 2 (nI (tnT (E 5) pl ((tnT (E 5) pl a).2 + 1)).2)) 5 ((tnT (E 5) pl ((tnT (E 5) pl a).2 + 1)).1)) (by simp [upd, h1, s2T, rs2, c16, c17]) (by simp [upd, h1, s2T, rs2, c16, c17]) (by simp [upd, h1, s2T, rs2, c16, c17]) (by simp [upd, h1, s2T, rs2, c16, c17]) (by simp [upd, h1, s2T, rs2, c16, c17]) (by simp [upd, h1, s2T, rs2, c16, c17]))

