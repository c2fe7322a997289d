set_option maxHeartbeats 4000000 in
set_option maxRecDepth 100000 in
theorem kX8_readsOrder (l : Launch) (G : hG) (q : Nat → Nat) (E : hF) (z : Nat → Int32) (pl a : Nat) (hpl : pl ≤ 80) (h1 : z 1 = nI pl) (h2 : z 2 = nI a) (ha : a < 2 ^ 27) : hM l G yX8_readsOrder wsX8_readsOrder ({ frames := 5, cells := 0, slots := 0, locals := 125 }) (mW G q (fr E 6 z)) [.ref (q 0)] (fun v w => v = some (.int (bI (roB (E 5) pl a = true))) ∧ ∃ z' : Nat → Int32, z' 0 = z 0 ∧ z' 1 = z 1 ∧ z' 2 = nI (roA (E 5) pl a) ∧ z' 3 = chT (E 5) pl a ∧ (chT (E 5) pl a = 43 → z' 4 = (tnT (E 5) pl (a + 1)).1 ∧ z' 5 = (s2T (E 5) pl (a + 1)).1 ∧ z' 6 = (s3T (E 5) pl (a + 1)).1 ∧ z' 7 = (s4T (E 5) pl (a + 1)).1) ∧ (chT (E 5) pl a = 99 → z' 4 = (tdT (E 5) pl (a + 1) 1).1 ∧ z' 5 = (c2T (E 5) pl (a + 1)).1) ∧ (chT (E 5) pl a = 100 ∨ chT (E 5) pl a = 116 → z' 4 = (tnT (E 5) pl (a + 1)).1) ∧ w = mW G q (fr E 6 z')) := by
  refine hM_of (cc := cX8_readsOrder) (maxL := 1) (ret := (some .boolean)) (by decide) rfl (Nat.le_of_ble_eq_true rfl) ?_
  intro pp ee ss mm aa bb me cd X hin
  have iX8 : ∀ w ∈ wsX80, w ∈ wsX8_readsOrder := by decide +kernel
  refine haload_n X dX8_readsOrder_0 rfl ?_
  refine haload_n X dX8_readsOrder_1 rfl ?_
  refine haload_n X dX8_readsOrder_2 rfl ?_
  refine hget1 X (T := TX8) (N := 14) iX8 0 rfl rfl 8 (by decide) (by decide +kernel) rfl dX8_readsOrder_3 ?_
  have r1 : ((fr E 6 z) 6 2 : Int32) = z 2 := by rw [fr_same]
  refine hV_st (st' := [.int (z 2), .ref (q 0), .ref (q 0)]) (congrArg (fun z => Value.int z :: [.ref (q 0), .ref (q 0)]) r1) ?_
  refine hV_st (st' := [.int (nI a), .ref (q 0), .ref (q 0)]) (congrArg (fun z => Value.int z :: [.ref (q 0), .ref (q 0)]) h2) ?_
  refine hcallV0 (C := RX8) (T := TX8) (N := 14) (As := [.int (nI a)]) (rest := [.ref (q 0)]) (st' := [.int (chT (E 5) pl a), .ref (q 0)]) (w := mW G q (fr E 6 z)) X (q0 := 0) (kX8_character l G q E z pl a (hpl) (h1) (by omega)) gX8_readsOrder_X8_character rfl (n := 1) (by decide +kernel) (by decide) rfl rfl rfl rfl (Nat.le_of_ble_eq_true rfl) dX8_readsOrder_6 rfl rfl (by decide) rfl ?_
  refine hput1 X (T := TX8) (N := 14) iX8 tyX8 tyX8_ok nmX8 0 rfl rfl 9 (by decide) (by decide +kernel) (by decide +kernel) rfl rfl (Nat.le_of_ble_eq_true rfl) dX8_readsOrder_9 (ws' := mW G q (fr E 6 (upd z 3 (chT (E 5) pl a)))) (mWg9 G q _ _ _) ?_
  refine haload_n X dX8_readsOrder_12 rfl ?_
  refine hdup X dX8_readsOrder_13 rfl ?_
  refine hget1 X (T := TX8) (N := 14) iX8 0 rfl rfl 8 (by decide) (by decide +kernel) rfl dX8_readsOrder_14 ?_
  have r2 : ((fr E 6 (upd z 3 (chT (E 5) pl a))) 6 2 : Int32) = z 2 := by rw [fr_same, pk_un (by decide)]
  refine hV_st (st' := [.int (z 2), .ref (q 0)]) (congrArg (fun z => Value.int z :: [.ref (q 0)]) r2) ?_
  refine hV_st (st' := [.int (nI a), .ref (q 0)]) (congrArg (fun z => Value.int z :: [.ref (q 0)]) h2) ?_
  refine hiconst (v := 1) X dX8_readsOrder_17 rfl ?_
  refine hiadd X dX8_readsOrder_18 ?_
  refine hV_st (st' := [.int (nI (a + 1)), .ref (q 0)]) (congrArg (fun z => Value.int z :: [.ref (q 0)]) (nadd rfl rfl)) ?_
  refine hput1 X (T := TX8) (N := 14) iX8 tyX8 tyX8_ok nmX8 0 rfl rfl 8 (by decide) (by decide +kernel) (by decide +kernel) rfl rfl (Nat.le_of_ble_eq_true rfl) dX8_readsOrder_19 (ws' := mW G q (fr E 6 (upd (upd z 3 (chT (E 5) pl a)) 2 (nI (a + 1))))) (mWg8 G q _ _ _) ?_
  refine haload_n X dX8_readsOrder_22 rfl ?_
  refine hget1 X (T := TX8) (N := 14) iX8 0 rfl rfl 9 (by decide) (by decide +kernel) rfl dX8_readsOrder_23 ?_
  have r3 : ((fr E 6 (upd (upd z 3 (chT (E 5) pl a)) 2 (nI (a + 1)))) 6 3 : Int32) = chT (E 5) pl a := by rw [fr_same, pk_un (by decide), pk_us]
  refine hV_st (st' := [.int (chT (E 5) pl a)]) (congrArg (fun z => Value.int z :: []) r3) ?_
  by_cases sx4 : (chT (E 5) pl a : Int32) = 43
  · refine hlookup (off := 50) (tgt := 76) X dX8_readsOrder_26 (by decide) (by rw [sx4]; decide) (by decide) ?_
    refine haload_n X dX8_readsOrder_76 rfl ?_
    refine hcallV0e (C := RX8) (T := TX8) (N := 14) (As := []) (rest := []) X (q0 := 0) (kX8_readsStand l G q E (upd (upd z 3 (chT (E 5) pl a)) 2 (nI (a + 1))) pl (a + 1) (hpl) (by rw [pk_un (by decide), pk_un (by decide)]; exact h1) (by rw [pk_us]) (by omega)) gX8_readsOrder_X8_readsStand rfl (n := 0) (by decide +kernel) (by decide) rfl rfl rfl rfl (Nat.le_of_ble_eq_true rfl) dX8_readsOrder_77 rfl rfl (by decide) ?_
    rintro _ _ ⟨rfl, y5, hy0_5, hy1_5, hy3_5, hy2_5, hy4_5, hy5_5, hy6_5, hy7_5, rfl⟩
    refine hV_st (st' := [.int (bI (¬ (s3T (E 5) pl (a + 1)).1 < 0 ∧ ¬ (s4T (E 5) pl (a + 1)).1 = -1))]) rfl ?_
    refine hzret X bI_nar dX8_readsOrder_80 ⟨congrArg (fun z => some (Value.int z)) (?_ : bI (¬ (s3T (E 5) pl (a + 1)).1 < 0 ∧ ¬ (s4T (E 5) pl (a + 1)).1 = -1) = bI (roB (E 5) pl a = true)), y5, ?_, ?_, ?_, ?_, ?_, ?_, ?_, rfl⟩
    · simp [bI, roB, c2T, rs2, sx4]
    · simp [upd, hy0_5, hy1_5, hy3_5, hy2_5, hy4_5, hy5_5, hy6_5, hy7_5]
    · simp [upd, hy0_5, hy1_5, hy3_5, hy2_5, hy4_5, hy5_5, hy6_5, hy7_5]
    · simp [upd, roA, c2T, rs2, hy0_5, hy1_5, hy3_5, hy2_5, hy4_5, hy5_5, hy6_5, hy7_5, sx4]
    · simp [upd, hy0_5, hy1_5, hy3_5, hy2_5, hy4_5, hy5_5, hy6_5, hy7_5]
    · simp [upd, c2T, rs2, hy0_5, hy1_5, hy3_5, hy2_5, hy4_5, hy5_5, hy6_5, hy7_5, sx4]
    · simp [upd, c2T, rs2, hy0_5, hy1_5, hy3_5, hy2_5, hy4_5, hy5_5, hy6_5, hy7_5, sx4]
    · simp [upd, c2T, rs2, hy0_5, hy1_5, hy3_5, hy2_5, hy4_5, hy5_5, hy6_5, hy7_5, sx4]
  by_cases sx6 : (chT (E 5) pl a : Int32) = 99
  · refine hlookup (off := 55) (tgt := 81) X dX8_readsOrder_26 (by decide) (by rw [sx6]; decide) (by decide) ?_
    refine haload_n X dX8_readsOrder_81 rfl ?_
    refine haload_n X dX8_readsOrder_82 rfl ?_
    refine hiconst (v := 1) X dX8_readsOrder_83 rfl ?_
    refine hcallV0 (C := RX8) (T := TX8) (N := 14) (As := [.int 1]) (rest := [.ref (q 0)]) (st' := [.int ((tdT (E 5) pl (a + 1) 1).1), .ref (q 0)]) (w := mW G q (fr E 6 (upd (upd (upd z 3 (chT (E 5) pl a)) 2 (nI (a + 1))) 2 (nI (tdT (E 5) pl (a + 1) 1).2)))) X (q0 := 0) (kX8_takeDigit l G q E (upd (upd z 3 (chT (E 5) pl a)) 2 (nI (a + 1))) pl (a + 1) 1 (hpl) (by rw [pk_un (by decide), pk_un (by decide)]; exact h1) (by rw [pk_us]) (by omega)) gX8_readsOrder_X8_takeDigit rfl (n := 1) (by decide +kernel) (by decide) rfl rfl rfl rfl (Nat.le_of_ble_eq_true rfl) dX8_readsOrder_84 rfl rfl (by decide) rfl ?_
    refine hput1 X (T := TX8) (N := 14) iX8 tyX8 tyX8_ok nmX8 0 rfl rfl 10 (by decide) (by decide +kernel) (by decide +kernel) rfl rfl (Nat.le_of_ble_eq_true rfl) dX8_readsOrder_87 (ws' := mW G q (fr E 6 (upd (upd (upd (upd z 3 (chT (E 5) pl a)) 2 (nI (a + 1))) 2 (nI (tdT (E 5) pl (a + 1) 1).2)) 4 ((tdT (E 5) pl (a + 1) 1).1)))) (mWg10 G q _ _ _) ?_
    refine haload_n X dX8_readsOrder_90 rfl ?_
    refine haload_n X dX8_readsOrder_91 rfl ?_
    refine hget1 X (T := TX8) (N := 14) iX8 0 rfl rfl 10 (by decide) (by decide +kernel) rfl dX8_readsOrder_92 ?_
    have r7 : ((fr E 6 (upd (upd (upd (upd z 3 (chT (E 5) pl a)) 2 (nI (a + 1))) 2 (nI (tdT (E 5) pl (a + 1) 1).2)) 4 ((tdT (E 5) pl (a + 1) 1).1))) 6 4 : Int32) = (tdT (E 5) pl (a + 1) 1).1 := by rw [fr_same, pk_us]
    refine hV_st (st' := [.int ((tdT (E 5) pl (a + 1) 1).1), .ref (q 0)]) (congrArg (fun z => Value.int z :: [.ref (q 0)]) r7) ?_
    refine hif_lt (tgt := 114) X dX8_readsOrder_95 (by decide) (fun c8 => ?_) (fun c8 => ?_)
    · refine hiconst (v := (-1)) X dX8_readsOrder_114 rfl ?_
      refine hput1 X (T := TX8) (N := 14) iX8 tyX8 tyX8_ok nmX8 0 rfl rfl 11 (by decide) (by decide +kernel) (by decide +kernel) rfl rfl (Nat.le_of_ble_eq_true rfl) dX8_readsOrder_115 (ws' := mW G q (fr E 6 (upd (upd (upd (upd (upd z 3 (chT (E 5) pl a)) 2 (nI (a + 1))) 2 (nI (tdT (E 5) pl (a + 1) 1).2)) 4 ((tdT (E 5) pl (a + 1) 1).1)) 5 (-1)))) (mWg11 G q _ _ _) ?_
      refine haload_n X dX8_readsOrder_118 rfl ?_
      refine hget1 X (T := TX8) (N := 14) iX8 0 rfl rfl 11 (by decide) (by decide +kernel) rfl dX8_readsOrder_119 ?_
      have r9 : ((fr E 6 (upd (upd (upd (upd (upd z 3 (chT (E 5) pl a)) 2 (nI (a + 1))) 2 (nI (tdT (E 5) pl (a + 1) 1).2)) 4 ((tdT (E 5) pl (a + 1) 1).1)) 5 (-1))) 6 5 : Int32) = -1 := by rw [fr_same, pk_us]
      refine hV_st (st' := [.int (-1)]) (congrArg (fun z => Value.int z :: []) r9) ?_
      refine hif_lt (tgt := 129) X dX8_readsOrder_122 (by decide) (fun c10 => ?_) (fun c10 => ?_)
      rotate_left
      · exact absurd (by decide) c10
      refine hiconst (v := 0) X dX8_readsOrder_129 rfl ?_
      refine hzret X rfl dX8_readsOrder_130 ⟨congrArg (fun z => some (Value.int z)) (?_ : 0 = bI (roB (E 5) pl a = true)), (upd (upd (upd (upd (upd z 3 (chT (E 5) pl a)) 2 (nI (a + 1))) 2 (nI (tdT (E 5) pl (a + 1) 1).2)) 4 ((tdT (E 5) pl (a + 1) 1).1)) 5 (-1)), ?_, ?_, ?_, ?_, ?_, ?_, ?_, rfl⟩
      · simp [bI, roB, c2T, rs2, sx4, sx6, c8]
      · simp [upd]
      · simp [upd]
      · simp [upd, roA, c2T, rs2, sx4, sx6, c8]
      · simp [upd]
      · simp [upd, c2T, rs2, sx4, sx6, c8]
      · simp [upd, c2T, rs2, sx4, sx6, c8]
      · simp [upd, c2T, rs2, sx4, sx6, c8]
    · refine haload_n X dX8_readsOrder_98 rfl ?_
      refine hbipush (v := 36) X dX8_readsOrder_99 rfl ?_
      refine hcallV0 (C := RX8) (T := TX8) (N := 14) (As := [.int 36]) (rest := [.ref (q 0)]) (st' := [.int (bI (chT (E 5) pl ((tdT (E 5) pl (a + 1) 1).2) = 36)), .ref (q 0)]) (w := mW G q (fr E 6 (upd (upd (upd (upd (upd z 3 (chT (E 5) pl a)) 2 (nI (a + 1))) 2 (nI (tdT (E 5) pl (a + 1) 1).2)) 4 ((tdT (E 5) pl (a + 1) 1).1)) 2 (nI (nxA (E 5) pl ((tdT (E 5) pl (a + 1) 1).2) 36))))) X (q0 := 0) (kX8_isNext l G q E (upd (upd (upd (upd z 3 (chT (E 5) pl a)) 2 (nI (a + 1))) 2 (nI (tdT (E 5) pl (a + 1) 1).2)) 4 ((tdT (E 5) pl (a + 1) 1).1)) pl ((tdT (E 5) pl (a + 1) 1).2) 36 (hpl) (by rw [pk_un (by decide), pk_un (by decide), pk_un (by decide), pk_un (by decide)]; exact h1) (by rw [pk_un (by decide), pk_us]) (by have := tdT_le (E 5) pl (a + 1) 1; omega)) gX8_readsOrder_X8_isNext rfl (n := 1) (by decide +kernel) (by decide) rfl rfl rfl rfl (Nat.le_of_ble_eq_true rfl) dX8_readsOrder_101 rfl rfl (by decide) rfl ?_
      refine hif_eqB (tgt := 114) X dX8_readsOrder_104 (by decide) (fun c11 => ?_) (fun c11 => ?_)
      · have b12 : nxA (E 5) pl ((tdT (E 5) pl (a + 1) 1).2) 36 = (tdT (E 5) pl (a + 1) 1).2 := by simp [nxA, c11]
        rw [b12]
        refine hiconst (v := (-1)) X dX8_readsOrder_114 rfl ?_
        refine hput1 X (T := TX8) (N := 14) iX8 tyX8 tyX8_ok nmX8 0 rfl rfl 11 (by decide) (by decide +kernel) (by decide +kernel) rfl rfl (Nat.le_of_ble_eq_true rfl) dX8_readsOrder_115 (ws' := mW G q (fr E 6 (upd (upd (upd (upd (upd (upd z 3 (chT (E 5) pl a)) 2 (nI (a + 1))) 2 (nI (tdT (E 5) pl (a + 1) 1).2)) 4 ((tdT (E 5) pl (a + 1) 1).1)) 2 (nI ((tdT (E 5) pl (a + 1) 1).2))) 5 (-1)))) (mWg11 G q _ _ _) ?_
        refine haload_n X dX8_readsOrder_118 rfl ?_
        refine hget1 X (T := TX8) (N := 14) iX8 0 rfl rfl 11 (by decide) (by decide +kernel) rfl dX8_readsOrder_119 ?_
        have r13 : ((fr E 6 (upd (upd (upd (upd (upd (upd z 3 (chT (E 5) pl a)) 2 (nI (a + 1))) 2 (nI (tdT (E 5) pl (a + 1) 1).2)) 4 ((tdT (E 5) pl (a + 1) 1).1)) 2 (nI ((tdT (E 5) pl (a + 1) 1).2))) 5 (-1))) 6 5 : Int32) = -1 := by rw [fr_same, pk_us]
        refine hV_st (st' := [.int (-1)]) (congrArg (fun z => Value.int z :: []) r13) ?_
        refine hif_lt (tgt := 129) X dX8_readsOrder_122 (by decide) (fun c14 => ?_) (fun c14 => ?_)
        rotate_left
        · exact absurd (by decide) c14
        refine hiconst (v := 0) X dX8_readsOrder_129 rfl ?_
        refine hzret X rfl dX8_readsOrder_130 ⟨congrArg (fun z => some (Value.int z)) (?_ : 0 = bI (roB (E 5) pl a = true)), (upd (upd (upd (upd (upd (upd z 3 (chT (E 5) pl a)) 2 (nI (a + 1))) 2 (nI (tdT (E 5) pl (a + 1) 1).2)) 4 ((tdT (E 5) pl (a + 1) 1).1)) 2 (nI ((tdT (E 5) pl (a + 1) 1).2))) 5 (-1)), ?_, ?_, ?_, ?_, ?_, ?_, ?_, rfl⟩
        · simp [bI, roB, c2T, rs2, sx4, sx6, c8, c11]
        · simp [upd]
        · simp [upd]
        · simp [upd, roA, c2T, rs2, sx4, sx6, c8, c11]
        · simp [upd]
        · simp [upd, c2T, rs2, sx4, sx6, c8, c11]
        · simp [upd, c2T, rs2, sx4, sx6, c8, c11]
        · simp [upd, c2T, rs2, sx4, sx6, c8, c11]
      · have b15 : nxA (E 5) pl ((tdT (E 5) pl (a + 1) 1).2) 36 = ((tdT (E 5) pl (a + 1) 1).2 + 1) := by simp [nxA, c11]
        rw [b15]
        refine haload_n X dX8_readsOrder_107 rfl ?_
        refine hcallV0 (C := RX8) (T := TX8) (N := 14) (As := []) (rest := [.ref (q 0)]) (st' := [.int ((tnT (E 5) pl ((tdT (E 5) pl (a + 1) 1).2 + 1)).1), .ref (q 0)]) (w := mW G q (fr E 6 (upd (upd (upd (upd (upd (upd z 3 (chT (E 5) pl a)) 2 (nI (a + 1))) 2 (nI (tdT (E 5) pl (a + 1) 1).2)) 4 ((tdT (E 5) pl (a + 1) 1).1)) 2 (nI (((tdT (E 5) pl (a + 1) 1).2 + 1)))) 2 (nI (tnT (E 5) pl ((tdT (E 5) pl (a + 1) 1).2 + 1)).2)))) X (q0 := 0) (kX8_takeNumber l G q E (upd (upd (upd (upd (upd z 3 (chT (E 5) pl a)) 2 (nI (a + 1))) 2 (nI (tdT (E 5) pl (a + 1) 1).2)) 4 ((tdT (E 5) pl (a + 1) 1).1)) 2 (nI (((tdT (E 5) pl (a + 1) 1).2 + 1)))) pl ((tdT (E 5) pl (a + 1) 1).2 + 1) (hpl) (by rw [pk_un (by decide), pk_un (by decide), pk_un (by decide), pk_un (by decide), pk_un (by decide)]; exact h1) (by rw [pk_us]) (by have := tdT_le (E 5) pl (a + 1) 1; omega)) gX8_readsOrder_X8_takeNumber rfl (n := 0) (by decide +kernel) (by decide) rfl rfl rfl rfl (Nat.le_of_ble_eq_true rfl) dX8_readsOrder_108 rfl rfl (by decide) rfl ?_
        refine hgoto (tgt := 115) X dX8_readsOrder_111 (by decide) ?_
        refine hput1 X (T := TX8) (N := 14) iX8 tyX8 tyX8_ok nmX8 0 rfl rfl 11 (by decide) (by decide +kernel) (by decide +kernel) rfl rfl (Nat.le_of_ble_eq_true rfl) dX8_readsOrder_115 (ws' := mW G q (fr E 6 (upd (upd (upd (upd (upd (upd (upd z 3 (chT (E 5) pl a)) 2 (nI (a + 1))) 2 (nI (tdT (E 5) pl (a + 1) 1).2)) 4 ((tdT (E 5) pl (a + 1) 1).1)) 2 (nI (((tdT (E 5) pl (a + 1) 1).2 + 1)))) 2 (nI (tnT (E 5) pl ((tdT (E 5) pl (a + 1) 1).2 + 1)).2)) 5 ((tnT (E 5) pl ((tdT (E 5) pl (a + 1) 1).2 + 1)).1)))) (mWg11 G q _ _ _) ?_
        refine haload_n X dX8_readsOrder_118 rfl ?_
        refine hget1 X (T := TX8) (N := 14) iX8 0 rfl rfl 11 (by decide) (by decide +kernel) rfl dX8_readsOrder_119 ?_
        have r16 : ((fr E 6 (upd (upd (upd (upd (upd (upd (upd z 3 (chT (E 5) pl a)) 2 (nI (a + 1))) 2 (nI (tdT (E 5) pl (a + 1) 1).2)) 4 ((tdT (E 5) pl (a + 1) 1).1)) 2 (nI (((tdT (E 5) pl (a + 1) 1).2 + 1)))) 2 (nI (tnT (E 5) pl ((tdT (E 5) pl (a + 1) 1).2 + 1)).2)) 5 ((tnT (E 5) pl ((tdT (E 5) pl (a + 1) 1).2 + 1)).1))) 6 5 : Int32) = (tnT (E 5) pl ((tdT (E 5) pl (a + 1) 1).2 + 1)).1 := by rw [fr_same, pk_us]
        refine hV_st (st' := [.int ((tnT (E 5) pl ((tdT (E 5) pl (a + 1) 1).2 + 1)).1)]) (congrArg (fun z => Value.int z :: []) r16) ?_
        refine hif_lt (tgt := 129) X dX8_readsOrder_122 (by decide) (fun c17 => ?_) (fun c17 => ?_)
        · refine hiconst (v := 0) X dX8_readsOrder_129 rfl ?_
          refine hzret X rfl dX8_readsOrder_130 ⟨congrArg (fun z => some (Value.int z)) (?_ : 0 = bI (roB (E 5) pl a = true)), (upd (upd (upd (upd (upd (upd (upd z 3 (chT (E 5) pl a)) 2 (nI (a + 1))) 2 (nI (tdT (E 5) pl (a + 1) 1).2)) 4 ((tdT (E 5) pl (a + 1) 1).1)) 2 (nI (((tdT (E 5) pl (a + 1) 1).2 + 1)))) 2 (nI (tnT (E 5) pl ((tdT (E 5) pl (a + 1) 1).2 + 1)).2)) 5 ((tnT (E 5) pl ((tdT (E 5) pl (a + 1) 1).2 + 1)).1)), ?_, ?_, ?_, ?_, ?_, ?_, ?_, rfl⟩
          · simp [bI, roB, c2T, rs2, sx4, sx6, c8, c11, c17]
          · simp [upd]
          · simp [upd]
          · simp [upd, roA, c2T, rs2, sx4, sx6, c8, c11, c17]
          · simp [upd]
          · simp [upd, c2T, rs2, sx4, sx6, c8, c11, c17]
          · simp [upd, c2T, rs2, sx4, sx6, c8, c11, c17]
          · simp [upd, c2T, rs2, sx4, sx6, c8, c11, c17]
        · refine hiconst (v := 1) X dX8_readsOrder_125 rfl ?_
          refine hgoto (tgt := 130) X dX8_readsOrder_126 (by decide) ?_
          refine hzret X rfl dX8_readsOrder_130 ⟨congrArg (fun z => some (Value.int z)) (?_ : 1 = bI (roB (E 5) pl a = true)), (upd (upd (upd (upd (upd (upd (upd z 3 (chT (E 5) pl a)) 2 (nI (a + 1))) 2 (nI (tdT (E 5) pl (a + 1) 1).2)) 4 ((tdT (E 5) pl (a + 1) 1).1)) 2 (nI (((tdT (E 5) pl (a + 1) 1).2 + 1)))) 2 (nI (tnT (E 5) pl ((tdT (E 5) pl (a + 1) 1).2 + 1)).2)) 5 ((tnT (E 5) pl ((tdT (E 5) pl (a + 1) 1).2 + 1)).1)), ?_, ?_, ?_, ?_, ?_, ?_, ?_, rfl⟩
          · simp [bI, roB, c2T, rs2, sx4, sx6, c8, c11, c17]
          · simp [upd]
          · simp [upd]
          · simp [upd, roA, c2T, rs2, sx4, sx6, c8, c11, c17]
          · simp [upd]
          · simp [upd, c2T, rs2, sx4, sx6, c8, c11, c17]
          · simp [upd, c2T, rs2, sx4, sx6, c8, c11, c17]
          · simp [upd, c2T, rs2, sx4, sx6, c8, c11, c17]
  by_cases sx18 : (chT (E 5) pl a : Int32) = 100
  · refine hlookup (off := 105) (tgt := 131) X dX8_readsOrder_26 (by decide) (by rw [sx18]; decide) (by decide) ?_
    refine haload_n X dX8_readsOrder_131 rfl ?_
    refine haload_n X dX8_readsOrder_132 rfl ?_
    refine hcallV0 (C := RX8) (T := TX8) (N := 14) (As := []) (rest := [.ref (q 0)]) (st' := [.int ((tnT (E 5) pl (a + 1)).1), .ref (q 0)]) (w := mW G q (fr E 6 (upd (upd (upd z 3 (chT (E 5) pl a)) 2 (nI (a + 1))) 2 (nI (tnT (E 5) pl (a + 1)).2)))) X (q0 := 0) (kX8_takeNumber l G q E (upd (upd z 3 (chT (E 5) pl a)) 2 (nI (a + 1))) pl (a + 1) (hpl) (by rw [pk_un (by decide), pk_un (by decide)]; exact h1) (by rw [pk_us]) (by omega)) gX8_readsOrder_X8_takeNumber rfl (n := 0) (by decide +kernel) (by decide) rfl rfl rfl rfl (Nat.le_of_ble_eq_true rfl) dX8_readsOrder_133 rfl rfl (by decide) rfl ?_
    refine hput1 X (T := TX8) (N := 14) iX8 tyX8 tyX8_ok nmX8 0 rfl rfl 10 (by decide) (by decide +kernel) (by decide +kernel) rfl rfl (Nat.le_of_ble_eq_true rfl) dX8_readsOrder_136 (ws' := mW G q (fr E 6 (upd (upd (upd (upd z 3 (chT (E 5) pl a)) 2 (nI (a + 1))) 2 (nI (tnT (E 5) pl (a + 1)).2)) 4 ((tnT (E 5) pl (a + 1)).1)))) (mWg10 G q _ _ _) ?_
    refine haload_n X dX8_readsOrder_139 rfl ?_
    refine hget1 X (T := TX8) (N := 14) iX8 0 rfl rfl 10 (by decide) (by decide +kernel) rfl dX8_readsOrder_140 ?_
    have r19 : ((fr E 6 (upd (upd (upd (upd z 3 (chT (E 5) pl a)) 2 (nI (a + 1))) 2 (nI (tnT (E 5) pl (a + 1)).2)) 4 ((tnT (E 5) pl (a + 1)).1))) 6 4 : Int32) = (tnT (E 5) pl (a + 1)).1 := by rw [fr_same, pk_us]
    refine hV_st (st' := [.int ((tnT (E 5) pl (a + 1)).1)]) (congrArg (fun z => Value.int z :: []) r19) ?_
    refine hif_lt (tgt := 150) X dX8_readsOrder_143 (by decide) (fun c20 => ?_) (fun c20 => ?_)
    · refine hiconst (v := 0) X dX8_readsOrder_150 rfl ?_
      refine hzret X rfl dX8_readsOrder_151 ⟨congrArg (fun z => some (Value.int z)) (?_ : 0 = bI (roB (E 5) pl a = true)), (upd (upd (upd (upd z 3 (chT (E 5) pl a)) 2 (nI (a + 1))) 2 (nI (tnT (E 5) pl (a + 1)).2)) 4 ((tnT (E 5) pl (a + 1)).1)), ?_, ?_, ?_, ?_, ?_, ?_, ?_, rfl⟩
      · simp [bI, roB, c2T, rs2, sx4, sx6, sx18, c20]
      · simp [upd]
      · simp [upd]
      · simp [upd, roA, c2T, rs2, sx4, sx6, sx18, c20]
      · simp [upd]
      · simp [upd, c2T, rs2, sx4, sx6, sx18, c20]
      · simp [upd, c2T, rs2, sx4, sx6, sx18, c20]
      · simp [upd, c2T, rs2, sx4, sx6, sx18, c20]
    · refine hiconst (v := 1) X dX8_readsOrder_146 rfl ?_
      refine hgoto (tgt := 151) X dX8_readsOrder_147 (by decide) ?_
      refine hzret X rfl dX8_readsOrder_151 ⟨congrArg (fun z => some (Value.int z)) (?_ : 1 = bI (roB (E 5) pl a = true)), (upd (upd (upd (upd z 3 (chT (E 5) pl a)) 2 (nI (a + 1))) 2 (nI (tnT (E 5) pl (a + 1)).2)) 4 ((tnT (E 5) pl (a + 1)).1)), ?_, ?_, ?_, ?_, ?_, ?_, ?_, rfl⟩
      · simp [bI, roB, c2T, rs2, sx4, sx6, sx18, c20]
      · simp [upd]
      · simp [upd]
      · simp [upd, roA, c2T, rs2, sx4, sx6, sx18, c20]
      · simp [upd]
      · simp [upd, c2T, rs2, sx4, sx6, sx18, c20]
      · simp [upd, c2T, rs2, sx4, sx6, sx18, c20]
      · simp [upd, c2T, rs2, sx4, sx6, sx18, c20]
  by_cases sx21 : (chT (E 5) pl a : Int32) = 101
  · refine hlookup (off := 126) (tgt := 152) X dX8_readsOrder_26 (by decide) (by rw [sx21]; decide) (by decide) ?_
    refine hiconst (v := 1) X dX8_readsOrder_152 rfl ?_
    refine hzret X rfl dX8_readsOrder_153 ⟨congrArg (fun z => some (Value.int z)) (?_ : 1 = bI (roB (E 5) pl a = true)), (upd (upd z 3 (chT (E 5) pl a)) 2 (nI (a + 1))), ?_, ?_, ?_, ?_, ?_, ?_, ?_, rfl⟩
    · simp [bI, roB, c2T, rs2, sx4, sx6, sx18, sx21]
    · simp [upd]
    · simp [upd]
    · simp [upd, roA, c2T, rs2, sx4, sx6, sx18, sx21]
    · simp [upd]
    · simp [upd, c2T, rs2, sx4, sx6, sx18, sx21]
    · simp [upd, c2T, rs2, sx4, sx6, sx18, sx21]
    · simp [upd, c2T, rs2, sx4, sx6, sx18, sx21]
  by_cases sx22 : (chT (E 5) pl a : Int32) = 116
  · refine hlookup (off := 105) (tgt := 131) X dX8_readsOrder_26 (by decide) (by rw [sx22]; decide) (by decide) ?_
    refine haload_n X dX8_readsOrder_131 rfl ?_
    refine haload_n X dX8_readsOrder_132 rfl ?_
    refine hcallV0 (C := RX8) (T := TX8) (N := 14) (As := []) (rest := [.ref (q 0)]) (st' := [.int ((tnT (E 5) pl (a + 1)).1), .ref (q 0)]) (w := mW G q (fr E 6 (upd (upd (upd z 3 (chT (E 5) pl a)) 2 (nI (a + 1))) 2 (nI (tnT (E 5) pl (a + 1)).2)))) X (q0 := 0) (kX8_takeNumber l G q E (upd (upd z 3 (chT (E 5) pl a)) 2 (nI (a + 1))) pl (a + 1) (hpl) (by rw [pk_un (by decide), pk_un (by decide)]; exact h1) (by rw [pk_us]) (by omega)) gX8_readsOrder_X8_takeNumber rfl (n := 0) (by decide +kernel) (by decide) rfl rfl rfl rfl (Nat.le_of_ble_eq_true rfl) dX8_readsOrder_133 rfl rfl (by decide) rfl ?_
    refine hput1 X (T := TX8) (N := 14) iX8 tyX8 tyX8_ok nmX8 0 rfl rfl 10 (by decide) (by decide +kernel) (by decide +kernel) rfl rfl (Nat.le_of_ble_eq_true rfl) dX8_readsOrder_136 (ws' := mW G q (fr E 6 (upd (upd (upd (upd z 3 (chT (E 5) pl a)) 2 (nI (a + 1))) 2 (nI (tnT (E 5) pl (a + 1)).2)) 4 ((tnT (E 5) pl (a + 1)).1)))) (mWg10 G q _ _ _) ?_
    refine haload_n X dX8_readsOrder_139 rfl ?_
    refine hget1 X (T := TX8) (N := 14) iX8 0 rfl rfl 10 (by decide) (by decide +kernel) rfl dX8_readsOrder_140 ?_
    have r23 : ((fr E 6 (upd (upd (upd (upd z 3 (chT (E 5) pl a)) 2 (nI (a + 1))) 2 (nI (tnT (E 5) pl (a + 1)).2)) 4 ((tnT (E 5) pl (a + 1)).1))) 6 4 : Int32) = (tnT (E 5) pl (a + 1)).1 := by rw [fr_same, pk_us]
    refine hV_st (st' := [.int ((tnT (E 5) pl (a + 1)).1)]) (congrArg (fun z => Value.int z :: []) r23) ?_
    refine hif_lt (tgt := 150) X dX8_readsOrder_143 (by decide) (fun c24 => ?_) (fun c24 => ?_)
    · refine hiconst (v := 0) X dX8_readsOrder_150 rfl ?_
      refine hzret X rfl dX8_readsOrder_151 ⟨congrArg (fun z => some (Value.int z)) (?_ : 0 = bI (roB (E 5) pl a = true)), (upd (upd (upd (upd z 3 (chT (E 5) pl a)) 2 (nI (a + 1))) 2 (nI (tnT (E 5) pl (a + 1)).2)) 4 ((tnT (E 5) pl (a + 1)).1)), ?_, ?_, ?_, ?_, ?_, ?_, ?_, rfl⟩
      · simp [bI, roB, c2T, rs2, sx4, sx6, sx18, sx21, sx22, c24]
      · simp [upd]
      · simp [upd]
      · simp [upd, roA, c2T, rs2, sx4, sx6, sx18, sx21, sx22, c24]
      · simp [upd]
      · simp [upd, c2T, rs2, sx4, sx6, sx18, sx21, sx22, c24]
      · simp [upd, c2T, rs2, sx4, sx6, sx18, sx21, sx22, c24]
      · simp [upd, c2T, rs2, sx4, sx6, sx18, sx21, sx22, c24]
    · refine hiconst (v := 1) X dX8_readsOrder_146 rfl ?_
      refine hgoto (tgt := 151) X dX8_readsOrder_147 (by decide) ?_
      refine hzret X rfl dX8_readsOrder_151 ⟨congrArg (fun z => some (Value.int z)) (?_ : 1 = bI (roB (E 5) pl a = true)), (upd (upd (upd (upd z 3 (chT (E 5) pl a)) 2 (nI (a + 1))) 2 (nI (tnT (E 5) pl (a + 1)).2)) 4 ((tnT (E 5) pl (a + 1)).1)), ?_, ?_, ?_, ?_, ?_, ?_, ?_, rfl⟩
      · simp [bI, roB, c2T, rs2, sx4, sx6, sx18, sx21, sx22, c24]
      · simp [upd]
      · simp [upd]
      · simp [upd, roA, c2T, rs2, sx4, sx6, sx18, sx21, sx22, c24]
      · simp [upd]
      · simp [upd, c2T, rs2, sx4, sx6, sx18, sx21, sx22, c24]
      · simp [upd, c2T, rs2, sx4, sx6, sx18, sx21, sx22, c24]
      · simp [upd, c2T, rs2, sx4, sx6, sx18, sx21, sx22, c24]
  refine hlookup (off := 128) (tgt := 154) X dX8_readsOrder_26 (by decide) (by show Op.lookupswitch.offset [(43, 50), (99, 55), (100, 105), (101, 126), (116, 105)] (128) _ = (128); rw [lv_osw sx4 (by decide), lv_osw sx6 (by decide), lv_osw sx18 (by decide), lv_osw sx21 (by decide), lv_osw sx22 (by decide)]; rfl) (by decide) ?_
  refine haload_n X dX8_readsOrder_154 rfl ?_
  refine hdup X dX8_readsOrder_155 rfl ?_
  refine hget1 X (T := TX8) (N := 14) iX8 0 rfl rfl 8 (by decide) (by decide +kernel) rfl dX8_readsOrder_156 ?_
  have r25 : ((fr E 6 (upd (upd z 3 (chT (E 5) pl a)) 2 (nI (a + 1)))) 6 2 : Int32) = nI (a + 1) := by rw [fr_same, pk_us]
  refine hV_st (st' := [.int (nI (a + 1)), .ref (q 0)]) (congrArg (fun z => Value.int z :: [.ref (q 0)]) r25) ?_
  refine hiconst (v := 1) X dX8_readsOrder_159 rfl ?_
  refine hisub X dX8_readsOrder_160 ?_
  refine hV_st (st' := [.int (nI a), .ref (q 0)]) (congrArg (fun z => Value.int z :: [.ref (q 0)]) (nI_pred a)) ?_
  refine hput1 X (T := TX8) (N := 14) iX8 tyX8 tyX8_ok nmX8 0 rfl rfl 8 (by decide) (by decide +kernel) (by decide +kernel) rfl rfl (Nat.le_of_ble_eq_true rfl) dX8_readsOrder_161 (ws' := mW G q (fr E 6 (upd (upd (upd z 3 (chT (E 5) pl a)) 2 (nI (a + 1))) 2 (nI a)))) (mWg8 G q _ _ _) ?_
  refine hiconst (v := 0) X dX8_readsOrder_164 rfl ?_
  refine hzret X rfl dX8_readsOrder_165 ⟨congrArg (fun z => some (Value.int z)) (?_ : 0 = bI (roB (E 5) pl a = true)), (upd (upd (upd z 3 (chT (E 5) pl a)) 2 (nI (a + 1))) 2 (nI a)), ?_, ?_, ?_, ?_, ?_, ?_, ?_, rfl⟩
  · simp [bI, roB, c2T, rs2, sx4, sx6, sx18, sx21, sx22]
  · simp [upd]
  · simp [upd]
  · simp [upd, roA, c2T, rs2, sx4, sx6, sx18, sx21, sx22]
  · simp [upd]
  · simp [upd, c2T, rs2, sx4, sx6, sx18, sx21, sx22]
  · simp [upd, c2T, rs2, sx4, sx6, sx18, sx21, sx22]
  · simp [upd, c2T, rs2, sx4, sx6, sx18, sx21, sx22]

set_option maxHeartbeats 4000000 in
set_option maxRecDepth 100000 in
theorem kX8_findFault (l : Launch) (G : hG) (q : Nat → Nat) (E : hF) (z : Nat → Int32) (pl : Nat) (hpl : pl ≤ 80) (h1 : z 1 = nI pl) : hM l G yX8_findFault wsX8_findFault ({ frames := 6, cells := 0, slots := 0, locals := 145 }) (mW G q (fr E 6 z)) [.ref (q 0)] (fun v w => v = some (.int (ffT (E 5) pl 81 0)) ∧ ∃ z' : Nat → Int32, z' 0 = z 0 ∧ z' 1 = z 1 ∧ w = mW G q (fr E 6 z')) := by
  refine hM_of (cc := cX8_findFault) (maxL := 1) (ret := (some .int)) (by decide) rfl (Nat.le_of_ble_eq_true rfl) ?_
  intro pp ee ss mm aa bb me cd X hin
  have iX8 : ∀ w ∈ wsX80, w ∈ wsX8_findFault := by decide +kernel
  have L : ∀ (d : Nat) (f a : Nat) (z1 : Nat → Int32), (a ≤ pl) → (pl - a < f) → (z1 0 = z 0) → (z1 1 = nI pl) → (z1 2 = nI a) → (ffT (E 5) pl f a = ffT (E 5) pl 81 0) → (f) < d → hV pp l ee ({ frames := 6, cells := 0, slots := 0, locals := 145 }) ss mm aa bb me cd G (va_A (mW G q (fr E 6 z)) ss.heap.size) 1 0 0 (MQ bb (hQc G (mW G q (fr E 6 z)) ss.heap.size (fun v w => v = some (.int (ffT (E 5) pl 81 0)) ∧ ∃ z' : Nat → Int32, z' 0 = z 0 ∧ z' 1 = z 1 ∧ w = mW G q (fr E 6 z'))) aa ss 0 0 (va_A (mW G q (fr E 6 z)) ss.heap.size)) (mW G q (fr E 6 z1)) 5 [(0, .ref (q 0))] [] := by
    intro d
    induction d with
    | zero =>
      intro f a z1 ha hf hz0 hz1 hz2 hE hd0
      exact absurd hd0 (Nat.not_lt_zero _)
    | succ d ih =>
      intro f a z1 ha hf hz0 hz1 hz2 hE hd0
      obtain ⟨f, rfl⟩ : ∃ f1, f = f1 + 1 := ⟨f - 1, by omega⟩
      refine haload_n X dX8_findFault_5 rfl ?_
      refine hcallV0e (C := RX8) (T := TX8) (N := 14) (As := []) (rest := []) X (q0 := 0) (kX8_readsOrder l G q E z1 pl a (hpl) (hz1) (hz2) (by omega)) gX8_findFault_X8_readsOrder rfl (n := 0) (by decide +kernel) (by decide) rfl rfl rfl rfl (Nat.le_of_ble_eq_true rfl) dX8_findFault_6 rfl rfl (by decide) ?_
      rintro _ _ ⟨rfl, y1, hy0_1, hy1_1, hy2_1, hy3_1, hyA_1, hyB_1, hyC_1, rfl⟩
      refine hV_st (st' := [.int (bI (roB (E 5) pl a = true))]) rfl ?_
      refine hif_neB (tgt := 17) X dX8_findFault_9 (by decide) (fun c2 => ?_) (fun c2 => ?_)
      · refine haload_n X dX8_findFault_17 rfl ?_
        refine hget1 X (T := TX8) (N := 14) iX8 0 rfl rfl 8 (by decide) (by decide +kernel) rfl dX8_findFault_18 ?_
        have r3 : ((fr E 6 y1) 6 2 : Int32) = y1 2 := by rw [fr_same]
        refine hV_st (st' := [.int (y1 2)]) (congrArg (fun z => Value.int z :: []) r3) ?_
        refine hV_st (st' := [.int (nI (roA (E 5) pl a))]) (congrArg (fun z => Value.int z :: []) hy2_1) ?_
        refine haload_n X dX8_findFault_21 rfl ?_
        refine hget1 X (T := TX8) (N := 14) iX8 0 rfl rfl 7 (by decide) (by decide +kernel) rfl dX8_findFault_22 ?_
        have r4 : ((fr E 6 y1) 6 1 : Int32) = y1 1 := by rw [fr_same]
        refine hV_st (st' := [.int (y1 1), .int (nI (roA (E 5) pl a))]) (congrArg (fun z => Value.int z :: [.int (nI (roA (E 5) pl a))]) r4) ?_
        refine hV_st (st' := [.int (nI pl), .int (nI (roA (E 5) pl a))]) (congrArg (fun z => Value.int z :: [.int (nI (roA (E 5) pl a))]) (hy1_1.trans hz1)) ?_
        refine hicmp_ne (tgt := 31) X dX8_findFault_25 (by decide) (fun c5 => ?_) (fun c5 => ?_)
        · have qn : ¬ roA (E 5) pl a = pl := fun z9 => c5 (by rw [z9])
          refine haload_n X dX8_findFault_31 rfl ?_
          refine hbipush (v := 59) X dX8_findFault_32 rfl ?_
          refine hcallV0 (C := RX8) (T := TX8) (N := 14) (As := [.int 59]) (rest := []) (st' := [.int (bI (chT (E 5) pl (roA (E 5) pl a) = 59))]) (w := mW G q (fr E 6 (upd y1 2 (nI (nxA (E 5) pl (roA (E 5) pl a) 59))))) X (q0 := 0) (kX8_isNext l G q E y1 pl (roA (E 5) pl a) 59 (hpl) (hy1_1.trans hz1) (hy2_1) (by have := roA_le (E 5) pl a; omega)) gX8_findFault_X8_isNext rfl (n := 1) (by decide +kernel) (by decide) rfl rfl rfl rfl (Nat.le_of_ble_eq_true rfl) dX8_findFault_34 rfl rfl (by decide) rfl ?_
          refine hif_neB (tgt := 5) X dX8_findFault_37 (by decide) (fun c6 => ?_) (fun c6 => ?_)
          · have b7 : nxA (E 5) pl (roA (E 5) pl a) 59 = (roA (E 5) pl a + 1) := by simp [nxA, c6]
            rw [b7]
            exact hV_to (ws' := mW G q (fr E 6 (upd y1 2 (nI ((roA (E 5) pl a + 1)))))) (lv' := [(0, .ref (q 0))]) (st' := []) rfl rfl rfl (ih f (roA (E 5) pl a + 1) (upd y1 2 (nI ((roA (E 5) pl a + 1)))) (chT_lt c6 (by decide)) (by have := roA_gt c2; have := chT_lt c6 (by decide); omega) (by rw [pk_un (by decide)]; exact hy0_1.trans hz0) (by rw [pk_un (by decide)]; exact hy1_1.trans hz1) (by rw [pk_us]) (by rw [← hE]; simp [ffT, qn, c2, c5, c6]) (by omega))
          · have b8 : nxA (E 5) pl (roA (E 5) pl a) 59 = roA (E 5) pl a := by simp [nxA, c6]
            rw [b8]
            refine haload_n X dX8_findFault_40 rfl ?_
            refine hget1 X (T := TX8) (N := 14) iX8 0 rfl rfl 8 (by decide) (by decide +kernel) rfl dX8_findFault_41 ?_
            have r9 : ((fr E 6 (upd y1 2 (nI (roA (E 5) pl a)))) 6 2 : Int32) = nI (roA (E 5) pl a) := by rw [fr_same, pk_us]
            refine hV_st (st' := [.int (nI (roA (E 5) pl a))]) (congrArg (fun z => Value.int z :: []) r9) ?_
            refine hiret X dX8_findFault_44 ⟨congrArg (fun z => some (Value.int z)) (?_ : nI (roA (E 5) pl a) = ffT (E 5) pl 81 0), (upd y1 2 (nI (roA (E 5) pl a))), ?_, ?_, rfl⟩
            · rw [← hE]; simp [ffT, qn, c2, c5, c6]
            · rw [pk_un (by decide)]; exact hy0_1.trans hz0
            · rw [pk_un (by decide)]; exact (hy1_1.trans hz1).trans h1.symm
        · have qe : roA (E 5) pl a = pl := (nI_eq (by have := roA_le (E 5) pl a; omega) (by omega)).mp c5
          refine hbipush (v := (-6)) X dX8_findFault_28 rfl ?_
          refine hiret X dX8_findFault_30 ⟨congrArg (fun z => some (Value.int z)) (?_ : (-6) = ffT (E 5) pl 81 0), y1, ?_, ?_, rfl⟩
          · rw [← hE]; simp [ffT, qe, c2, c5]
          · exact hy0_1.trans hz0
          · exact (hy1_1.trans hz1).trans h1.symm
      · refine haload_n X dX8_findFault_12 rfl ?_
        refine hget1 X (T := TX8) (N := 14) iX8 0 rfl rfl 8 (by decide) (by decide +kernel) rfl dX8_findFault_13 ?_
        have r10 : ((fr E 6 y1) 6 2 : Int32) = y1 2 := by rw [fr_same]
        refine hV_st (st' := [.int (y1 2)]) (congrArg (fun z => Value.int z :: []) r10) ?_
        refine hV_st (st' := [.int (nI (roA (E 5) pl a))]) (congrArg (fun z => Value.int z :: []) hy2_1) ?_
        refine hiret X dX8_findFault_16 ⟨congrArg (fun z => some (Value.int z)) (?_ : nI (roA (E 5) pl a) = ffT (E 5) pl 81 0), y1, ?_, ?_, rfl⟩
        · rw [← hE]; simp [ffT, c2]
        · exact hy0_1.trans hz0
        · exact (hy1_1.trans hz1).trans h1.symm
  refine haload_n X dX8_findFault_0 rfl ?_
  refine hiconst (v := 0) X dX8_findFault_1 rfl ?_
  refine hput1 X (T := TX8) (N := 14) iX8 tyX8 tyX8_ok nmX8 0 rfl rfl 8 (by decide) (by decide +kernel) (by decide +kernel) rfl rfl (Nat.le_of_ble_eq_true rfl) dX8_findFault_2 (ws' := mW G q (fr E 6 (upd z 2 0))) (mWg8 G q _ _ _) ?_
  exact hV_to (ws' := mW G q (fr E 6 (upd z 2 0))) (lv' := [(0, .ref (q 0))]) (st' := []) rfl rfl rfl (L _ 81 0 (upd z 2 0) (Nat.zero_le _) (by omega) (by rw [pk_un (by decide)]) (by rw [pk_un (by decide)]; exact h1) (by rw [pk_us]; rfl) rfl (Nat.lt_succ_self _))

set_option maxHeartbeats 4000000 in
set_option maxRecDepth 100000 in
theorem kX8_fault (l : Launch) (G : hG) (q : Nat → Nat) (E : hF) (pl : Nat) (hpl : pl ≤ 80) (h1 : E 6 1 = nI pl) : hM l G yX8_fault wsX8_fault ({ frames := 7, cells := 0, slots := 0, locals := 165 }) (mW G q E) [.ref (q 0)] (fun v w => v = some (.int (ffT (E 5) pl 81 0)) ∧ ∃ z' : Nat → Int32, z' 0 = E 6 0 ∧ z' 1 = E 6 1 ∧ w = mW G q (fr E 6 z')) := by
  refine hM_of (cc := cX8_fault) (maxL := 1) (ret := (some .int)) (by decide) rfl (Nat.le_of_ble_eq_true rfl) ?_
  intro pp ee ss mm aa bb me cd X hin
  refine hV_to (ws' := mW G q (fr E 6 (E 6))) (congrArg (mW G q) (fr_self E 6)) rfl rfl ?_
  refine haload_n X dX8_fault_0 rfl ?_
  refine hcallV0e (C := RX8) (T := TX8) (N := 14) (As := []) (rest := []) X (q0 := 0) (kX8_findFault l G q E (E 6) pl (hpl) (h1)) gX8_fault_X8_findFault rfl (n := 0) (by decide +kernel) (by decide) rfl rfl rfl rfl (Nat.le_of_ble_eq_true rfl) dX8_fault_1 rfl rfl (by decide) ?_
  rintro _ _ ⟨rfl, y1, hy0_1, hy1_1, rfl⟩
  refine hV_st (st' := [.int (ffT (E 5) pl 81 0)]) rfl ?_
  exact hiret X dX8_fault_4 ⟨rfl, y1, hy0_1, hy1_1, rfl⟩

