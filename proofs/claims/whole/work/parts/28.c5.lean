set_option maxHeartbeats 4000000 in
set_option maxRecDepth 100000 in
theorem kX3_readNumber (l : Launch) (G : hG) (r : Nat → Nat) (T z : Nat → Int32) (pl : Nat) (hpl : pl ≤ 80) (hz : zOk pl z) (hT : ∀ i, narrow .char (.int (T i)) = .int (T i)) : hM l G yX3_readNumber wsX3_readNumber ({ frames := 3, cells := 0, slots := 0, locals := 83 }) (rdW G r pl T z) [.ref (r 0)] (hR (some (.int (vNm T pl z))) (rdW G r pl T (zNm T pl z))) := by
  refine hM_of (cc := cX3_readNumber) (maxL := 2) (ret := (some .int)) (by decide) rfl (Nat.le_of_ble_eq_true rfl) ?_
  intro pp ee ss mm aa bb me cd X hin
  have iX3 : ∀ w ∈ wsX30, w ∈ wsX3_readNumber := by decide +kernel
  refine haload_n X dX3_readNumber_0 rfl ?_
  refine hbipush (v := 48) X dX3_readNumber_1 rfl ?_
  refine hcallV0 (C := RX3) (T := TX3) (N := 8) (As := [.int 48]) (rest := []) (st' := [.int (bI (zP T pl z 48))]) (w := rdW G r pl T (zTk T pl z 48)) X (q0 := 0) (kX3_takeZ l G r T z pl 48 (hpl) (hz) (hT)) gX3_readNumber_X3_take rfl (n := 1) (by decide +kernel) (by decide) rfl rfl rfl rfl (Nat.le_of_ble_eq_true rfl) dX3_readNumber_3 rfl rfl (by decide) rfl ?_
  refine hif_eqB (tgt := 11) X dX3_readNumber_6 (by decide) (fun c1 => ?_) (fun c1 => ?_)
  · have b2 : zTk T pl z 48 = z := zTk_no hz c1
    rw [b2]
    refine haload_n X dX3_readNumber_11 rfl ?_
    refine hcallV0 (C := RX3) (T := TX3) (N := 8) (As := []) (rest := []) (st' := [.int (vDg T pl z)]) (w := rdW G r pl T (zDg T pl z)) X (q0 := 0) (kX3_readDigitZ l G r T z pl (hpl) (hz) (hT)) gX3_readNumber_X3_readDigit rfl (n := 0) (by decide +kernel) (by decide) rfl rfl rfl rfl (Nat.le_of_ble_eq_true rfl) dX3_readNumber_12 rfl rfl (by decide) rfl ?_
    refine histore_n (lv' := [(1, .int (vDg T pl z)), (0, .ref (r 0))]) X dX3_readNumber_15 (by decide) rfl ?_
    refine haload_n X dX3_readNumber_16 rfl ?_
    refine hget1 X (T := TX3) (N := 8) iX3 0 rfl rfl 2 (by decide) (by decide +kernel) rfl dX3_readNumber_17 ?_
    refine hif_ne (tgt := 74) X dX3_readNumber_20 (by decide) (fun c3 => ?_) (fun c3 => ?_)
    · refine hiload_n X dX3_readNumber_74 rfl ?_
      refine hiret X dX3_readNumber_75 ⟨congrArg (fun z => some (Value.int z)) (?_ : (vDg T pl z) = vNm T pl z), ?_⟩
      · rw [vNm, if_neg c1, if_neg (fun q : zMo T pl z => c3 q.1)]
      refine congrArg (rdW G r pl T) (?_ : (zDg T pl z : Nat → Int32) = zNm T pl z)
      rw [zNm, if_neg c1, if_neg (fun q : zMo T pl z => c3 q.1)]
    · refine haload_n X dX3_readNumber_23 rfl ?_
      refine hget1 X (T := TX3) (N := 8) iX3 0 rfl rfl 0 (by decide) (by decide +kernel) rfl dX3_readNumber_24 ?_
      refine haload_n X dX3_readNumber_27 rfl ?_
      refine hget1 X (T := TX3) (N := 8) iX3 0 rfl rfl 1 (by decide) (by decide +kernel) rfl dX3_readNumber_28 ?_
      refine hV_st (st' := [.int (nI (zA (zDg T pl z))), .ref (r 1)]) (congrArg (fun v9 => Value.int v9 :: [.ref (r 1)]) ((zDg_ok hpl hz)).1) ?_
      refine hV_perm (ws' := pdW G r pl T ++ rcW r (zDg T pl z)) (pmR G r _ _ _) ?_
      refine hcallVr (C := RX4) (T := TX4) (N := 2) (As := [.int (nI (zA (zDg T pl z)))]) (rest := []) (st' := [.int (kAt T pl (zA (zDg T pl z)))]) (w := pdW G r pl T) X (q0 := 0) (kX4_at l G r T pl (zA (zDg T pl z)) (hpl) (by have h9 : zOk pl (zDg T pl z) := (zDg_ok hpl hz); have := h9.2; omega) (hT)) gX3_readNumber_X4_at rfl (n := 1) (by decide +kernel) (by decide) rfl rfl rfl rfl (Nat.le_of_ble_eq_true rfl) dX3_readNumber_31 rfl rfl (by decide) rfl ?_
      refine hV_perm (ws' := rdW G r pl T (zDg T pl z)) (pmR G r _ _ _).symm ?_
      refine hbipush (v := 48) X dX3_readNumber_34 rfl ?_
      refine hbipush (v := 57) X dX3_readNumber_36 rfl ?_
      refine hcallSNr (wsC := []) (wsR := rdW G r pl T (zDg T pl z)) (As := [.int (kAt T pl (zA (zDg T pl z))), .int 48, .int 57]) (rest := []) (st' := [.int (bI (wI (kAt T pl (zA (zDg T pl z))) 48 57))]) (w := []) X (kX7_isWithin l G (kAt T pl (zA (zDg T pl z))) 48 57) gX3_readNumber_X7_isWithin_n68 rfl (n := 3) (by decide +kernel) (by decide +kernel) (by decide +kernel) (by decide +kernel) (by decide) rfl rfl (Nat.le_of_ble_eq_true rfl) dX3_readNumber_38 rfl rfl (by decide) rfl ?_
      refine hV_to (ws' := rdW G r pl T (zDg T pl z)) rfl rfl rfl ?_
      refine hif_eqB (tgt := 74) X dX3_readNumber_41 (by decide) (fun c4 => ?_) (fun c4 => ?_)
      · refine hiload_n X dX3_readNumber_74 rfl ?_
        refine hiret X dX3_readNumber_75 ⟨congrArg (fun z => some (Value.int z)) (?_ : (vDg T pl z) = vNm T pl z), ?_⟩
        · rw [vNm, if_neg c1, if_neg (fun q : zMo T pl z => c4 q.2)]
        refine congrArg (rdW G r pl T) (?_ : (zDg T pl z : Nat → Int32) = zNm T pl z)
        rw [zNm, if_neg c1, if_neg (fun q : zMo T pl z => c4 q.2)]
      · refine hbipush (v := 10) X dX3_readNumber_44 rfl ?_
        refine hiload_n X dX3_readNumber_46 rfl ?_
        refine himul X dX3_readNumber_47 ?_
        refine haload_n X dX3_readNumber_48 rfl ?_
        refine hget1 X (T := TX3) (N := 8) iX3 0 rfl rfl 0 (by decide) (by decide +kernel) rfl dX3_readNumber_49 ?_
        refine haload_n X dX3_readNumber_52 rfl ?_
        refine hget1 X (T := TX3) (N := 8) iX3 0 rfl rfl 1 (by decide) (by decide +kernel) rfl dX3_readNumber_53 ?_
        refine hV_st (st' := [.int (nI (zA (zDg T pl z))), .ref (r 1), .int (10 * (vDg T pl z))]) (congrArg (fun v9 => Value.int v9 :: [.ref (r 1), .int (10 * (vDg T pl z))]) ((zDg_ok hpl hz)).1) ?_
        refine hV_perm (ws' := pdW G r pl T ++ rcW r (zDg T pl z)) (pmR G r _ _ _) ?_
        refine hcallVr (C := RX4) (T := TX4) (N := 2) (As := [.int (nI (zA (zDg T pl z)))]) (rest := [.int (10 * (vDg T pl z))]) (st' := [.int (kAt T pl (zA (zDg T pl z))), .int (10 * (vDg T pl z))]) (w := pdW G r pl T) X (q0 := 0) (kX4_at l G r T pl (zA (zDg T pl z)) (hpl) (by have h9 : zOk pl (zDg T pl z) := (zDg_ok hpl hz); have := h9.2; omega) (hT)) gX3_readNumber_X4_at rfl (n := 1) (by decide +kernel) (by decide) rfl rfl rfl rfl (Nat.le_of_ble_eq_true rfl) dX3_readNumber_56 rfl rfl (by decide) rfl ?_
        refine hV_perm (ws' := rdW G r pl T (zDg T pl z)) (pmR G r _ _ _).symm ?_
        refine hiadd X dX3_readNumber_59 ?_
        refine hbipush (v := 48) X dX3_readNumber_60 rfl ?_
        refine hisub X dX3_readNumber_62 ?_
        refine histore_n (lv' := [(1, .int (((10 * (vDg T pl z)) + (kAt T pl (zA (zDg T pl z)))) - 48)), (0, .ref (r 0))]) X dX3_readNumber_63 (by decide) rfl ?_
        refine haload_n X dX3_readNumber_64 rfl ?_
        refine hdup X dX3_readNumber_65 rfl ?_
        refine hget1 X (T := TX3) (N := 8) iX3 0 rfl rfl 1 (by decide) (by decide +kernel) rfl dX3_readNumber_66 ?_
        refine hV_st (st' := [.int (nI (zA (zDg T pl z))), .ref (r 0)]) (congrArg (fun v9 => Value.int v9 :: [.ref (r 0)]) ((zDg_ok hpl hz)).1) ?_
        refine hiconst (v := 1) X dX3_readNumber_69 rfl ?_
        refine hiadd X dX3_readNumber_70 ?_
        refine hV_st (st' := [.int (nI ((zA (zDg T pl z)) + 1)), .ref (r 0)]) (congrArg (fun v9 => Value.int v9 :: [.ref (r 0)]) (nadd rfl rfl)) ?_
        refine hput1 X (T := TX3) (N := 8) iX3 tyX3 tyX3_ok nmX3 0 rfl rfl 1 (by decide) (by decide +kernel) (by decide +kernel) rfl rfl (Nat.le_of_ble_eq_true rfl) dX3_readNumber_71 (ws' := rdW G r pl T (upd (zDg T pl z) 0 (nI ((zA (zDg T pl z)) + 1)))) (rdWf1 G r _ _ _ _) ?_
        refine hiload_n X dX3_readNumber_74 rfl ?_
        refine hiret X dX3_readNumber_75 ⟨congrArg (fun z => some (Value.int z)) (?_ : (((10 * (vDg T pl z)) + (kAt T pl (zA (zDg T pl z)))) - 48) = vNm T pl z), ?_⟩
        · rw [vNm, if_neg c1, if_pos (show zMo T pl z from ⟨c3, c4⟩)]
        refine congrArg (rdW G r pl T) (?_ : (upd (zDg T pl z) 0 (nI ((zA (zDg T pl z)) + 1)) : Nat → Int32) = zNm T pl z)
        rw [zNm, if_neg c1, if_pos (show zMo T pl z from ⟨c3, c4⟩)]
  · refine hiconst (v := 0) X dX3_readNumber_9 rfl ?_
    refine hiret X dX3_readNumber_10 ⟨congrArg (fun z => some (Value.int z)) (?_ : 0 = vNm T pl z), ?_⟩
    · rw [vNm, if_pos c1]
    refine congrArg (rdW G r pl T) (?_ : (zTk T pl z 48 : Nat → Int32) = zNm T pl z)
    rw [zNm, if_pos c1]

set_option maxHeartbeats 4000000 in
set_option maxRecDepth 100000 in
theorem kX3_readOrder (l : Launch) (G : hG) (r : Nat → Nat) (T z : Nat → Int32) (pl : Nat) (hpl : pl ≤ 80) (hz : zOk pl z) (hT : ∀ i, narrow .char (.int (T i)) = .int (T i)) : hM l G yX3_readOrder wsX3_readOrder ({ frames := 4, cells := 0, slots := 0, locals := 104 }) (rdW G r pl T z) [.ref (r 0)] (hR none (rdW G r pl T (zRO T pl z))) := by
  refine hM_of (cc := cX3_readOrder) (maxL := 1) (ret := none) (by decide) rfl (Nat.le_of_ble_eq_true rfl) ?_
  intro pp ee ss mm aa bb me cd X hin
  have iX3 : ∀ w ∈ wsX30, w ∈ wsX3_readOrder := by decide +kernel
  refine haload_n X dX3_readOrder_0 rfl ?_
  refine haload_n X dX3_readOrder_1 rfl ?_
  refine hget1 X (T := TX3) (N := 8) iX3 0 rfl rfl 0 (by decide) (by decide +kernel) rfl dX3_readOrder_2 ?_
  refine haload_n X dX3_readOrder_5 rfl ?_
  refine hget1 X (T := TX3) (N := 8) iX3 0 rfl rfl 1 (by decide) (by decide +kernel) rfl dX3_readOrder_6 ?_
  refine hV_st (st' := [.int (nI (zA z)), .ref (r 1), .ref (r 0)]) (congrArg (fun v9 => Value.int v9 :: [.ref (r 1), .ref (r 0)]) (hz).1) ?_
  refine hV_perm (ws' := pdW G r pl T ++ rcW r z) (pmR G r _ _ _) ?_
  refine hcallVr (C := RX4) (T := TX4) (N := 2) (As := [.int (nI (zA z))]) (rest := [.ref (r 0)]) (st' := [.int (kAt T pl (zA z)), .ref (r 0)]) (w := pdW G r pl T) X (q0 := 0) (kX4_at l G r T pl (zA z) (hpl) (by have h9 : zOk pl z := hz; have := h9.2; omega) (hT)) gX3_readOrder_X4_at rfl (n := 1) (by decide +kernel) (by decide) rfl rfl rfl rfl (Nat.le_of_ble_eq_true rfl) dX3_readOrder_9 rfl rfl (by decide) rfl ?_
  refine hV_perm (ws' := rdW G r pl T z) (pmR G r _ _ _).symm ?_
  refine hput1 X (T := TX3) (N := 8) iX3 tyX3 tyX3_ok nmX3 0 rfl rfl 3 (by decide) (by decide +kernel) (by decide +kernel) rfl rfl (Nat.le_of_ble_eq_true rfl) dX3_readOrder_12 (ws' := rdW G r pl T (upd z 2 (kAt T pl (zA z)))) (rdWf3 G r _ _ _ _) ?_
  refine haload_n X dX3_readOrder_15 rfl ?_
  refine hbipush (v := (-6)) X dX3_readOrder_16 rfl ?_
  refine hput1 X (T := TX3) (N := 8) iX3 tyX3 tyX3_ok nmX3 0 rfl rfl 7 (by decide) (by decide +kernel) (by decide +kernel) rfl rfl (Nat.le_of_ble_eq_true rfl) dX3_readOrder_18 (ws' := rdW G r pl T (upd (upd z 2 (kAt T pl (zA z))) 6 (-6))) (rdWf7 G r _ _ _ _) ?_
  refine haload_n X dX3_readOrder_21 rfl ?_
  refine hbipush (v := 43) X dX3_readOrder_22 rfl ?_
  refine hcallV0 (C := RX3) (T := TX3) (N := 8) (As := [.int 43]) (rest := []) (st' := [.int (bI (zP T pl (upd (upd z 2 (kAt T pl (zA z))) 6 (-6)) 43))]) (w := rdW G r pl T (zTk T pl (upd (upd z 2 (kAt T pl (zA z))) 6 (-6)) 43)) X (q0 := 0) (kX3_takeZ l G r T (upd (upd z 2 (kAt T pl (zA z))) 6 (-6)) pl 43 (hpl) ((zOk_k (by decide) (zOk_k (by decide) hz))) (hT)) gX3_readOrder_X3_take rfl (n := 1) (by decide +kernel) (by decide) rfl rfl rfl rfl (Nat.le_of_ble_eq_true rfl) dX3_readOrder_24 rfl rfl (by decide) rfl ?_
  refine hif_eqB (tgt := 86) X dX3_readOrder_27 (by decide) (fun c1 => ?_) (fun c1 => ?_)
  · have b2 : zTk T pl (upd (upd z 2 (kAt T pl (zA z))) 6 (-6)) 43 = upd (upd z 2 (kAt T pl (zA z))) 6 (-6) := zTk_no (zOk_k (by decide) (zOk_k (by decide) hz)) c1
    rw [b2]
    refine haload_n X dX3_readOrder_86 rfl ?_
    refine hbipush (v := 99) X dX3_readOrder_87 rfl ?_
    refine hcallV0 (C := RX3) (T := TX3) (N := 8) (As := [.int 99]) (rest := []) (st' := [.int (bI (zP T pl (upd (upd z 2 (kAt T pl (zA z))) 6 (-6)) 99))]) (w := rdW G r pl T (zTk T pl (upd (upd z 2 (kAt T pl (zA z))) 6 (-6)) 99)) X (q0 := 0) (kX3_takeZ l G r T (upd (upd z 2 (kAt T pl (zA z))) 6 (-6)) pl 99 (hpl) ((zOk_k (by decide) (zOk_k (by decide) hz))) (hT)) gX3_readOrder_X3_take rfl (n := 1) (by decide +kernel) (by decide) rfl rfl rfl rfl (Nat.le_of_ble_eq_true rfl) dX3_readOrder_89 rfl rfl (by decide) rfl ?_
    refine hif_eqB (tgt := 120) X dX3_readOrder_92 (by decide) (fun c3 => ?_) (fun c3 => ?_)
    · have b4 : zTk T pl (upd (upd z 2 (kAt T pl (zA z))) 6 (-6)) 99 = upd (upd z 2 (kAt T pl (zA z))) 6 (-6) := zTk_no (zOk_k (by decide) (zOk_k (by decide) hz)) c3
      rw [b4]
      refine haload_n X dX3_readOrder_120 rfl ?_
      refine hbipush (v := 100) X dX3_readOrder_121 rfl ?_
      refine hcallV0 (C := RX3) (T := TX3) (N := 8) (As := [.int 100]) (rest := []) (st' := [.int (bI (zP T pl (upd (upd z 2 (kAt T pl (zA z))) 6 (-6)) 100))]) (w := rdW G r pl T (zTk T pl (upd (upd z 2 (kAt T pl (zA z))) 6 (-6)) 100)) X (q0 := 0) (kX3_takeZ l G r T (upd (upd z 2 (kAt T pl (zA z))) 6 (-6)) pl 100 (hpl) ((zOk_k (by decide) (zOk_k (by decide) hz))) (hT)) gX3_readOrder_X3_take rfl (n := 1) (by decide +kernel) (by decide) rfl rfl rfl rfl (Nat.le_of_ble_eq_true rfl) dX3_readOrder_123 rfl rfl (by decide) rfl ?_
      refine hif_neB (tgt := 138) X dX3_readOrder_126 (by decide) (fun c5 => ?_) (fun c5 => ?_)
      · refine haload_n X dX3_readOrder_138 rfl ?_
        refine haload_n X dX3_readOrder_139 rfl ?_
        refine hcallV0 (C := RX3) (T := TX3) (N := 8) (As := []) (rest := [.ref (r 0)]) (st' := [.int (vNm T pl (zTk T pl (upd (upd z 2 (kAt T pl (zA z))) 6 (-6)) 100)), .ref (r 0)]) (w := rdW G r pl T (zNm T pl (zTk T pl (upd (upd z 2 (kAt T pl (zA z))) 6 (-6)) 100))) X (q0 := 0) (kX3_readNumber l G r T (zTk T pl (upd (upd z 2 (kAt T pl (zA z))) 6 (-6)) 100) pl (hpl) ((zTk_ok hpl (by decide) (zOk_k (by decide) (zOk_k (by decide) hz)))) (hT)) gX3_readOrder_X3_readNumber rfl (n := 0) (by decide +kernel) (by decide) rfl rfl rfl rfl (Nat.le_of_ble_eq_true rfl) dX3_readOrder_140 rfl rfl (by decide) rfl ?_
        refine hput1 X (T := TX3) (N := 8) iX3 tyX3 tyX3_ok nmX3 0 rfl rfl 4 (by decide) (by decide +kernel) (by decide +kernel) rfl rfl (Nat.le_of_ble_eq_true rfl) dX3_readOrder_143 (ws' := rdW G r pl T (upd (zNm T pl (zTk T pl (upd (upd z 2 (kAt T pl (zA z))) 6 (-6)) 100)) 3 (vNm T pl (zTk T pl (upd (upd z 2 (kAt T pl (zA z))) 6 (-6)) 100)))) (rdWf4 G r _ _ _ _) ?_
        refine hgoto (tgt := 155) X dX3_readOrder_146 (by decide) ?_
        refine hvret X dX3_readOrder_155 ⟨rfl, ?_⟩
        refine congrArg (rdW G r pl T) (?_ : (upd (zNm T pl (zTk T pl (upd (upd z 2 (kAt T pl (zA z))) 6 (-6)) 100)) 3 (vNm T pl (zTk T pl (upd (upd z 2 (kAt T pl (zA z))) 6 (-6)) 100)) : Nat → Int32) = zRO T pl z)
        rw [zRO, if_neg (show ¬ zP T pl (zB T pl z) 43 from c1), if_neg (show ¬ zP T pl (zB T pl z) 99 from c3), if_pos (show zP T pl (zB T pl z) 100 from c5)]
        first | done | rfl
      · have b6 : zTk T pl (upd (upd z 2 (kAt T pl (zA z))) 6 (-6)) 100 = upd (upd z 2 (kAt T pl (zA z))) 6 (-6) := zTk_no (zOk_k (by decide) (zOk_k (by decide) hz)) c5
        rw [b6]
        refine haload_n X dX3_readOrder_129 rfl ?_
        refine hbipush (v := 116) X dX3_readOrder_130 rfl ?_
        refine hcallV0 (C := RX3) (T := TX3) (N := 8) (As := [.int 116]) (rest := []) (st' := [.int (bI (zP T pl (upd (upd z 2 (kAt T pl (zA z))) 6 (-6)) 116))]) (w := rdW G r pl T (zTk T pl (upd (upd z 2 (kAt T pl (zA z))) 6 (-6)) 116)) X (q0 := 0) (kX3_takeZ l G r T (upd (upd z 2 (kAt T pl (zA z))) 6 (-6)) pl 116 (hpl) ((zOk_k (by decide) (zOk_k (by decide) hz))) (hT)) gX3_readOrder_X3_take rfl (n := 1) (by decide +kernel) (by decide) rfl rfl rfl rfl (Nat.le_of_ble_eq_true rfl) dX3_readOrder_132 rfl rfl (by decide) rfl ?_
        refine hif_eqB (tgt := 149) X dX3_readOrder_135 (by decide) (fun c7 => ?_) (fun c7 => ?_)
        · have b8 : zTk T pl (upd (upd z 2 (kAt T pl (zA z))) 6 (-6)) 116 = upd (upd z 2 (kAt T pl (zA z))) 6 (-6) := zTk_no (zOk_k (by decide) (zOk_k (by decide) hz)) c7
          rw [b8]
          refine haload_n X dX3_readOrder_149 rfl ?_
          refine hbipush (v := 101) X dX3_readOrder_150 rfl ?_
          refine hcallV0 (C := RX3) (T := TX3) (N := 8) (As := [.int 101]) (rest := []) (st' := []) (w := rdW G r pl T (zEx T pl (upd (upd z 2 (kAt T pl (zA z))) 6 (-6)) 101)) X (q0 := 0) (kX3_expectZ l G r T (upd (upd z 2 (kAt T pl (zA z))) 6 (-6)) pl 101 (hpl) ((zOk_k (by decide) (zOk_k (by decide) hz))) (hT)) gX3_readOrder_X3_expect rfl (n := 1) (by decide +kernel) (by decide) rfl rfl rfl rfl (Nat.le_of_ble_eq_true rfl) dX3_readOrder_152 rfl rfl (by decide) rfl ?_
          refine hvret X dX3_readOrder_155 ⟨rfl, ?_⟩
          refine congrArg (rdW G r pl T) (?_ : (zEx T pl (upd (upd z 2 (kAt T pl (zA z))) 6 (-6)) 101 : Nat → Int32) = zRO T pl z)
          rw [zRO, if_neg (show ¬ zP T pl (zB T pl z) 43 from c1), if_neg (show ¬ zP T pl (zB T pl z) 99 from c3), if_neg (show ¬ zP T pl (zB T pl z) 100 from c5), if_neg (show ¬ zP T pl (zB T pl z) 116 from c7)]
          first | done | rfl
        · refine haload_n X dX3_readOrder_138 rfl ?_
          refine haload_n X dX3_readOrder_139 rfl ?_
          refine hcallV0 (C := RX3) (T := TX3) (N := 8) (As := []) (rest := [.ref (r 0)]) (st' := [.int (vNm T pl (zTk T pl (upd (upd z 2 (kAt T pl (zA z))) 6 (-6)) 116)), .ref (r 0)]) (w := rdW G r pl T (zNm T pl (zTk T pl (upd (upd z 2 (kAt T pl (zA z))) 6 (-6)) 116))) X (q0 := 0) (kX3_readNumber l G r T (zTk T pl (upd (upd z 2 (kAt T pl (zA z))) 6 (-6)) 116) pl (hpl) ((zTk_ok hpl (by decide) (zOk_k (by decide) (zOk_k (by decide) hz)))) (hT)) gX3_readOrder_X3_readNumber rfl (n := 0) (by decide +kernel) (by decide) rfl rfl rfl rfl (Nat.le_of_ble_eq_true rfl) dX3_readOrder_140 rfl rfl (by decide) rfl ?_
          refine hput1 X (T := TX3) (N := 8) iX3 tyX3 tyX3_ok nmX3 0 rfl rfl 4 (by decide) (by decide +kernel) (by decide +kernel) rfl rfl (Nat.le_of_ble_eq_true rfl) dX3_readOrder_143 (ws' := rdW G r pl T (upd (zNm T pl (zTk T pl (upd (upd z 2 (kAt T pl (zA z))) 6 (-6)) 116)) 3 (vNm T pl (zTk T pl (upd (upd z 2 (kAt T pl (zA z))) 6 (-6)) 116)))) (rdWf4 G r _ _ _ _) ?_
          refine hgoto (tgt := 155) X dX3_readOrder_146 (by decide) ?_
          refine hvret X dX3_readOrder_155 ⟨rfl, ?_⟩
          refine congrArg (rdW G r pl T) (?_ : (upd (zNm T pl (zTk T pl (upd (upd z 2 (kAt T pl (zA z))) 6 (-6)) 116)) 3 (vNm T pl (zTk T pl (upd (upd z 2 (kAt T pl (zA z))) 6 (-6)) 116)) : Nat → Int32) = zRO T pl z)
          rw [zRO, if_neg (show ¬ zP T pl (zB T pl z) 43 from c1), if_neg (show ¬ zP T pl (zB T pl z) 99 from c3), if_neg (show ¬ zP T pl (zB T pl z) 100 from c5), if_pos (show zP T pl (zB T pl z) 116 from c7)]
          first | done | rfl
    · refine haload_n X dX3_readOrder_95 rfl ?_
      refine haload_n X dX3_readOrder_96 rfl ?_
      refine hcallV0 (C := RX3) (T := TX3) (N := 8) (As := []) (rest := [.ref (r 0)]) (st' := [.int (vDg T pl (zTk T pl (upd (upd z 2 (kAt T pl (zA z))) 6 (-6)) 99)), .ref (r 0)]) (w := rdW G r pl T (zDg T pl (zTk T pl (upd (upd z 2 (kAt T pl (zA z))) 6 (-6)) 99))) X (q0 := 0) (kX3_readDigitZ l G r T (zTk T pl (upd (upd z 2 (kAt T pl (zA z))) 6 (-6)) 99) pl (hpl) ((zTk_ok hpl (by decide) (zOk_k (by decide) (zOk_k (by decide) hz)))) (hT)) gX3_readOrder_X3_readDigit rfl (n := 0) (by decide +kernel) (by decide) rfl rfl rfl rfl (Nat.le_of_ble_eq_true rfl) dX3_readOrder_97 rfl rfl (by decide) rfl ?_
      refine hput1 X (T := TX3) (N := 8) iX3 tyX3 tyX3_ok nmX3 0 rfl rfl 4 (by decide) (by decide +kernel) (by decide +kernel) rfl rfl (Nat.le_of_ble_eq_true rfl) dX3_readOrder_100 (ws' := rdW G r pl T (upd (zDg T pl (zTk T pl (upd (upd z 2 (kAt T pl (zA z))) 6 (-6)) 99)) 3 (vDg T pl (zTk T pl (upd (upd z 2 (kAt T pl (zA z))) 6 (-6)) 99)))) (rdWf4 G r _ _ _ _) ?_
      refine haload_n X dX3_readOrder_103 rfl ?_
      refine hbipush (v := 36) X dX3_readOrder_104 rfl ?_
      refine hcallV0 (C := RX3) (T := TX3) (N := 8) (As := [.int 36]) (rest := []) (st' := []) (w := rdW G r pl T (zEx T pl (upd (zDg T pl (zTk T pl (upd (upd z 2 (kAt T pl (zA z))) 6 (-6)) 99)) 3 (vDg T pl (zTk T pl (upd (upd z 2 (kAt T pl (zA z))) 6 (-6)) 99))) 36)) X (q0 := 0) (kX3_expectZ l G r T (upd (zDg T pl (zTk T pl (upd (upd z 2 (kAt T pl (zA z))) 6 (-6)) 99)) 3 (vDg T pl (zTk T pl (upd (upd z 2 (kAt T pl (zA z))) 6 (-6)) 99))) pl 36 (hpl) ((zOk_k (by decide) (zDg_ok hpl (zTk_ok hpl (by decide) (zOk_k (by decide) (zOk_k (by decide) hz)))))) (hT)) gX3_readOrder_X3_expect rfl (n := 1) (by decide +kernel) (by decide) rfl rfl rfl rfl (Nat.le_of_ble_eq_true rfl) dX3_readOrder_106 rfl rfl (by decide) rfl ?_
      refine haload_n X dX3_readOrder_109 rfl ?_
      refine haload_n X dX3_readOrder_110 rfl ?_
      refine hcallV0 (C := RX3) (T := TX3) (N := 8) (As := []) (rest := [.ref (r 0)]) (st' := [.int (vNm T pl (zEx T pl (upd (zDg T pl (zTk T pl (upd (upd z 2 (kAt T pl (zA z))) 6 (-6)) 99)) 3 (vDg T pl (zTk T pl (upd (upd z 2 (kAt T pl (zA z))) 6 (-6)) 99))) 36)), .ref (r 0)]) (w := rdW G r pl T (zNm T pl (zEx T pl (upd (zDg T pl (zTk T pl (upd (upd z 2 (kAt T pl (zA z))) 6 (-6)) 99)) 3 (vDg T pl (zTk T pl (upd (upd z 2 (kAt T pl (zA z))) 6 (-6)) 99))) 36))) X (q0 := 0) (kX3_readNumber l G r T (zEx T pl (upd (zDg T pl (zTk T pl (upd (upd z 2 (kAt T pl (zA z))) 6 (-6)) 99)) 3 (vDg T pl (zTk T pl (upd (upd z 2 (kAt T pl (zA z))) 6 (-6)) 99))) 36) pl (hpl) ((zEx_ok hpl (by decide) (zOk_k (by decide) (zDg_ok hpl (zTk_ok hpl (by decide) (zOk_k (by decide) (zOk_k (by decide) hz))))))) (hT)) gX3_readOrder_X3_readNumber rfl (n := 0) (by decide +kernel) (by decide) rfl rfl rfl rfl (Nat.le_of_ble_eq_true rfl) dX3_readOrder_111 rfl rfl (by decide) rfl ?_
      refine hput1 X (T := TX3) (N := 8) iX3 tyX3 tyX3_ok nmX3 0 rfl rfl 5 (by decide) (by decide +kernel) (by decide +kernel) rfl rfl (Nat.le_of_ble_eq_true rfl) dX3_readOrder_114 (ws' := rdW G r pl T (upd (zNm T pl (zEx T pl (upd (zDg T pl (zTk T pl (upd (upd z 2 (kAt T pl (zA z))) 6 (-6)) 99)) 3 (vDg T pl (zTk T pl (upd (upd z 2 (kAt T pl (zA z))) 6 (-6)) 99))) 36)) 4 (vNm T pl (zEx T pl (upd (zDg T pl (zTk T pl (upd (upd z 2 (kAt T pl (zA z))) 6 (-6)) 99)) 3 (vDg T pl (zTk T pl (upd (upd z 2 (kAt T pl (zA z))) 6 (-6)) 99))) 36)))) (rdWf5 G r _ _ _ _) ?_
      refine hgoto (tgt := 155) X dX3_readOrder_117 (by decide) ?_
      refine hvret X dX3_readOrder_155 ⟨rfl, ?_⟩
      refine congrArg (rdW G r pl T) (?_ : (upd (zNm T pl (zEx T pl (upd (zDg T pl (zTk T pl (upd (upd z 2 (kAt T pl (zA z))) 6 (-6)) 99)) 3 (vDg T pl (zTk T pl (upd (upd z 2 (kAt T pl (zA z))) 6 (-6)) 99))) 36)) 4 (vNm T pl (zEx T pl (upd (zDg T pl (zTk T pl (upd (upd z 2 (kAt T pl (zA z))) 6 (-6)) 99)) 3 (vDg T pl (zTk T pl (upd (upd z 2 (kAt T pl (zA z))) 6 (-6)) 99))) 36)) : Nat → Int32) = zRO T pl z)
      rw [zRO, if_neg (show ¬ zP T pl (zB T pl z) 43 from c1), if_pos (show zP T pl (zB T pl z) 99 from c3)]
      first | done | rfl
  · refine haload_n X dX3_readOrder_30 rfl ?_
    refine haload_n X dX3_readOrder_31 rfl ?_
    refine hcallV0 (C := RX3) (T := TX3) (N := 8) (As := []) (rest := [.ref (r 0)]) (st' := [.int (vNm T pl (zTk T pl (upd (upd z 2 (kAt T pl (zA z))) 6 (-6)) 43)), .ref (r 0)]) (w := rdW G r pl T (zNm T pl (zTk T pl (upd (upd z 2 (kAt T pl (zA z))) 6 (-6)) 43))) X (q0 := 0) (kX3_readNumber l G r T (zTk T pl (upd (upd z 2 (kAt T pl (zA z))) 6 (-6)) 43) pl (hpl) ((zTk_ok hpl (by decide) (zOk_k (by decide) (zOk_k (by decide) hz)))) (hT)) gX3_readOrder_X3_readNumber rfl (n := 0) (by decide +kernel) (by decide) rfl rfl rfl rfl (Nat.le_of_ble_eq_true rfl) dX3_readOrder_32 rfl rfl (by decide) rfl ?_
    refine hput1 X (T := TX3) (N := 8) iX3 tyX3 tyX3_ok nmX3 0 rfl rfl 4 (by decide) (by decide +kernel) (by decide +kernel) rfl rfl (Nat.le_of_ble_eq_true rfl) dX3_readOrder_35 (ws' := rdW G r pl T (upd (zNm T pl (zTk T pl (upd (upd z 2 (kAt T pl (zA z))) 6 (-6)) 43)) 3 (vNm T pl (zTk T pl (upd (upd z 2 (kAt T pl (zA z))) 6 (-6)) 43)))) (rdWf4 G r _ _ _ _) ?_
    refine haload_n X dX3_readOrder_38 rfl ?_
    refine hbipush (v := 44) X dX3_readOrder_39 rfl ?_
    refine hcallV0 (C := RX3) (T := TX3) (N := 8) (As := [.int 44]) (rest := []) (st' := []) (w := rdW G r pl T (zEx T pl (upd (zNm T pl (zTk T pl (upd (upd z 2 (kAt T pl (zA z))) 6 (-6)) 43)) 3 (vNm T pl (zTk T pl (upd (upd z 2 (kAt T pl (zA z))) 6 (-6)) 43))) 44)) X (q0 := 0) (kX3_expectZ l G r T (upd (zNm T pl (zTk T pl (upd (upd z 2 (kAt T pl (zA z))) 6 (-6)) 43)) 3 (vNm T pl (zTk T pl (upd (upd z 2 (kAt T pl (zA z))) 6 (-6)) 43))) pl 44 (hpl) ((zOk_k (by decide) (zNm_ok hpl (zTk_ok hpl (by decide) (zOk_k (by decide) (zOk_k (by decide) hz)))))) (hT)) gX3_readOrder_X3_expect rfl (n := 1) (by decide +kernel) (by decide) rfl rfl rfl rfl (Nat.le_of_ble_eq_true rfl) dX3_readOrder_41 rfl rfl (by decide) rfl ?_
    refine haload_n X dX3_readOrder_44 rfl ?_
    refine haload_n X dX3_readOrder_45 rfl ?_
    refine hcallV0 (C := RX3) (T := TX3) (N := 8) (As := []) (rest := [.ref (r 0)]) (st' := [.int (vNm T pl (zEx T pl (upd (zNm T pl (zTk T pl (upd (upd z 2 (kAt T pl (zA z))) 6 (-6)) 43)) 3 (vNm T pl (zTk T pl (upd (upd z 2 (kAt T pl (zA z))) 6 (-6)) 43))) 44)), .ref (r 0)]) (w := rdW G r pl T (zNm T pl (zEx T pl (upd (zNm T pl (zTk T pl (upd (upd z 2 (kAt T pl (zA z))) 6 (-6)) 43)) 3 (vNm T pl (zTk T pl (upd (upd z 2 (kAt T pl (zA z))) 6 (-6)) 43))) 44))) X (q0 := 0) (kX3_readNumber l G r T (zEx T pl (upd (zNm T pl (zTk T pl (upd (upd z 2 (kAt T pl (zA z))) 6 (-6)) 43)) 3 (vNm T pl (zTk T pl (upd (upd z 2 (kAt T pl (zA z))) 6 (-6)) 43))) 44) pl (hpl) ((zEx_ok hpl (by decide) (zOk_k (by decide) (zNm_ok hpl (zTk_ok hpl (by decide) (zOk_k (by decide) (zOk_k (by decide) hz))))))) (hT)) gX3_readOrder_X3_readNumber rfl (n := 0) (by decide +kernel) (by decide) rfl rfl rfl rfl (Nat.le_of_ble_eq_true rfl) dX3_readOrder_46 rfl rfl (by decide) rfl ?_
    refine hput1 X (T := TX3) (N := 8) iX3 tyX3 tyX3_ok nmX3 0 rfl rfl 5 (by decide) (by decide +kernel) (by decide +kernel) rfl rfl (Nat.le_of_ble_eq_true rfl) dX3_readOrder_49 (ws' := rdW G r pl T (upd (zNm T pl (zEx T pl (upd (zNm T pl (zTk T pl (upd (upd z 2 (kAt T pl (zA z))) 6 (-6)) 43)) 3 (vNm T pl (zTk T pl (upd (upd z 2 (kAt T pl (zA z))) 6 (-6)) 43))) 44)) 4 (vNm T pl (zEx T pl (upd (zNm T pl (zTk T pl (upd (upd z 2 (kAt T pl (zA z))) 6 (-6)) 43)) 3 (vNm T pl (zTk T pl (upd (upd z 2 (kAt T pl (zA z))) 6 (-6)) 43))) 44)))) (rdWf5 G r _ _ _ _) ?_
    refine haload_n X dX3_readOrder_52 rfl ?_
    refine hbipush (v := 44) X dX3_readOrder_53 rfl ?_
    refine hcallV0 (C := RX3) (T := TX3) (N := 8) (As := [.int 44]) (rest := []) (st' := []) (w := rdW G r pl T (zEx T pl (upd (zNm T pl (zEx T pl (upd (zNm T pl (zTk T pl (upd (upd z 2 (kAt T pl (zA z))) 6 (-6)) 43)) 3 (vNm T pl (zTk T pl (upd (upd z 2 (kAt T pl (zA z))) 6 (-6)) 43))) 44)) 4 (vNm T pl (zEx T pl (upd (zNm T pl (zTk T pl (upd (upd z 2 (kAt T pl (zA z))) 6 (-6)) 43)) 3 (vNm T pl (zTk T pl (upd (upd z 2 (kAt T pl (zA z))) 6 (-6)) 43))) 44))) 44)) X (q0 := 0) (kX3_expectZ l G r T (upd (zNm T pl (zEx T pl (upd (zNm T pl (zTk T pl (upd (upd z 2 (kAt T pl (zA z))) 6 (-6)) 43)) 3 (vNm T pl (zTk T pl (upd (upd z 2 (kAt T pl (zA z))) 6 (-6)) 43))) 44)) 4 (vNm T pl (zEx T pl (upd (zNm T pl (zTk T pl (upd (upd z 2 (kAt T pl (zA z))) 6 (-6)) 43)) 3 (vNm T pl (zTk T pl (upd (upd z 2 (kAt T pl (zA z))) 6 (-6)) 43))) 44))) pl 44 (hpl) ((zOk_k (by decide) (zNm_ok hpl (zEx_ok hpl (by decide) (zOk_k (by decide) (zNm_ok hpl (zTk_ok hpl (by decide) (zOk_k (by decide) (zOk_k (by decide) hz))))))))) (hT)) gX3_readOrder_X3_expect rfl (n := 1) (by decide +kernel) (by decide) rfl rfl rfl rfl (Nat.le_of_ble_eq_true rfl) dX3_readOrder_55 rfl rfl (by decide) rfl ?_
    refine haload_n X dX3_readOrder_58 rfl ?_
    refine haload_n X dX3_readOrder_59 rfl ?_
    refine hcallV0 (C := RX3) (T := TX3) (N := 8) (As := []) (rest := [.ref (r 0)]) (st' := [.int (vNm T pl (zEx T pl (upd (zNm T pl (zEx T pl (upd (zNm T pl (zTk T pl (upd (upd z 2 (kAt T pl (zA z))) 6 (-6)) 43)) 3 (vNm T pl (zTk T pl (upd (upd z 2 (kAt T pl (zA z))) 6 (-6)) 43))) 44)) 4 (vNm T pl (zEx T pl (upd (zNm T pl (zTk T pl (upd (upd z 2 (kAt T pl (zA z))) 6 (-6)) 43)) 3 (vNm T pl (zTk T pl (upd (upd z 2 (kAt T pl (zA z))) 6 (-6)) 43))) 44))) 44)), .ref (r 0)]) (w := rdW G r pl T (zNm T pl (zEx T pl (upd (zNm T pl (zEx T pl (upd (zNm T pl (zTk T pl (upd (upd z 2 (kAt T pl (zA z))) 6 (-6)) 43)) 3 (vNm T pl (zTk T pl (upd (upd z 2 (kAt T pl (zA z))) 6 (-6)) 43))) 44)) 4 (vNm T pl (zEx T pl (upd (zNm T pl (zTk T pl (upd (upd z 2 (kAt T pl (zA z))) 6 (-6)) 43)) 3 (vNm T pl (zTk T pl (upd (upd z 2 (kAt T pl (zA z))) 6 (-6)) 43))) 44))) 44))) X (q0 := 0) (kX3_readNumber l G r T (zEx T pl (upd (zNm T pl (zEx T pl (upd (zNm T pl (zTk T pl (upd (upd z 2 (kAt T pl (zA z))) 6 (-6)) 43)) 3 (vNm T pl (zTk T pl (upd (upd z 2 (kAt T pl (zA z))) 6 (-6)) 43))) 44)) 4 (vNm T pl (zEx T pl (upd (zNm T pl (zTk T pl (upd (upd z 2 (kAt T pl (zA z))) 6 (-6)) 43)) 3 (vNm T pl (zTk T pl (upd (upd z 2 (kAt T pl (zA z))) 6 (-6)) 43))) 44))) 44) pl (hpl) ((zEx_ok hpl (by decide) (zOk_k (by decide) (zNm_ok hpl (zEx_ok hpl (by decide) (zOk_k (by decide) (zNm_ok hpl (zTk_ok hpl (by decide) (zOk_k (by decide) (zOk_k (by decide) hz)))))))))) (hT)) gX3_readOrder_X3_readNumber rfl (n := 0) (by decide +kernel) (by decide) rfl rfl rfl rfl (Nat.le_of_ble_eq_true rfl) dX3_readOrder_60 rfl rfl (by decide) rfl ?_
    refine hput1 X (T := TX3) (N := 8) iX3 tyX3 tyX3_ok nmX3 0 rfl rfl 6 (by decide) (by decide +kernel) (by decide +kernel) rfl rfl (Nat.le_of_ble_eq_true rfl) dX3_readOrder_63 (ws' := rdW G r pl T (upd (zNm T pl (zEx T pl (upd (zNm T pl (zEx T pl (upd (zNm T pl (zTk T pl (upd (upd z 2 (kAt T pl (zA z))) 6 (-6)) 43)) 3 (vNm T pl (zTk T pl (upd (upd z 2 (kAt T pl (zA z))) 6 (-6)) 43))) 44)) 4 (vNm T pl (zEx T pl (upd (zNm T pl (zTk T pl (upd (upd z 2 (kAt T pl (zA z))) 6 (-6)) 43)) 3 (vNm T pl (zTk T pl (upd (upd z 2 (kAt T pl (zA z))) 6 (-6)) 43))) 44))) 44)) 5 (vNm T pl (zEx T pl (upd (zNm T pl (zEx T pl (upd (zNm T pl (zTk T pl (upd (upd z 2 (kAt T pl (zA z))) 6 (-6)) 43)) 3 (vNm T pl (zTk T pl (upd (upd z 2 (kAt T pl (zA z))) 6 (-6)) 43))) 44)) 4 (vNm T pl (zEx T pl (upd (zNm T pl (zTk T pl (upd (upd z 2 (kAt T pl (zA z))) 6 (-6)) 43)) 3 (vNm T pl (zTk T pl (upd (upd z 2 (kAt T pl (zA z))) 6 (-6)) 43))) 44))) 44)))) (rdWf6 G r _ _ _ _) ?_
    refine haload_n X dX3_readOrder_66 rfl ?_
    refine hbipush (v := 94) X dX3_readOrder_67 rfl ?_
    refine hcallV0 (C := RX3) (T := TX3) (N := 8) (As := [.int 94]) (rest := []) (st' := [.int (bI (zP T pl (upd (zNm T pl (zEx T pl (upd (zNm T pl (zEx T pl (upd (zNm T pl (zTk T pl (upd (upd z 2 (kAt T pl (zA z))) 6 (-6)) 43)) 3 (vNm T pl (zTk T pl (upd (upd z 2 (kAt T pl (zA z))) 6 (-6)) 43))) 44)) 4 (vNm T pl (zEx T pl (upd (zNm T pl (zTk T pl (upd (upd z 2 (kAt T pl (zA z))) 6 (-6)) 43)) 3 (vNm T pl (zTk T pl (upd (upd z 2 (kAt T pl (zA z))) 6 (-6)) 43))) 44))) 44)) 5 (vNm T pl (zEx T pl (upd (zNm T pl (zEx T pl (upd (zNm T pl (zTk T pl (upd (upd z 2 (kAt T pl (zA z))) 6 (-6)) 43)) 3 (vNm T pl (zTk T pl (upd (upd z 2 (kAt T pl (zA z))) 6 (-6)) 43))) 44)) 4 (vNm T pl (zEx T pl (upd (zNm T pl (zTk T pl (upd (upd z 2 (kAt T pl (zA z))) 6 (-6)) 43)) 3 (vNm T pl (zTk T pl (upd (upd z 2 (kAt T pl (zA z))) 6 (-6)) 43))) 44))) 44))) 94))]) (w := rdW G r pl T (zTk T pl (upd (zNm T pl (zEx T pl (upd (zNm T pl (zEx T pl (upd (zNm T pl (zTk T pl (upd (upd z 2 (kAt T pl (zA z))) 6 (-6)) 43)) 3 (vNm T pl (zTk T pl (upd (upd z 2 (kAt T pl (zA z))) 6 (-6)) 43))) 44)) 4 (vNm T pl (zEx T pl (upd (zNm T pl (zTk T pl (upd (upd z 2 (kAt T pl (zA z))) 6 (-6)) 43)) 3 (vNm T pl (zTk T pl (upd (upd z 2 (kAt T pl (zA z))) 6 (-6)) 43))) 44))) 44)) 5 (vNm T pl (zEx T pl (upd (zNm T pl (zEx T pl (upd (zNm T pl (zTk T pl (upd (upd z 2 (kAt T pl (zA z))) 6 (-6)) 43)) 3 (vNm T pl (zTk T pl (upd (upd z 2 (kAt T pl (zA z))) 6 (-6)) 43))) 44)) 4 (vNm T pl (zEx T pl (upd (zNm T pl (zTk T pl (upd (upd z 2 (kAt T pl (zA z))) 6 (-6)) 43)) 3 (vNm T pl (zTk T pl (upd (upd z 2 (kAt T pl (zA z))) 6 (-6)) 43))) 44))) 44))) 94)) X (q0 := 0) (kX3_takeZ l G r T (upd (zNm T pl (zEx T pl (upd (zNm T pl (zEx T pl (upd (zNm T pl (zTk T pl (upd (upd z 2 (kAt T pl (zA z))) 6 (-6)) 43)) 3 (vNm T pl (zTk T pl (upd (upd z 2 (kAt T pl (zA z))) 6 (-6)) 43))) 44)) 4 (vNm T pl (zEx T pl (upd (zNm T pl (zTk T pl (upd (upd z 2 (kAt T pl (zA z))) 6 (-6)) 43)) 3 (vNm T pl (zTk T pl (upd (upd z 2 (kAt T pl (zA z))) 6 (-6)) 43))) 44))) 44)) 5 (vNm T pl (zEx T pl (upd (zNm T pl (zEx T pl (upd (zNm T pl (zTk T pl (upd (upd z 2 (kAt T pl (zA z))) 6 (-6)) 43)) 3 (vNm T pl (zTk T pl (upd (upd z 2 (kAt T pl (zA z))) 6 (-6)) 43))) 44)) 4 (vNm T pl (zEx T pl (upd (zNm T pl (zTk T pl (upd (upd z 2 (kAt T pl (zA z))) 6 (-6)) 43)) 3 (vNm T pl (zTk T pl (upd (upd z 2 (kAt T pl (zA z))) 6 (-6)) 43))) 44))) 44))) pl 94 (hpl) ((zOk_k (by decide) (zNm_ok hpl (zEx_ok hpl (by decide) (zOk_k (by decide) (zNm_ok hpl (zEx_ok hpl (by decide) (zOk_k (by decide) (zNm_ok hpl (zTk_ok hpl (by decide) (zOk_k (by decide) (zOk_k (by decide) hz)))))))))))) (hT)) gX3_readOrder_X3_take rfl (n := 1) (by decide +kernel) (by decide) rfl rfl rfl rfl (Nat.le_of_ble_eq_true rfl) dX3_readOrder_69 rfl rfl (by decide) rfl ?_
    refine hif_eqB (tgt := 155) X dX3_readOrder_72 (by decide) (fun c9 => ?_) (fun c9 => ?_)
    · have b10 : zTk T pl (upd (zNm T pl (zEx T pl (upd (zNm T pl (zEx T pl (upd (zNm T pl (zTk T pl (upd (upd z 2 (kAt T pl (zA z))) 6 (-6)) 43)) 3 (vNm T pl (zTk T pl (upd (upd z 2 (kAt T pl (zA z))) 6 (-6)) 43))) 44)) 4 (vNm T pl (zEx T pl (upd (zNm T pl (zTk T pl (upd (upd z 2 (kAt T pl (zA z))) 6 (-6)) 43)) 3 (vNm T pl (zTk T pl (upd (upd z 2 (kAt T pl (zA z))) 6 (-6)) 43))) 44))) 44)) 5 (vNm T pl (zEx T pl (upd (zNm T pl (zEx T pl (upd (zNm T pl (zTk T pl (upd (upd z 2 (kAt T pl (zA z))) 6 (-6)) 43)) 3 (vNm T pl (zTk T pl (upd (upd z 2 (kAt T pl (zA z))) 6 (-6)) 43))) 44)) 4 (vNm T pl (zEx T pl (upd (zNm T pl (zTk T pl (upd (upd z 2 (kAt T pl (zA z))) 6 (-6)) 43)) 3 (vNm T pl (zTk T pl (upd (upd z 2 (kAt T pl (zA z))) 6 (-6)) 43))) 44))) 44))) 94 = upd (zNm T pl (zEx T pl (upd (zNm T pl (zEx T pl (upd (zNm T pl (zTk T pl (upd (upd z 2 (kAt T pl (zA z))) 6 (-6)) 43)) 3 (vNm T pl (zTk T pl (upd (upd z 2 (kAt T pl (zA z))) 6 (-6)) 43))) 44)) 4 (vNm T pl (zEx T pl (upd (zNm T pl (zTk T pl (upd (upd z 2 (kAt T pl (zA z))) 6 (-6)) 43)) 3 (vNm T pl (zTk T pl (upd (upd z 2 (kAt T pl (zA z))) 6 (-6)) 43))) 44))) 44)) 5 (vNm T pl (zEx T pl (upd (zNm T pl (zEx T pl (upd (zNm T pl (zTk T pl (upd (upd z 2 (kAt T pl (zA z))) 6 (-6)) 43)) 3 (vNm T pl (zTk T pl (upd (upd z 2 (kAt T pl (zA z))) 6 (-6)) 43))) 44)) 4 (vNm T pl (zEx T pl (upd (zNm T pl (zTk T pl (upd (upd z 2 (kAt T pl (zA z))) 6 (-6)) 43)) 3 (vNm T pl (zTk T pl (upd (upd z 2 (kAt T pl (zA z))) 6 (-6)) 43))) 44))) 44)) := zTk_no (zOk_k (by decide) (zNm_ok hpl (zEx_ok hpl (by decide) (zOk_k (by decide) (zNm_ok hpl (zEx_ok hpl (by decide) (zOk_k (by decide) (zNm_ok hpl (zTk_ok hpl (by decide) (zOk_k (by decide) (zOk_k (by decide) hz))))))))))) c9
      rw [b10]
      refine hvret X dX3_readOrder_155 ⟨rfl, ?_⟩
      refine congrArg (rdW G r pl T) (?_ : (upd (zNm T pl (zEx T pl (upd (zNm T pl (zEx T pl (upd (zNm T pl (zTk T pl (upd (upd z 2 (kAt T pl (zA z))) 6 (-6)) 43)) 3 (vNm T pl (zTk T pl (upd (upd z 2 (kAt T pl (zA z))) 6 (-6)) 43))) 44)) 4 (vNm T pl (zEx T pl (upd (zNm T pl (zTk T pl (upd (upd z 2 (kAt T pl (zA z))) 6 (-6)) 43)) 3 (vNm T pl (zTk T pl (upd (upd z 2 (kAt T pl (zA z))) 6 (-6)) 43))) 44))) 44)) 5 (vNm T pl (zEx T pl (upd (zNm T pl (zEx T pl (upd (zNm T pl (zTk T pl (upd (upd z 2 (kAt T pl (zA z))) 6 (-6)) 43)) 3 (vNm T pl (zTk T pl (upd (upd z 2 (kAt T pl (zA z))) 6 (-6)) 43))) 44)) 4 (vNm T pl (zEx T pl (upd (zNm T pl (zTk T pl (upd (upd z 2 (kAt T pl (zA z))) 6 (-6)) 43)) 3 (vNm T pl (zTk T pl (upd (upd z 2 (kAt T pl (zA z))) 6 (-6)) 43))) 44))) 44)) : Nat → Int32) = zRO T pl z)
      rw [zRO, if_pos (show zP T pl (zB T pl z) 43 from c1), if_neg (show ¬ zP T pl (z3N T pl (zB T pl z)) 94 from c9)]
      first | done | rfl
    · refine haload_n X dX3_readOrder_75 rfl ?_
      refine haload_n X dX3_readOrder_76 rfl ?_
      refine hcallV0 (C := RX3) (T := TX3) (N := 8) (As := []) (rest := [.ref (r 0)]) (st' := [.int (vNm T pl (zTk T pl (upd (zNm T pl (zEx T pl (upd (zNm T pl (zEx T pl (upd (zNm T pl (zTk T pl (upd (upd z 2 (kAt T pl (zA z))) 6 (-6)) 43)) 3 (vNm T pl (zTk T pl (upd (upd z 2 (kAt T pl (zA z))) 6 (-6)) 43))) 44)) 4 (vNm T pl (zEx T pl (upd (zNm T pl (zTk T pl (upd (upd z 2 (kAt T pl (zA z))) 6 (-6)) 43)) 3 (vNm T pl (zTk T pl (upd (upd z 2 (kAt T pl (zA z))) 6 (-6)) 43))) 44))) 44)) 5 (vNm T pl (zEx T pl (upd (zNm T pl (zEx T pl (upd (zNm T pl (zTk T pl (upd (upd z 2 (kAt T pl (zA z))) 6 (-6)) 43)) 3 (vNm T pl (zTk T pl (upd (upd z 2 (kAt T pl (zA z))) 6 (-6)) 43))) 44)) 4 (vNm T pl (zEx T pl (upd (zNm T pl (zTk T pl (upd (upd z 2 (kAt T pl (zA z))) 6 (-6)) 43)) 3 (vNm T pl (zTk T pl (upd (upd z 2 (kAt T pl (zA z))) 6 (-6)) 43))) 44))) 44))) 94)), .ref (r 0)]) (w := rdW G r pl T (zNm T pl (zTk T pl (upd (zNm T pl (zEx T pl (upd (zNm T pl (zEx T pl (upd (zNm T pl (zTk T pl (upd (upd z 2 (kAt T pl (zA z))) 6 (-6)) 43)) 3 (vNm T pl (zTk T pl (upd (upd z 2 (kAt T pl (zA z))) 6 (-6)) 43))) 44)) 4 (vNm T pl (zEx T pl (upd (zNm T pl (zTk T pl (upd (upd z 2 (kAt T pl (zA z))) 6 (-6)) 43)) 3 (vNm T pl (zTk T pl (upd (upd z 2 (kAt T pl (zA z))) 6 (-6)) 43))) 44))) 44)) 5 (vNm T pl (zEx T pl (upd (zNm T pl (zEx T pl (upd (zNm T pl (zTk T pl (upd (upd z 2 (kAt T pl (zA z))) 6 (-6)) 43)) 3 (vNm T pl (zTk T pl (upd (upd z 2 (kAt T pl (zA z))) 6 (-6)) 43))) 44)) 4 (vNm T pl (zEx T pl (upd (zNm T pl (zTk T pl (upd (upd z 2 (kAt T pl (zA z))) 6 (-6)) 43)) 3 (vNm T pl (zTk T pl (upd (upd z 2 (kAt T pl (zA z))) 6 (-6)) 43))) 44))) 44))) 94))) X (q0 := 0) (kX3_readNumber l G r T (zTk T pl (upd (zNm T pl (zEx T pl (upd (zNm T pl (zEx T pl (upd (zNm T pl (zTk T pl (upd (upd z 2 (kAt T pl (zA z))) 6 (-6)) 43)) 3 (vNm T pl (zTk T pl (upd (upd z 2 (kAt T pl (zA z))) 6 (-6)) 43))) 44)) 4 (vNm T pl (zEx T pl (upd (zNm T pl (zTk T pl (upd (upd z 2 (kAt T pl (zA z))) 6 (-6)) 43)) 3 (vNm T pl (zTk T pl (upd (upd z 2 (kAt T pl (zA z))) 6 (-6)) 43))) 44))) 44)) 5 (vNm T pl (zEx T pl (upd (zNm T pl (zEx T pl (upd (zNm T pl (zTk T pl (upd (upd z 2 (kAt T pl (zA z))) 6 (-6)) 43)) 3 (vNm T pl (zTk T pl (upd (upd z 2 (kAt T pl (zA z))) 6 (-6)) 43))) 44)) 4 (vNm T pl (zEx T pl (upd (zNm T pl (zTk T pl (upd (upd z 2 (kAt T pl (zA z))) 6 (-6)) 43)) 3 (vNm T pl (zTk T pl (upd (upd z 2 (kAt T pl (zA z))) 6 (-6)) 43))) 44))) 44))) 94) pl (hpl) ((zTk_ok hpl (by decide) (zOk_k (by decide) (zNm_ok hpl (zEx_ok hpl (by decide) (zOk_k (by decide) (zNm_ok hpl (zEx_ok hpl (by decide) (zOk_k (by decide) (zNm_ok hpl (zTk_ok hpl (by decide) (zOk_k (by decide) (zOk_k (by decide) hz))))))))))))) (hT)) gX3_readOrder_X3_readNumber rfl (n := 0) (by decide +kernel) (by decide) rfl rfl rfl rfl (Nat.le_of_ble_eq_true rfl) dX3_readOrder_77 rfl rfl (by decide) rfl ?_
      refine hput1 X (T := TX3) (N := 8) iX3 tyX3 tyX3_ok nmX3 0 rfl rfl 7 (by decide) (by decide +kernel) (by decide +kernel) rfl rfl (Nat.le_of_ble_eq_true rfl) dX3_readOrder_80 (ws' := rdW G r pl T (upd (zNm T pl (zTk T pl (upd (zNm T pl (zEx T pl (upd (zNm T pl (zEx T pl (upd (zNm T pl (zTk T pl (upd (upd z 2 (kAt T pl (zA z))) 6 (-6)) 43)) 3 (vNm T pl (zTk T pl (upd (upd z 2 (kAt T pl (zA z))) 6 (-6)) 43))) 44)) 4 (vNm T pl (zEx T pl (upd (zNm T pl (zTk T pl (upd (upd z 2 (kAt T pl (zA z))) 6 (-6)) 43)) 3 (vNm T pl (zTk T pl (upd (upd z 2 (kAt T pl (zA z))) 6 (-6)) 43))) 44))) 44)) 5 (vNm T pl (zEx T pl (upd (zNm T pl (zEx T pl (upd (zNm T pl (zTk T pl (upd (upd z 2 (kAt T pl (zA z))) 6 (-6)) 43)) 3 (vNm T pl (zTk T pl (upd (upd z 2 (kAt T pl (zA z))) 6 (-6)) 43))) 44)) 4 (vNm T pl (zEx T pl (upd (zNm T pl (zTk T pl (upd (upd z 2 (kAt T pl (zA z))) 6 (-6)) 43)) 3 (vNm T pl (zTk T pl (upd (upd z 2 (kAt T pl (zA z))) 6 (-6)) 43))) 44))) 44))) 94)) 6 (vNm T pl (zTk T pl (upd (zNm T pl (zEx T pl (upd (zNm T pl (zEx T pl (upd (zNm T pl (zTk T pl (upd (upd z 2 (kAt T pl (zA z))) 6 (-6)) 43)) 3 (vNm T pl (zTk T pl (upd (upd z 2 (kAt T pl (zA z))) 6 (-6)) 43))) 44)) 4 (vNm T pl (zEx T pl (upd (zNm T pl (zTk T pl (upd (upd z 2 (kAt T pl (zA z))) 6 (-6)) 43)) 3 (vNm T pl (zTk T pl (upd (upd z 2 (kAt T pl (zA z))) 6 (-6)) 43))) 44))) 44)) 5 (vNm T pl (zEx T pl (upd (zNm T pl (zEx T pl (upd (zNm T pl (zTk T pl (upd (upd z 2 (kAt T pl (zA z))) 6 (-6)) 43)) 3 (vNm T pl (zTk T pl (upd (upd z 2 (kAt T pl (zA z))) 6 (-6)) 43))) 44)) 4 (vNm T pl (zEx T pl (upd (zNm T pl (zTk T pl (upd (upd z 2 (kAt T pl (zA z))) 6 (-6)) 43)) 3 (vNm T pl (zTk T pl (upd (upd z 2 (kAt T pl (zA z))) 6 (-6)) 43))) 44))) 44))) 94)))) (rdWf7 G r _ _ _ _) ?_
      refine hgoto (tgt := 155) X dX3_readOrder_83 (by decide) ?_
      refine hvret X dX3_readOrder_155 ⟨rfl, ?_⟩
      refine congrArg (rdW G r pl T) (?_ : (upd (zNm T pl (zTk T pl (upd (zNm T pl (zEx T pl (upd (zNm T pl (zEx T pl (upd (zNm T pl (zTk T pl (upd (upd z 2 (kAt T pl (zA z))) 6 (-6)) 43)) 3 (vNm T pl (zTk T pl (upd (upd z 2 (kAt T pl (zA z))) 6 (-6)) 43))) 44)) 4 (vNm T pl (zEx T pl (upd (zNm T pl (zTk T pl (upd (upd z 2 (kAt T pl (zA z))) 6 (-6)) 43)) 3 (vNm T pl (zTk T pl (upd (upd z 2 (kAt T pl (zA z))) 6 (-6)) 43))) 44))) 44)) 5 (vNm T pl (zEx T pl (upd (zNm T pl (zEx T pl (upd (zNm T pl (zTk T pl (upd (upd z 2 (kAt T pl (zA z))) 6 (-6)) 43)) 3 (vNm T pl (zTk T pl (upd (upd z 2 (kAt T pl (zA z))) 6 (-6)) 43))) 44)) 4 (vNm T pl (zEx T pl (upd (zNm T pl (zTk T pl (upd (upd z 2 (kAt T pl (zA z))) 6 (-6)) 43)) 3 (vNm T pl (zTk T pl (upd (upd z 2 (kAt T pl (zA z))) 6 (-6)) 43))) 44))) 44))) 94)) 6 (vNm T pl (zTk T pl (upd (zNm T pl (zEx T pl (upd (zNm T pl (zEx T pl (upd (zNm T pl (zTk T pl (upd (upd z 2 (kAt T pl (zA z))) 6 (-6)) 43)) 3 (vNm T pl (zTk T pl (upd (upd z 2 (kAt T pl (zA z))) 6 (-6)) 43))) 44)) 4 (vNm T pl (zEx T pl (upd (zNm T pl (zTk T pl (upd (upd z 2 (kAt T pl (zA z))) 6 (-6)) 43)) 3 (vNm T pl (zTk T pl (upd (upd z 2 (kAt T pl (zA z))) 6 (-6)) 43))) 44))) 44)) 5 (vNm T pl (zEx T pl (upd (zNm T pl (zEx T pl (upd (zNm T pl (zTk T pl (upd (upd z 2 (kAt T pl (zA z))) 6 (-6)) 43)) 3 (vNm T pl (zTk T pl (upd (upd z 2 (kAt T pl (zA z))) 6 (-6)) 43))) 44)) 4 (vNm T pl (zEx T pl (upd (zNm T pl (zTk T pl (upd (upd z 2 (kAt T pl (zA z))) 6 (-6)) 43)) 3 (vNm T pl (zTk T pl (upd (upd z 2 (kAt T pl (zA z))) 6 (-6)) 43))) 44))) 44))) 94)) : Nat → Int32) = zRO T pl z)
      rw [zRO, if_pos (show zP T pl (zB T pl z) 43 from c1), if_pos (show zP T pl (z3N T pl (zB T pl z)) 94 from c9)]
      first | done | rfl

set_option maxHeartbeats 4000000 in
set_option maxRecDepth 100000 in
theorem kX3_findFault (l : Launch) (G : hG) (r : Nat → Nat) (T z : Nat → Int32) (pl : Nat) (hpl : pl ≤ 80) (hT : ∀ i, narrow .char (.int (T i)) = .int (T i)) : hM l G yX3_findFault wsX3_findFault ({ frames := 5, cells := 0, slots := 0, locals := 124 }) (rdW G r pl T z) [.ref (r 0)] (hR (some (.int (vFF T pl z))) (rdW G r pl T (zFF T pl 80 (zS0 z)))) := by
  refine hM_of (cc := cX3_findFault) (maxL := 3) (ret := (some .int)) (by decide) rfl (Nat.le_of_ble_eq_true rfl) ?_
  intro pp ee ss mm aa bb me cd X hin
  have iX3 : ∀ w ∈ wsX30, w ∈ wsX3_findFault := by decide +kernel
  have iX4 : ∀ w ∈ wsX40, w ∈ wsX3_findFault := by decide +kernel
  have hend : ∀ (y : Nat → Int32), (zOk pl y) → (y = zFF T pl 80 (zS0 z)) → hV pp l ee ({ frames := 5, cells := 0, slots := 0, locals := 124 }) ss mm aa bb me cd G (va_A (rdW G r pl T z) ss.heap.size) 3 0 0 (MQ bb (hQc G (rdW G r pl T z) ss.heap.size (hR (some (.int (vFF T pl z))) (rdW G r pl T (zFF T pl 80 (zS0 z))))) aa ss 0 0 (va_A (rdW G r pl T z) ss.heap.size)) (rdW G r pl T y) 35 [(0, .ref (r 0))] [] := by
    intro y hy hw
    refine haload_n X dX3_findFault_35 rfl ?_
    refine hget1 X (T := TX3) (N := 8) iX3 0 rfl rfl 2 (by decide) (by decide +kernel) rfl dX3_findFault_36 ?_
    refine hif_ne (tgt := 56) X dX3_findFault_39 (by decide) (fun c1 => ?_) (fun c1 => ?_)
    · refine haload_n X dX3_findFault_56 rfl ?_
      refine hget1 X (T := TX3) (N := 8) iX3 0 rfl rfl 1 (by decide) (by decide +kernel) rfl dX3_findFault_57 ?_
      refine hV_st (st' := [.int (nI (zA y))]) (congrArg (fun v9 => Value.int v9 :: []) (hy).1) ?_
      refine hgoto (tgt := 65) X dX3_findFault_60 (by decide) ?_
      refine hiret X dX3_findFault_65 ⟨congrArg (fun z => some (Value.int z)) (?_ : (nI (zA y)) = vFF T pl z), ?_⟩
      · rw [vFF, ← hw, if_pos (Or.inl c1)]
      refine congrArg (rdW G r pl T) (?_ : (y : Nat → Int32) = zFF T pl 80 (zS0 z))
      exact hw
    · refine haload_n X dX3_findFault_42 rfl ?_
      refine hget1 X (T := TX3) (N := 8) iX3 0 rfl rfl 1 (by decide) (by decide +kernel) rfl dX3_findFault_43 ?_
      refine hV_st (st' := [.int (nI (zA y))]) (congrArg (fun v9 => Value.int v9 :: []) (hy).1) ?_
      refine haload_n X dX3_findFault_46 rfl ?_
      refine hget1 X (T := TX3) (N := 8) iX3 0 rfl rfl 0 (by decide) (by decide +kernel) rfl dX3_findFault_47 ?_
      refine hgetN X (T := TX4) (N := 2) iX4 1 rfl rfl 1 (by decide) (by decide +kernel) rfl dX3_findFault_50 ?_
      refine hicmp_ge (tgt := 63) X dX3_findFault_53 (by decide) (fun c2 => ?_) (fun c2 => ?_)
      · refine hbipush (v := (-6)) X dX3_findFault_63 rfl ?_
        refine hiret X dX3_findFault_65 ⟨congrArg (fun z => some (Value.int z)) (?_ : (-6) = vFF T pl z), ?_⟩
        · rw [vFF, ← hw, if_neg (fun q => q.elim (fun z9 => z9 c1) (fun z9 => Nat.not_lt.mpr ((nI_leI (a := pl) (b := zA y) (by omega) (by have := hy.2; omega)).mp c2) z9))]
        refine congrArg (rdW G r pl T) (?_ : (y : Nat → Int32) = zFF T pl 80 (zS0 z))
        exact hw
      · refine haload_n X dX3_findFault_56 rfl ?_
        refine hget1 X (T := TX3) (N := 8) iX3 0 rfl rfl 1 (by decide) (by decide +kernel) rfl dX3_findFault_57 ?_
        refine hV_st (st' := [.int (nI (zA y))]) (congrArg (fun v9 => Value.int v9 :: []) (hy).1) ?_
        refine hgoto (tgt := 65) X dX3_findFault_60 (by decide) ?_
        refine hiret X dX3_findFault_65 ⟨congrArg (fun z => some (Value.int z)) (?_ : (nI (zA y)) = vFF T pl z), ?_⟩
        · rw [vFF, ← hw, if_pos (Or.inr (Nat.lt_of_not_le fun z9 => c2 ((nI_leI (a := pl) (b := zA y) (by omega) (by have := hy.2; omega)).mpr z9)))]
        refine congrArg (rdW G r pl T) (?_ : (y : Nat → Int32) = zFF T pl 80 (zS0 z))
        exact hw
  have hlp : ∀ (d : Nat) (k : Nat) (y : Nat → Int32) (M : Prop) (hd : Decidable M), (k ≤ 80) → (zOk pl y) → ((if M then zFF T pl (80 - k) y else y) = zFF T pl 80 (zS0 z)) → (80 - k) < d → hV pp l ee ({ frames := 5, cells := 0, slots := 0, locals := 124 }) ss mm aa bb me cd G (va_A (rdW G r pl T z) ss.heap.size) 3 0 0 (MQ bb (hQc G (rdW G r pl T z) ss.heap.size (hR (some (.int (vFF T pl z))) (rdW G r pl T (zFF T pl 80 (zS0 z))))) aa ss 0 0 (va_A (rdW G r pl T z) ss.heap.size)) (rdW G r pl T y) 8 [(2, .int (nI k)), (1, .int (bI M)), (0, .ref (r 0))] [] := by
    intro d
    induction d with
    | zero =>
      intro k y M hd hk hy hg hd0
      exact absurd hd0 (Nat.not_lt_zero _)
    | succ d ih =>
      intro k y M hd hk hy hg hd0
      refine hiload_n X dX3_findFault_8 rfl ?_
      refine hbipush (v := 80) X dX3_findFault_9 rfl ?_
      refine hicmp_ge (tgt := 35) X dX3_findFault_11 (by decide) (fun c3 => ?_) (fun c3 => ?_)
      · have hge : ¬ k < 80 := Nat.not_lt.mpr ((nI_leI (a := 80) (b := k) (by omega) (by omega)).mp c3)
        refine hV_lv (lv' := [(0, .ref (r 0))]) [2] rfl ?_
        exact hV_to (ws' := rdW G r pl T y) (lv' := [(0, .ref (r 0))]) (st' := []) rfl rfl rfl (hend y hy (zFF_end (M := M) (by exact fun q => hge q.2) hg))
      · have hlt : k < 80 := Nat.lt_of_not_le fun z9 => c3 ((nI_leI (a := 80) (b := k) (by omega) (by omega)).mpr z9)
        refine hiload_n X dX3_findFault_14 rfl ?_
        refine hif_eqB (tgt := 35) X dX3_findFault_15 (by decide) (fun c4 => ?_) (fun c4 => ?_)
        · refine hV_lv (lv' := [(0, .ref (r 0))]) [2] rfl ?_
          exact hV_to (ws' := rdW G r pl T y) (lv' := [(0, .ref (r 0))]) (st' := []) rfl rfl rfl (hend y hy (zFF_end (M := M) (by exact fun q => c4 q.1) hg))
        · refine haload_n X dX3_findFault_18 rfl ?_
          refine hcallV0 (C := RX3) (T := TX3) (N := 8) (As := []) (rest := []) (st' := []) (w := rdW G r pl T (zRO T pl y)) X (q0 := 0) (kX3_readOrder l G r T y pl (hpl) (hy) (hT)) gX3_findFault_X3_readOrder rfl (n := 0) (by decide +kernel) (by decide) rfl rfl rfl rfl (Nat.le_of_ble_eq_true rfl) dX3_findFault_19 rfl rfl (by decide) rfl ?_
          refine haload_n X dX3_findFault_22 rfl ?_
          refine hbipush (v := 59) X dX3_findFault_23 rfl ?_
          refine hcallV0 (C := RX3) (T := TX3) (N := 8) (As := [.int 59]) (rest := []) (st' := [.int (bI (zP T pl (zRO T pl y) 59))]) (w := rdW G r pl T (zTk T pl (zRO T pl y) 59)) X (q0 := 0) (kX3_takeZ l G r T (zRO T pl y) pl 59 (hpl) ((zRO_ok hpl hy)) (hT)) gX3_findFault_X3_take rfl (n := 1) (by decide +kernel) (by decide) rfl rfl rfl rfl (Nat.le_of_ble_eq_true rfl) dX3_findFault_25 rfl rfl (by decide) rfl ?_
          refine histore_n (lv' := [(1, .int (bI (zP T pl (zRO T pl y) 59))), (2, .int (nI k)), (0, .ref (r 0))]) X dX3_findFault_28 (by decide) rfl ?_
          refine hiinc (v := nI (k + 1)) (lv' := [(2, .int (nI (k + 1))), (1, .int (bI (zP T pl (zRO T pl y) 59))), (0, .ref (r 0))]) X dX3_findFault_29 rfl (nI_1 _) (by decide) rfl ?_
          refine hgoto (tgt := 8) X dX3_findFault_32 (by decide) ?_
          exact hV_to (ws' := rdW G r pl T (zTk T pl (zRO T pl y) 59)) (lv' := [(2, .int (nI (k + 1))), (1, .int (bI (zP T pl (zRO T pl y) 59))), (0, .ref (r 0))]) (st' := []) rfl rfl rfl (ih (k + 1) (zTk T pl (zRO T pl y) 59) (zP T pl (zRO T pl y) 59) inferInstance (by omega) ((zTk_ok hpl (by decide) (zRO_ok hpl hy))) (zFF_step hpl hy c4 hlt hg) (by omega))
  refine haload_n X dX3_findFault_0 rfl ?_
  refine hcallV0 (C := RX3) (T := TX3) (N := 8) (As := []) (rest := []) (st' := []) (w := rdW G r pl T (zS0 z)) X (q0 := 0) (kX3_startZ l G r T z pl) gX3_findFault_X3_start rfl (n := 0) (by decide +kernel) (by decide) rfl rfl rfl rfl (Nat.le_of_ble_eq_true rfl) dX3_findFault_1 rfl rfl (by decide) rfl ?_
  refine hiconst (v := 1) X dX3_findFault_4 rfl ?_
  refine histore_n (lv' := [(1, .int 1), (0, .ref (r 0))]) X dX3_findFault_5 (by decide) rfl ?_
  refine hiconst (v := 0) X dX3_findFault_6 rfl ?_
  refine histore_n (lv' := [(2, .int 0), (1, .int 1), (0, .ref (r 0))]) X dX3_findFault_7 (by decide) rfl ?_
  have e5 : (1 : Int32) = bI True := by
    decide
  exact hV_to (ws' := rdW G r pl T (zS0 z)) (lv' := [(2, .int 0), (1, .int (bI True)), (0, .ref (r 0))]) (st' := []) rfl (congrArg (fun v9 => ([(2, .int 0), (1, .int v9), (0, .ref (r 0))] : List (Nat × Value))) e5) rfl (hlp _ 0 (zS0 z) True inferInstance (by omega) (zS0_ok pl z) rfl (Nat.lt_succ_self _))

