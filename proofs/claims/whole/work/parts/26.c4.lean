set_option maxHeartbeats 4000000 in
set_option maxRecDepth 100000 in
theorem kX4_at (l : Launch) (G : hG) (r : Nat → Nat) (T : Nat → Int32) (pl a : Nat) (hpl : pl ≤ 80) (ha : a < 2 ^ 30) (hT : ∀ i, narrow .char (.int (T i)) = .int (T i)) : hM l G yX4_at wsX4_at ({ frames := 1, cells := 0, slots := 0, locals := 40 }) (pdW G r pl T) [.ref (r 1), .int (nI a)] (hR (some (.int (kAt T pl a))) (pdW G r pl T)) := by
  refine hM_of (cc := cX4_at) (maxL := 2) (ret := (some .char)) (by decide) rfl (Nat.le_of_ble_eq_true rfl) ?_
  intro pp ee ss mm aa bb me cd X hin
  have iX4 : ∀ w ∈ wsX40, w ∈ wsX4_at := by decide +kernel
  refine hiload_n X dX4_at_0 rfl ?_
  refine hif_lt (tgt := 30) X dX4_at_1 (by decide) (fun c1 => ?_) (fun c1 => ?_)
  · exact (nI_pos (by omega) c1).elim
  · refine hiload_n X dX4_at_4 rfl ?_
    refine haload_n X dX4_at_5 rfl ?_
    refine hget1 X (T := TX4) (N := 2) iX4 0 rfl rfl 1 (by decide) (by decide +kernel) rfl dX4_at_6 ?_
    refine hicmp_ge (tgt := 30) X dX4_at_9 (by decide) (fun c2 => ?_) (fun c2 => ?_)
    · have hge : ¬ a < pl := Nat.not_lt.mpr ((nI_leI (a := pl) (b := a) (by omega) (by omega)).mp c2)
      refine hiconst (v := 0) X dX4_at_30 rfl ?_
      refine hzret X rfl dX4_at_31 ⟨congrArg (fun z => some (Value.int z)) (?_ : 0 = kAt T pl a), ?_⟩
      · rw [kAt, if_neg hge]
      rfl
    · have hlt : a < pl := Nat.lt_of_not_le fun z9 => c2 ((nI_leI (a := pl) (b := a) (by omega) (by omega)).mpr z9)
      refine hiload_n X dX4_at_12 rfl ?_
      refine haload_n X dX4_at_13 rfl ?_
      refine hget1 X (T := TX4) (N := 2) iX4 0 rfl rfl 0 (by decide) (by decide +kernel) rfl dX4_at_14 ?_
      refine hialen X 1 1 rfl rfl (v := 80) rfl dX4_at_17 ?_
      refine hicmp_ge (tgt := 30) X dX4_at_18 (by decide) (fun c3 => ?_) (fun c3 => ?_)
      · exact (nI_ge (a := a) (b := 80) (by omega) (by decide) c3).elim
      · refine haload_n X dX4_at_21 rfl ?_
        refine hget1 X (T := TX4) (N := 2) iX4 0 rfl rfl 0 (by decide) (by decide +kernel) rfl dX4_at_22 ?_
        refine hiload_n X dX4_at_25 rfl ?_
        refine hcald (n := 80) (f := T) X 1 rfl a rfl (by omega) (by decide) dX4_at_26 ?_
        refine hgoto (tgt := 31) X dX4_at_27 (by decide) ?_
        refine hzret X (hT a) dX4_at_31 ⟨congrArg (fun z => some (Value.int z)) (?_ : (T a) = kAt T pl a), ?_⟩
        · rw [kAt, if_pos hlt]
        rfl

set_option maxHeartbeats 4000000 in
set_option maxRecDepth 100000 in
theorem kX4_clear (l : Launch) (G : hG) (r : Nat → Nat) (T : Nat → Int32) (pl : Nat) : hM l G yX4_clear wsX4_clear ({ frames := 1, cells := 0, slots := 0, locals := 40 }) (pdW G r pl T) [.ref (r 1)] (hR (some (.int (nI pl))) (pdW G r 0 T)) := by
  refine hM_of (cc := cX4_clear) (maxL := 2) (ret := (some .int)) (by decide) rfl (Nat.le_of_ble_eq_true rfl) ?_
  intro pp ee ss mm aa bb me cd X hin
  have iX4 : ∀ w ∈ wsX40, w ∈ wsX4_clear := by decide +kernel
  refine haload_n X dX4_clear_0 rfl ?_
  refine hget1 X (T := TX4) (N := 2) iX4 0 rfl rfl 1 (by decide) (by decide +kernel) rfl dX4_clear_1 ?_
  refine histore_n (lv' := [(1, .int (nI pl)), (0, .ref (r 1))]) X dX4_clear_4 (by decide) rfl ?_
  refine haload_n X dX4_clear_5 rfl ?_
  refine hiconst (v := 0) X dX4_clear_6 rfl ?_
  refine hput1 X (T := TX4) (N := 2) iX4 tyX4 tyX4_ok nmX4 0 rfl rfl 1 (by decide) (by decide +kernel) (by decide +kernel) rfl rfl (Nat.le_of_ble_eq_true rfl) dX4_clear_7 (ws' := pdW G r 0 T) (pdWf G r _ _ _) ?_
  refine hiload_n X dX4_clear_10 rfl ?_
  refine hiret X dX4_clear_11 ⟨rfl, ?_⟩
  rfl

set_option maxHeartbeats 4000000 in
set_option maxRecDepth 100000 in
theorem kX3_take (l : Launch) (G : hG) (r : Nat → Nat) (T z : Nat → Int32) (pl a : Nat) (x : Int32) (hpl : pl ≤ 80) (h0 : z 0 = nI a) (ha : a < 2 ^ 30) (hT : ∀ i, narrow .char (.int (T i)) = .int (T i)) : hM l G yX3_take wsX3_take ({ frames := 2, cells := 0, slots := 0, locals := 61 }) (rdW G r pl T z) [.ref (r 0), .int x] (hR (some (.int (bI (z 1 = 0 ∧ kAt T pl a = x)))) (rdW G r pl T (upd z 0 (nI (tkA T pl a (z 1) x))))) := by
  refine hM_of (cc := cX3_take) (maxL := 2) (ret := (some .boolean)) (by decide) rfl (Nat.le_of_ble_eq_true rfl) ?_
  intro pp ee ss mm aa bb me cd X hin
  have iX3 : ∀ w ∈ wsX30, w ∈ wsX3_take := by decide +kernel
  refine haload_n X dX3_take_0 rfl ?_
  refine hget1 X (T := TX3) (N := 8) iX3 0 rfl rfl 2 (by decide) (by decide +kernel) rfl dX3_take_1 ?_
  refine hif_ne (tgt := 22) X dX3_take_4 (by decide) (fun c1 => ?_) (fun c1 => ?_)
  · refine hiconst (v := 0) X dX3_take_22 rfl ?_
    refine hzret X rfl dX3_take_23 ⟨congrArg (fun z => some (Value.int z)) (?_ : 0 = bI (z 1 = 0 ∧ kAt T pl a = x)), ?_⟩
    · simp [bI, c1]
    refine congrArg (rdW G r pl T) (?_ : (z : Nat → Int32) = upd z 0 (nI (tkA T pl a (z 1) x)))
    simp [tkA, upd_self h0, c1]
  · refine haload_n X dX3_take_7 rfl ?_
    refine hget1 X (T := TX3) (N := 8) iX3 0 rfl rfl 0 (by decide) (by decide +kernel) rfl dX3_take_8 ?_
    refine haload_n X dX3_take_11 rfl ?_
    refine hget1 X (T := TX3) (N := 8) iX3 0 rfl rfl 1 (by decide) (by decide +kernel) rfl dX3_take_12 ?_
    refine hV_st (st' := [.int (nI a), .ref (r 1)]) (congrArg (fun z => Value.int z :: [.ref (r 1)]) h0) ?_
    refine hV_perm (ws' := pdW G r pl T ++ rcW r z) (pmR G r _ _ _) ?_
    refine hcallVr (C := RX4) (T := TX4) (N := 2) (As := [.int (nI a)]) (rest := []) (st' := [.int (kAt T pl a)]) (w := pdW G r pl T) X (q0 := 0) (kX4_at l G r T pl a (hpl) (by omega) (hT)) gX3_take_X4_at rfl (n := 1) (by decide +kernel) (by decide) rfl rfl rfl rfl (Nat.le_of_ble_eq_true rfl) dX3_take_15 rfl rfl (by decide) rfl ?_
    refine hV_perm (ws' := rdW G r pl T z) (pmR G r _ _ _).symm ?_
    refine hiload_n X dX3_take_18 rfl ?_
    refine hicmp_eq (tgt := 24) X dX3_take_19 (by decide) (fun c2 => ?_) (fun c2 => ?_)
    · refine haload_n X dX3_take_24 rfl ?_
      refine hdup X dX3_take_25 rfl ?_
      refine hget1 X (T := TX3) (N := 8) iX3 0 rfl rfl 1 (by decide) (by decide +kernel) rfl dX3_take_26 ?_
      refine hV_st (st' := [.int (nI a), .ref (r 0)]) (congrArg (fun z => Value.int z :: [.ref (r 0)]) h0) ?_
      refine hiconst (v := 1) X dX3_take_29 rfl ?_
      refine hiadd X dX3_take_30 ?_
      refine hV_st (st' := [.int (nI (a + 1)), .ref (r 0)]) (congrArg (fun z => Value.int z :: [.ref (r 0)]) (nadd rfl rfl)) ?_
      refine hput1 X (T := TX3) (N := 8) iX3 tyX3 tyX3_ok nmX3 0 rfl rfl 1 (by decide) (by decide +kernel) (by decide +kernel) rfl rfl (Nat.le_of_ble_eq_true rfl) dX3_take_31 (ws' := rdW G r pl T (upd z 0 (nI (a + 1)))) (rdWf1 G r _ _ _ _) ?_
      refine hiconst (v := 1) X dX3_take_34 rfl ?_
      refine hzret X rfl dX3_take_35 ⟨congrArg (fun z => some (Value.int z)) (?_ : 1 = bI (z 1 = 0 ∧ kAt T pl a = x)), ?_⟩
      · simp [bI, c1, c2]
      refine congrArg (rdW G r pl T) (?_ : (upd z 0 (nI (a + 1)) : Nat → Int32) = upd z 0 (nI (tkA T pl a (z 1) x)))
      simp [tkA, upd_self h0, c1, c2]
    · refine hiconst (v := 0) X dX3_take_22 rfl ?_
      refine hzret X rfl dX3_take_23 ⟨congrArg (fun z => some (Value.int z)) (?_ : 0 = bI (z 1 = 0 ∧ kAt T pl a = x)), ?_⟩
      · simp [bI, c1, c2]
      refine congrArg (rdW G r pl T) (?_ : (z : Nat → Int32) = upd z 0 (nI (tkA T pl a (z 1) x)))
      simp [tkA, upd_self h0, c1, c2]

set_option maxHeartbeats 4000000 in
set_option maxRecDepth 100000 in
theorem kX3_expect (l : Launch) (G : hG) (r : Nat → Nat) (T z : Nat → Int32) (pl a : Nat) (x : Int32) (hpl : pl ≤ 80) (h0 : z 0 = nI a) (ha : a < 2 ^ 30) (hT : ∀ i, narrow .char (.int (T i)) = .int (T i)) : hM l G yX3_expect wsX3_expect ({ frames := 3, cells := 0, slots := 0, locals := 82 }) (rdW G r pl T z) [.ref (r 0), .int x] (hR none (rdW G r pl T (upd (upd z 0 (nI (tkA T pl a (z 1) x))) 1 (exF T pl a (z 1) x)))) := by
  refine hM_of (cc := cX3_expect) (maxL := 2) (ret := none) (by decide) rfl (Nat.le_of_ble_eq_true rfl) ?_
  intro pp ee ss mm aa bb me cd X hin
  have iX3 : ∀ w ∈ wsX30, w ∈ wsX3_expect := by decide +kernel
  refine haload_n X dX3_expect_0 rfl ?_
  refine hiload_n X dX3_expect_1 rfl ?_
  refine hcallV0 (C := RX3) (T := TX3) (N := 8) (As := [.int x]) (rest := []) (st' := [.int (bI (z 1 = 0 ∧ kAt T pl a = x))]) (w := rdW G r pl T (upd z 0 (nI (tkA T pl a (z 1) x)))) X (q0 := 0) (kX3_take l G r T z pl a x (hpl) (h0) (by omega) (hT)) gX3_expect_X3_take rfl (n := 1) (by decide +kernel) (by decide) rfl rfl rfl rfl (Nat.le_of_ble_eq_true rfl) dX3_expect_2 rfl rfl (by decide) rfl ?_
  refine hif_neB (tgt := 13) X dX3_expect_5 (by decide) (fun c1 => ?_) (fun c1 => ?_)
  · refine hvret X dX3_expect_13 ⟨rfl, ?_⟩
    refine congrArg (rdW G r pl T) (?_ : (upd z 0 (nI (tkA T pl a (z 1) x)) : Nat → Int32) = upd (upd z 0 (nI (tkA T pl a (z 1) x))) 1 (exF T pl a (z 1) x))
    rw [exF, if_pos c1]
    exact (upd_self (pk_un (by decide))).symm
  · refine haload_n X dX3_expect_8 rfl ?_
    refine hiconst (v := 1) X dX3_expect_9 rfl ?_
    refine hput1 X (T := TX3) (N := 8) iX3 tyX3 tyX3_ok nmX3 0 rfl rfl 2 (by decide) (by decide +kernel) (by decide +kernel) rfl rfl (Nat.le_of_ble_eq_true rfl) dX3_expect_10 (ws' := rdW G r pl T (upd (upd z 0 (nI (tkA T pl a (z 1) x))) 1 1)) (rdWf2 G r _ _ _ _) ?_
    refine hvret X dX3_expect_13 ⟨rfl, ?_⟩
    refine congrArg (rdW G r pl T) (?_ : (upd (upd z 0 (nI (tkA T pl a (z 1) x))) 1 1 : Nat → Int32) = upd (upd z 0 (nI (tkA T pl a (z 1) x))) 1 (exF T pl a (z 1) x))
    rw [exF, if_neg c1]

set_option maxHeartbeats 4000000 in
set_option maxRecDepth 100000 in
theorem kX3_start (l : Launch) (G : hG) (r : Nat → Nat) (T z : Nat → Int32) (pl : Nat) : hM l G yX3_start wsX3_start ({ frames := 1, cells := 0, slots := 0, locals := 40 }) (rdW G r pl T z) [.ref (r 0)] (hR none (rdW G r pl T (upd (upd z 0 0) 1 0))) := by
  refine hM_of (cc := cX3_start) (maxL := 1) (ret := none) (by decide) rfl (Nat.le_of_ble_eq_true rfl) ?_
  intro pp ee ss mm aa bb me cd X hin
  have iX3 : ∀ w ∈ wsX30, w ∈ wsX3_start := by decide +kernel
  refine haload_n X dX3_start_0 rfl ?_
  refine hiconst (v := 0) X dX3_start_1 rfl ?_
  refine hput1 X (T := TX3) (N := 8) iX3 tyX3 tyX3_ok nmX3 0 rfl rfl 1 (by decide) (by decide +kernel) (by decide +kernel) rfl rfl (Nat.le_of_ble_eq_true rfl) dX3_start_2 (ws' := rdW G r pl T (upd z 0 0)) (rdWf1 G r _ _ _ _) ?_
  refine haload_n X dX3_start_5 rfl ?_
  refine hiconst (v := 0) X dX3_start_6 rfl ?_
  refine hput1 X (T := TX3) (N := 8) iX3 tyX3 tyX3_ok nmX3 0 rfl rfl 2 (by decide) (by decide +kernel) (by decide +kernel) rfl rfl (Nat.le_of_ble_eq_true rfl) dX3_start_7 (ws' := rdW G r pl T (upd (upd z 0 0) 1 0)) (rdWf2 G r _ _ _ _) ?_
  refine hvret X dX3_start_10 ⟨rfl, ?_⟩
  rfl

set_option maxHeartbeats 4000000 in
set_option maxRecDepth 100000 in
theorem kX3_readDigit (l : Launch) (G : hG) (r : Nat → Nat) (T z : Nat → Int32) (pl a : Nat) (hpl : pl ≤ 80) (h0 : z 0 = nI a) (ha : a < 2 ^ 30) (hT : ∀ i, narrow .char (.int (T i)) = .int (T i)) : hM l G yX3_readDigit wsX3_readDigit ({ frames := 2, cells := 0, slots := 0, locals := 62 }) (rdW G r pl T z) [.ref (r 0)] (hR (some (.int ((rdD T pl a (z 1)).1))) (rdW G r pl T (upd (upd z 0 (nI (rdD T pl a (z 1)).2.1)) 1 (rdD T pl a (z 1)).2.2))) := by
  refine hM_of (cc := cX3_readDigit) (maxL := 2) (ret := (some .int)) (by decide) rfl (Nat.le_of_ble_eq_true rfl) ?_
  intro pp ee ss mm aa bb me cd X hin
  have iX3 : ∀ w ∈ wsX30, w ∈ wsX3_readDigit := by decide +kernel
  refine haload_n X dX3_readDigit_0 rfl ?_
  refine hget1 X (T := TX3) (N := 8) iX3 0 rfl rfl 0 (by decide) (by decide +kernel) rfl dX3_readDigit_1 ?_
  refine haload_n X dX3_readDigit_4 rfl ?_
  refine hget1 X (T := TX3) (N := 8) iX3 0 rfl rfl 1 (by decide) (by decide +kernel) rfl dX3_readDigit_5 ?_
  refine hV_st (st' := [.int (nI a), .ref (r 1)]) (congrArg (fun z => Value.int z :: [.ref (r 1)]) h0) ?_
  refine hV_perm (ws' := pdW G r pl T ++ rcW r z) (pmR G r _ _ _) ?_
  refine hcallVr (C := RX4) (T := TX4) (N := 2) (As := [.int (nI a)]) (rest := []) (st' := [.int (kAt T pl a)]) (w := pdW G r pl T) X (q0 := 0) (kX4_at l G r T pl a (hpl) (by omega) (hT)) gX3_readDigit_X4_at rfl (n := 1) (by decide +kernel) (by decide) rfl rfl rfl rfl (Nat.le_of_ble_eq_true rfl) dX3_readDigit_8 rfl rfl (by decide) rfl ?_
  refine hV_perm (ws' := rdW G r pl T z) (pmR G r _ _ _).symm ?_
  refine histore_n (lv' := [(1, .int (kAt T pl a)), (0, .ref (r 0))]) X dX3_readDigit_11 (by decide) rfl ?_
  refine haload_n X dX3_readDigit_12 rfl ?_
  refine hget1 X (T := TX3) (N := 8) iX3 0 rfl rfl 2 (by decide) (by decide +kernel) rfl dX3_readDigit_13 ?_
  refine hif_ne (tgt := 30) X dX3_readDigit_16 (by decide) (fun c1 => ?_) (fun c1 => ?_)
  · refine haload_n X dX3_readDigit_30 rfl ?_
    refine hiconst (v := 1) X dX3_readDigit_31 rfl ?_
    refine hput1 X (T := TX3) (N := 8) iX3 tyX3 tyX3_ok nmX3 0 rfl rfl 2 (by decide) (by decide +kernel) (by decide +kernel) rfl rfl (Nat.le_of_ble_eq_true rfl) dX3_readDigit_32 (ws' := rdW G r pl T (upd z 1 1)) (rdWf2 G r _ _ _ _) ?_
    refine hiconst (v := 0) X dX3_readDigit_35 rfl ?_
    refine hiret X dX3_readDigit_36 ⟨congrArg (fun z => some (Value.int z)) (?_ : 0 = (rdD T pl a (z 1)).1), ?_⟩
    · rw [rdD, if_neg (fun q => c1 q.1)]
    refine congrArg (rdW G r pl T) (?_ : (upd z 1 1 : Nat → Int32) = upd (upd z 0 (nI (rdD T pl a (z 1)).2.1)) 1 (rdD T pl a (z 1)).2.2)
    rw [rdD, if_neg (fun q => c1 q.1)]
    show _ = upd (upd z 0 (nI a)) 1 1
    rw [upd_self h0]
  · refine hiload_n X dX3_readDigit_19 rfl ?_
    refine hbipush (v := 49) X dX3_readDigit_20 rfl ?_
    refine hbipush (v := 57) X dX3_readDigit_22 rfl ?_
    refine hcallSNr (wsC := []) (wsR := rdW G r pl T z) (As := [.int (kAt T pl a), .int 49, .int 57]) (rest := []) (st' := [.int (bI (wI (kAt T pl a) 49 57))]) (w := []) X (kX7_isWithin l G (kAt T pl a) 49 57) gX3_readDigit_X7_isWithin_n68 rfl (n := 3) (by decide +kernel) (by decide +kernel) (by decide +kernel) (by decide +kernel) (by decide) rfl rfl (Nat.le_of_ble_eq_true rfl) dX3_readDigit_24 rfl rfl (by decide) rfl ?_
    refine hV_to (ws' := rdW G r pl T z) rfl rfl rfl ?_
    refine hif_neB (tgt := 37) X dX3_readDigit_27 (by decide) (fun c2 => ?_) (fun c2 => ?_)
    · refine haload_n X dX3_readDigit_37 rfl ?_
      refine hdup X dX3_readDigit_38 rfl ?_
      refine hget1 X (T := TX3) (N := 8) iX3 0 rfl rfl 1 (by decide) (by decide +kernel) rfl dX3_readDigit_39 ?_
      refine hV_st (st' := [.int (nI a), .ref (r 0)]) (congrArg (fun z => Value.int z :: [.ref (r 0)]) h0) ?_
      refine hiconst (v := 1) X dX3_readDigit_42 rfl ?_
      refine hiadd X dX3_readDigit_43 ?_
      refine hV_st (st' := [.int (nI (a + 1)), .ref (r 0)]) (congrArg (fun z => Value.int z :: [.ref (r 0)]) (nadd rfl rfl)) ?_
      refine hput1 X (T := TX3) (N := 8) iX3 tyX3 tyX3_ok nmX3 0 rfl rfl 1 (by decide) (by decide +kernel) (by decide +kernel) rfl rfl (Nat.le_of_ble_eq_true rfl) dX3_readDigit_44 (ws' := rdW G r pl T (upd z 0 (nI (a + 1)))) (rdWf1 G r _ _ _ _) ?_
      refine hiload_n X dX3_readDigit_47 rfl ?_
      refine hbipush (v := 48) X dX3_readDigit_48 rfl ?_
      refine hisub X dX3_readDigit_50 ?_
      refine hiret X dX3_readDigit_51 ⟨congrArg (fun z => some (Value.int z)) (?_ : ((kAt T pl a) - 48) = (rdD T pl a (z 1)).1), ?_⟩
      · rw [rdD, if_pos ⟨c1, c2⟩]
      refine congrArg (rdW G r pl T) (?_ : (upd z 0 (nI (a + 1)) : Nat → Int32) = upd (upd z 0 (nI (rdD T pl a (z 1)).2.1)) 1 (rdD T pl a (z 1)).2.2)
      rw [rdD, if_pos ⟨c1, c2⟩]
      exact (upd_self (pk_un (by decide))).symm
    · refine haload_n X dX3_readDigit_30 rfl ?_
      refine hiconst (v := 1) X dX3_readDigit_31 rfl ?_
      refine hput1 X (T := TX3) (N := 8) iX3 tyX3 tyX3_ok nmX3 0 rfl rfl 2 (by decide) (by decide +kernel) (by decide +kernel) rfl rfl (Nat.le_of_ble_eq_true rfl) dX3_readDigit_32 (ws' := rdW G r pl T (upd z 1 1)) (rdWf2 G r _ _ _ _) ?_
      refine hiconst (v := 0) X dX3_readDigit_35 rfl ?_
      refine hiret X dX3_readDigit_36 ⟨congrArg (fun z => some (Value.int z)) (?_ : 0 = (rdD T pl a (z 1)).1), ?_⟩
      · rw [rdD, if_neg (fun q => c2 q.2)]
      refine congrArg (rdW G r pl T) (?_ : (upd z 1 1 : Nat → Int32) = upd (upd z 0 (nI (rdD T pl a (z 1)).2.1)) 1 (rdD T pl a (z 1)).2.2)
      rw [rdD, if_neg (fun q => c2 q.2)]
      show _ = upd (upd z 0 (nI a)) 1 1
      rw [upd_self h0]

