set_option maxHeartbeats 4000000 in
set_option maxRecDepth 100000 in
theorem kX8_stand (l : Launch) (G : hG) (q : Nat → Nat) (E : hF) (n c : Nat) (h : mOk n c E) (r : Nat) (hr : r ≤ 6) (h60 : E 6 0 = nI r) (w1 w2 w3 w4 : Int32) : hM l G yX8_stand wsX8_stand ({ frames := 4, cells := 0, slots := 0, locals := 108 }) (mW G q E) [.ref (q 0), .int w1, .int w2, .int w3, .int w4] (hR (some (.int (stdR E n w1 w2 w3 w4))) (mW G q (stdE E n r w1 w2 w3 w4))) := by
  refine hM_of (cc := cX8_stand) (maxL := 6) (ret := (some .int)) (by decide) rfl (Nat.le_of_ble_eq_true rfl) ?_
  intro pp ee ss mm aa bb me cd X hin
  refine haload_n X dX8_stand_0 rfl ?_
  refine hiload_n X dX8_stand_1 rfl ?_
  refine hiload_n X dX8_stand_2 rfl ?_
  refine hiload_n X dX8_stand_3 rfl ?_
  refine hiload X dX8_stand_4 rfl ?_
  refine hcallV0 (C := RX8) (T := TX8) (N := 14) (As := [.int w1, .int w2, .int w3, .int w4]) (rest := []) (st' := [.int (whyS E w1 w2 w3 w4)]) (w := mW G q E) X (q0 := 0) (kX8_whyNoStand l G q E n c (by first | assumption | omega | simp [fs_at, *]) w1 w2 w3 w4) gX8_stand_X8_whyNoStand rfl (n := 4) (by decide +kernel) (by decide) rfl rfl rfl rfl (Nat.le_of_ble_eq_true rfl) dX8_stand_6 rfl rfl (by decide) rfl ?_
  refine histore (lv' := [(5, .int (whyS E w1 w2 w3 w4)), (0, .ref (q 0)), (1, .int w1), (2, .int w2), (3, .int w3), (4, .int w4)]) X dX8_stand_9 (by decide) rfl ?_
  refine hiload X dX8_stand_11 rfl ?_
  refine hif_ge (tgt := 19) X dX8_stand_13 (by decide) (fun c1 => ?_) (fun c1 => ?_)
  · have hn20 := whyS_n h c1
    refine haload_n X dX8_stand_19 rfl ?_
    refine hcallV0 (C := RX8) (T := TX8) (N := 14) (As := []) (rest := []) (st' := []) (w := mW G q (recE E r)) X (q0 := 0) (kX8_record l G q E r (hr) (h60)) gX8_stand_X8_record rfl (n := 0) (by decide +kernel) (by decide) rfl rfl rfl rfl (Nat.le_of_ble_eq_true rfl) dX8_stand_20 rfl rfl (by decide) rfl ?_
    refine haload_n X dX8_stand_23 rfl ?_
    refine hiload_n X dX8_stand_24 rfl ?_
    refine hiload_n X dX8_stand_25 rfl ?_
    refine hiload_n X dX8_stand_26 rfl ?_
    refine hiload X dX8_stand_27 rfl ?_
    refine hcallV0 (C := RX8) (T := TX8) (N := 14) (As := [.int w1, .int w2, .int w3, .int w4]) (rest := []) (st' := [.int (nI n)]) (w := mW G q (cmsE (recE E r) n w1 w2 w3 w4)) X (q0 := 0) (kX8_comes l G q (recE E r) n c (h.of0 (recE_0 _ _)) (by first | assumption | omega | simp [fs_at, *]) w1 w2 w3 w4) gX8_stand_X8_comes rfl (n := 4) (by decide +kernel) (by decide) rfl rfl rfl rfl (Nat.le_of_ble_eq_true rfl) dX8_stand_29 rfl rfl (by decide) rfl ?_
    refine hiret X dX8_stand_32 ⟨congrArg (fun z => some (Value.int z)) (?_ : (nI n) = stdR E n w1 w2 w3 w4), ?_⟩
    · simp [stdR, c1]
    refine congrArg (mW G q) (?_ : (cmsE (recE E r) n w1 w2 w3 w4 : hF) = stdE E n r w1 w2 w3 w4)
    simp [stdE, c1]
  · refine hiload X dX8_stand_16 rfl ?_
    refine hiret X dX8_stand_18 ⟨congrArg (fun z => some (Value.int z)) (?_ : (whyS E w1 w2 w3 w4) = stdR E n w1 w2 w3 w4), ?_⟩
    · simp [stdR, c1]
    refine congrArg (mW G q) (?_ : (E : hF) = stdE E n r w1 w2 w3 w4)
    simp [stdE, c1]

set_option maxHeartbeats 4000000 in
set_option maxRecDepth 100000 in
theorem kX8_whyNoCrew (l : Launch) (G : hG) (q : Nat → Nat) (E : hF) (x y : Int32) : hM l G yX8_whyNoCrew wsX8_whyNoCrew ({ frames := 2, cells := 0, slots := 0, locals := 62 }) (mW G q E) [.ref (q 0), .int x, .int y] (hR (some (.int (whcS E x y))) (mW G q E)) := by
  refine hM_of (cc := cX8_whyNoCrew) (maxL := 3) (ret := (some .int)) (by decide) rfl (Nat.le_of_ble_eq_true rfl) ?_
  intro pp ee ss mm aa bb me cd X hin
  have iX8 : ∀ w ∈ wsX80, w ∈ wsX8_whyNoCrew := by decide +kernel
  refine hiload_n X dX8_whyNoCrew_0 rfl ?_
  refine hiconst (v := 1) X dX8_whyNoCrew_1 rfl ?_
  refine hbipush (v := 9) X dX8_whyNoCrew_2 rfl ?_
  refine hcallSr (wsC := []) (wsR := mW G q E) (As := [.int x, .int 1, .int 9]) (rest := []) (st' := [.int (bI (wI x 1 9))]) (w := []) X (kX8_within l G x 1 9) gX8_whyNoCrew_X8_within rfl (n := 3) (by decide +kernel) (by decide) rfl rfl (Nat.le_of_ble_eq_true rfl) dX8_whyNoCrew_4 rfl rfl (by decide) rfl ?_
  refine hif_eqB (tgt := 20) X dX8_whyNoCrew_7 (by decide) (fun c1 => ?_) (fun c1 => ?_)
  · refine hbipush (v := (-2)) X dX8_whyNoCrew_20 rfl ?_
    refine hgoto (tgt := 42) X dX8_whyNoCrew_22 (by decide) ?_
    refine hiret X dX8_whyNoCrew_42 ⟨congrArg (fun z => some (Value.int z)) (?_ : (-2) = whcS E x y), ?_⟩
    · simp [whcS, c1]
    rfl
  · refine hiload_n X dX8_whyNoCrew_10 rfl ?_
    refine hiconst (v := 0) X dX8_whyNoCrew_11 rfl ?_
    refine hbipush (v := 99) X dX8_whyNoCrew_12 rfl ?_
    refine hcallSr (wsC := []) (wsR := mW G q E) (As := [.int y, .int 0, .int 99]) (rest := []) (st' := [.int (bI (wI y 0 99))]) (w := []) X (kX8_within l G y 0 99) gX8_whyNoCrew_X8_within rfl (n := 3) (by decide +kernel) (by decide) rfl rfl (Nat.le_of_ble_eq_true rfl) dX8_whyNoCrew_14 rfl rfl (by decide) rfl ?_
    refine hif_neB (tgt := 25) X dX8_whyNoCrew_17 (by decide) (fun c2 => ?_) (fun c2 => ?_)
    · refine haload_n X dX8_whyNoCrew_25 rfl ?_
      refine hget1 X (T := TX8) (N := 14) iX8 0 rfl rfl 0 (by decide) (by decide +kernel) rfl dX8_whyNoCrew_26 ?_
      refine hiconst (v := 5) X dX8_whyNoCrew_29 rfl ?_
      refine hiald (n := 250) (f := E 0) X 1 rfl 5 rfl (by omega) (by decide) dX8_whyNoCrew_30 ?_
      refine hbipush (v := 6) X dX8_whyNoCrew_31 rfl ?_
      refine hicmp_ne (tgt := 41) X dX8_whyNoCrew_33 (by decide) (fun c3 => ?_) (fun c3 => ?_)
      · refine hiconst (v := 0) X dX8_whyNoCrew_41 rfl ?_
        refine hiret X dX8_whyNoCrew_42 ⟨congrArg (fun z => some (Value.int z)) (?_ : 0 = whcS E x y), ?_⟩
        · simp [whcS, c1, c2, c3]
        rfl
      · refine hbipush (v := (-4)) X dX8_whyNoCrew_36 rfl ?_
        refine hgoto (tgt := 42) X dX8_whyNoCrew_38 (by decide) ?_
        refine hiret X dX8_whyNoCrew_42 ⟨congrArg (fun z => some (Value.int z)) (?_ : (-4) = whcS E x y), ?_⟩
        · simp [whcS, c1, c2, c3]
        rfl
    · refine hbipush (v := (-2)) X dX8_whyNoCrew_20 rfl ?_
      refine hgoto (tgt := 42) X dX8_whyNoCrew_22 (by decide) ?_
      refine hiret X dX8_whyNoCrew_42 ⟨congrArg (fun z => some (Value.int z)) (?_ : (-2) = whcS E x y), ?_⟩
      · simp [whcS, c1, c2]
      rfl

set_option maxHeartbeats 4000000 in
set_option maxRecDepth 100000 in
theorem kX8_comesCrew (l : Launch) (G : hG) (q : Nat → Nat) (E : hF) (n c : Nat) (h : mOk n c E) (hc : c < 6) (x y : Int32) : hM l G yX8_comesCrew wsX8_comesCrew ({ frames := 2, cells := 0, slots := 0, locals := 63 }) (mW G q E) [.ref (q 0), .int x, .int y] (hR (some (.int (nI c))) (mW G q (cmcE E c x y))) := by
  refine hM_of (cc := cX8_comesCrew) (maxL := 5) (ret := (some .int)) (by decide) rfl (Nat.le_of_ble_eq_true rfl) ?_
  intro pp ee ss mm aa bb me cd X hin
  have iX8 : ∀ w ∈ wsX80, w ∈ wsX8_comesCrew := by decide +kernel
  refine haload_n X dX8_comesCrew_0 rfl ?_
  refine hget1 X (T := TX8) (N := 14) iX8 0 rfl rfl 0 (by decide) (by decide +kernel) rfl dX8_comesCrew_1 ?_
  refine hiconst (v := 5) X dX8_comesCrew_4 rfl ?_
  refine hiald (n := 250) (f := E 0) X 1 rfl 5 rfl (by omega) (by decide) dX8_comesCrew_5 ?_
  refine hV_st (st' := [.int (nI c)]) (congrArg (fun z => Value.int z :: []) (h.h5)) ?_
  refine histore_n (lv' := [(3, .int (nI c)), (0, .ref (q 0)), (1, .int x), (2, .int y)]) X dX8_comesCrew_6 (by decide) rfl ?_
  refine hiconst (v := 0) X dX8_comesCrew_7 rfl ?_
  refine histore (lv' := [(4, .int 0), (3, .int (nI c)), (0, .ref (q 0)), (1, .int x), (2, .int y)]) X dX8_comesCrew_8 (by decide) rfl ?_
  refine hiload X dX8_comesCrew_10 rfl ?_
  refine hbipush (v := 7) X dX8_comesCrew_12 rfl ?_
  refine hicmp_ge (tgt := 31) X dX8_comesCrew_14 (by decide) (fun c1 => ?_) (fun c1 => ?_)
  · exact absurd c1 (by decide)
  refine haload_n X dX8_comesCrew_17 rfl ?_
  refine hiload_n X dX8_comesCrew_18 rfl ?_
  refine hiload X dX8_comesCrew_19 rfl ?_
  refine hiconst (v := 0) X dX8_comesCrew_21 rfl ?_
  refine hcallV0 (C := RX8) (T := TX8) (N := 14) (As := [.int (nI c), .int (nI 0), .int 0]) (rest := []) (st' := []) (w := mW G q (fs E 0 (208 + 7 * c + 0) 0)) X (q0 := 0) (kX8_setCrew l G q E c 0 0 (by first | assumption | omega | simp [fs_at, *]) (by first | assumption | omega | simp [fs_at, *])) gX8_comesCrew_X8_setCrew rfl (n := 3) (by decide +kernel) (by decide) rfl rfl rfl rfl (Nat.le_of_ble_eq_true rfl) dX8_comesCrew_22 rfl rfl (by decide) rfl ?_
  refine hiinc (v := 1) (lv' := [(4, .int 1), (3, .int (nI c)), (0, .ref (q 0)), (1, .int x), (2, .int y)]) X dX8_comesCrew_25 rfl rfl (by decide) rfl ?_
  refine hgoto (tgt := 10) X dX8_comesCrew_28 (by decide) ?_
  refine hiload X dX8_comesCrew_10 rfl ?_
  refine hbipush (v := 7) X dX8_comesCrew_12 rfl ?_
  refine hicmp_ge (tgt := 31) X dX8_comesCrew_14 (by decide) (fun c2 => ?_) (fun c2 => ?_)
  · exact absurd c2 (by decide)
  refine haload_n X dX8_comesCrew_17 rfl ?_
  refine hiload_n X dX8_comesCrew_18 rfl ?_
  refine hiload X dX8_comesCrew_19 rfl ?_
  refine hiconst (v := 0) X dX8_comesCrew_21 rfl ?_
  refine hcallV0 (C := RX8) (T := TX8) (N := 14) (As := [.int (nI c), .int (nI 1), .int 0]) (rest := []) (st' := []) (w := mW G q (fs (fs E 0 (208 + 7 * c + 0) 0) 0 (208 + 7 * c + 1) 0)) X (q0 := 0) (kX8_setCrew l G q (fs E 0 (208 + 7 * c + 0) 0) c 1 0 (by first | assumption | omega | simp [fs_at, *]) (by first | assumption | omega | simp [fs_at, *])) gX8_comesCrew_X8_setCrew rfl (n := 3) (by decide +kernel) (by decide) rfl rfl rfl rfl (Nat.le_of_ble_eq_true rfl) dX8_comesCrew_22 rfl rfl (by decide) rfl ?_
  refine hiinc (v := 2) (lv' := [(4, .int 2), (3, .int (nI c)), (0, .ref (q 0)), (1, .int x), (2, .int y)]) X dX8_comesCrew_25 rfl rfl (by decide) rfl ?_
  refine hgoto (tgt := 10) X dX8_comesCrew_28 (by decide) ?_
  refine hiload X dX8_comesCrew_10 rfl ?_
  refine hbipush (v := 7) X dX8_comesCrew_12 rfl ?_
  refine hicmp_ge (tgt := 31) X dX8_comesCrew_14 (by decide) (fun c3 => ?_) (fun c3 => ?_)
  · exact absurd c3 (by decide)
  refine haload_n X dX8_comesCrew_17 rfl ?_
  refine hiload_n X dX8_comesCrew_18 rfl ?_
  refine hiload X dX8_comesCrew_19 rfl ?_
  refine hiconst (v := 0) X dX8_comesCrew_21 rfl ?_
  refine hcallV0 (C := RX8) (T := TX8) (N := 14) (As := [.int (nI c), .int (nI 2), .int 0]) (rest := []) (st' := []) (w := mW G q (fs (fs (fs E 0 (208 + 7 * c + 0) 0) 0 (208 + 7 * c + 1) 0) 0 (208 + 7 * c + 2) 0)) X (q0 := 0) (kX8_setCrew l G q (fs (fs E 0 (208 + 7 * c + 0) 0) 0 (208 + 7 * c + 1) 0) c 2 0 (by first | assumption | omega | simp [fs_at, *]) (by first | assumption | omega | simp [fs_at, *])) gX8_comesCrew_X8_setCrew rfl (n := 3) (by decide +kernel) (by decide) rfl rfl rfl rfl (Nat.le_of_ble_eq_true rfl) dX8_comesCrew_22 rfl rfl (by decide) rfl ?_
  refine hiinc (v := 3) (lv' := [(4, .int 3), (3, .int (nI c)), (0, .ref (q 0)), (1, .int x), (2, .int y)]) X dX8_comesCrew_25 rfl rfl (by decide) rfl ?_
  refine hgoto (tgt := 10) X dX8_comesCrew_28 (by decide) ?_
  refine hiload X dX8_comesCrew_10 rfl ?_
  refine hbipush (v := 7) X dX8_comesCrew_12 rfl ?_
  refine hicmp_ge (tgt := 31) X dX8_comesCrew_14 (by decide) (fun c4 => ?_) (fun c4 => ?_)
  · exact absurd c4 (by decide)
  refine haload_n X dX8_comesCrew_17 rfl ?_
  refine hiload_n X dX8_comesCrew_18 rfl ?_
  refine hiload X dX8_comesCrew_19 rfl ?_
  refine hiconst (v := 0) X dX8_comesCrew_21 rfl ?_
  refine hcallV0 (C := RX8) (T := TX8) (N := 14) (As := [.int (nI c), .int (nI 3), .int 0]) (rest := []) (st' := []) (w := mW G q (fs (fs (fs (fs E 0 (208 + 7 * c + 0) 0) 0 (208 + 7 * c + 1) 0) 0 (208 + 7 * c + 2) 0) 0 (208 + 7 * c + 3) 0)) X (q0 := 0) (kX8_setCrew l G q (fs (fs (fs E 0 (208 + 7 * c + 0) 0) 0 (208 + 7 * c + 1) 0) 0 (208 + 7 * c + 2) 0) c 3 0 (by first | assumption | omega | simp [fs_at, *]) (by first | assumption | omega | simp [fs_at, *])) gX8_comesCrew_X8_setCrew rfl (n := 3) (by decide +kernel) (by decide) rfl rfl rfl rfl (Nat.le_of_ble_eq_true rfl) dX8_comesCrew_22 rfl rfl (by decide) rfl ?_
  refine hiinc (v := 4) (lv' := [(4, .int 4), (3, .int (nI c)), (0, .ref (q 0)), (1, .int x), (2, .int y)]) X dX8_comesCrew_25 rfl rfl (by decide) rfl ?_
  refine hgoto (tgt := 10) X dX8_comesCrew_28 (by decide) ?_
  refine hiload X dX8_comesCrew_10 rfl ?_
  refine hbipush (v := 7) X dX8_comesCrew_12 rfl ?_
  refine hicmp_ge (tgt := 31) X dX8_comesCrew_14 (by decide) (fun c5 => ?_) (fun c5 => ?_)
  · exact absurd c5 (by decide)
  refine haload_n X dX8_comesCrew_17 rfl ?_
  refine hiload_n X dX8_comesCrew_18 rfl ?_
  refine hiload X dX8_comesCrew_19 rfl ?_
  refine hiconst (v := 0) X dX8_comesCrew_21 rfl ?_
  refine hcallV0 (C := RX8) (T := TX8) (N := 14) (As := [.int (nI c), .int (nI 4), .int 0]) (rest := []) (st' := []) (w := mW G q (fs (fs (fs (fs (fs E 0 (208 + 7 * c + 0) 0) 0 (208 + 7 * c + 1) 0) 0 (208 + 7 * c + 2) 0) 0 (208 + 7 * c + 3) 0) 0 (208 + 7 * c + 4) 0)) X (q0 := 0) (kX8_setCrew l G q (fs (fs (fs (fs E 0 (208 + 7 * c + 0) 0) 0 (208 + 7 * c + 1) 0) 0 (208 + 7 * c + 2) 0) 0 (208 + 7 * c + 3) 0) c 4 0 (by first | assumption | omega | simp [fs_at, *]) (by first | assumption | omega | simp [fs_at, *])) gX8_comesCrew_X8_setCrew rfl (n := 3) (by decide +kernel) (by decide) rfl rfl rfl rfl (Nat.le_of_ble_eq_true rfl) dX8_comesCrew_22 rfl rfl (by decide) rfl ?_
  refine hiinc (v := 5) (lv' := [(4, .int 5), (3, .int (nI c)), (0, .ref (q 0)), (1, .int x), (2, .int y)]) X dX8_comesCrew_25 rfl rfl (by decide) rfl ?_
  refine hgoto (tgt := 10) X dX8_comesCrew_28 (by decide) ?_
  refine hiload X dX8_comesCrew_10 rfl ?_
  refine hbipush (v := 7) X dX8_comesCrew_12 rfl ?_
  refine hicmp_ge (tgt := 31) X dX8_comesCrew_14 (by decide) (fun c6 => ?_) (fun c6 => ?_)
  · exact absurd c6 (by decide)
  refine haload_n X dX8_comesCrew_17 rfl ?_
  refine hiload_n X dX8_comesCrew_18 rfl ?_
  refine hiload X dX8_comesCrew_19 rfl ?_
  refine hiconst (v := 0) X dX8_comesCrew_21 rfl ?_
  refine hcallV0 (C := RX8) (T := TX8) (N := 14) (As := [.int (nI c), .int (nI 5), .int 0]) (rest := []) (st' := []) (w := mW G q (fs (fs (fs (fs (fs (fs E 0 (208 + 7 * c + 0) 0) 0 (208 + 7 * c + 1) 0) 0 (208 + 7 * c + 2) 0) 0 (208 + 7 * c + 3) 0) 0 (208 + 7 * c + 4) 0) 0 (208 + 7 * c + 5) 0)) X (q0 := 0) (kX8_setCrew l G q (fs (fs (fs (fs (fs E 0 (208 + 7 * c + 0) 0) 0 (208 + 7 * c + 1) 0) 0 (208 + 7 * c + 2) 0) 0 (208 + 7 * c + 3) 0) 0 (208 + 7 * c + 4) 0) c 5 0 (by first | assumption | omega | simp [fs_at, *]) (by first | assumption | omega | simp [fs_at, *])) gX8_comesCrew_X8_setCrew rfl (n := 3) (by decide +kernel) (by decide) rfl rfl rfl rfl (Nat.le_of_ble_eq_true rfl) dX8_comesCrew_22 rfl rfl (by decide) rfl ?_
  refine hiinc (v := 6) (lv' := [(4, .int 6), (3, .int (nI c)), (0, .ref (q 0)), (1, .int x), (2, .int y)]) X dX8_comesCrew_25 rfl rfl (by decide) rfl ?_
  refine hgoto (tgt := 10) X dX8_comesCrew_28 (by decide) ?_
  refine hiload X dX8_comesCrew_10 rfl ?_
  refine hbipush (v := 7) X dX8_comesCrew_12 rfl ?_
  refine hicmp_ge (tgt := 31) X dX8_comesCrew_14 (by decide) (fun c7 => ?_) (fun c7 => ?_)
  · exact absurd c7 (by decide)
  refine haload_n X dX8_comesCrew_17 rfl ?_
  refine hiload_n X dX8_comesCrew_18 rfl ?_
  refine hiload X dX8_comesCrew_19 rfl ?_
  refine hiconst (v := 0) X dX8_comesCrew_21 rfl ?_
  refine hcallV0 (C := RX8) (T := TX8) (N := 14) (As := [.int (nI c), .int (nI 6), .int 0]) (rest := []) (st' := []) (w := mW G q (fs (fs (fs (fs (fs (fs (fs E 0 (208 + 7 * c + 0) 0) 0 (208 + 7 * c + 1) 0) 0 (208 + 7 * c + 2) 0) 0 (208 + 7 * c + 3) 0) 0 (208 + 7 * c + 4) 0) 0 (208 + 7 * c + 5) 0) 0 (208 + 7 * c + 6) 0)) X (q0 := 0) (kX8_setCrew l G q (fs (fs (fs (fs (fs (fs E 0 (208 + 7 * c + 0) 0) 0 (208 + 7 * c + 1) 0) 0 (208 + 7 * c + 2) 0) 0 (208 + 7 * c + 3) 0) 0 (208 + 7 * c + 4) 0) 0 (208 + 7 * c + 5) 0) c 6 0 (by first | assumption | omega | simp [fs_at, *]) (by first | assumption | omega | simp [fs_at, *])) gX8_comesCrew_X8_setCrew rfl (n := 3) (by decide +kernel) (by decide) rfl rfl rfl rfl (Nat.le_of_ble_eq_true rfl) dX8_comesCrew_22 rfl rfl (by decide) rfl ?_
  refine hiinc (v := 7) (lv' := [(4, .int 7), (3, .int (nI c)), (0, .ref (q 0)), (1, .int x), (2, .int y)]) X dX8_comesCrew_25 rfl rfl (by decide) rfl ?_
  refine hgoto (tgt := 10) X dX8_comesCrew_28 (by decide) ?_
  refine hiload X dX8_comesCrew_10 rfl ?_
  refine hbipush (v := 7) X dX8_comesCrew_12 rfl ?_
  refine hicmp_ge (tgt := 31) X dX8_comesCrew_14 (by decide) (fun c8 => ?_) (fun c8 => ?_)
  rotate_left
  · exact absurd (by decide) c8
  refine haload_n X dX8_comesCrew_31 rfl ?_
  refine hiload_n X dX8_comesCrew_32 rfl ?_
  refine hiconst (v := 0) X dX8_comesCrew_33 rfl ?_
  refine hiload_n X dX8_comesCrew_34 rfl ?_
  refine hcallV0 (C := RX8) (T := TX8) (N := 14) (As := [.int (nI c), .int (nI 0), .int x]) (rest := []) (st' := []) (w := mW G q (fs (fs (fs (fs (fs (fs (fs (fs E 0 (208 + 7 * c + 0) 0) 0 (208 + 7 * c + 1) 0) 0 (208 + 7 * c + 2) 0) 0 (208 + 7 * c + 3) 0) 0 (208 + 7 * c + 4) 0) 0 (208 + 7 * c + 5) 0) 0 (208 + 7 * c + 6) 0) 0 (208 + 7 * c + 0) x)) X (q0 := 0) (kX8_setCrew l G q (fs (fs (fs (fs (fs (fs (fs E 0 (208 + 7 * c + 0) 0) 0 (208 + 7 * c + 1) 0) 0 (208 + 7 * c + 2) 0) 0 (208 + 7 * c + 3) 0) 0 (208 + 7 * c + 4) 0) 0 (208 + 7 * c + 5) 0) 0 (208 + 7 * c + 6) 0) c 0 x (by first | assumption | omega | simp [fs_at, *]) (by first | assumption | omega | simp [fs_at, *])) gX8_comesCrew_X8_setCrew rfl (n := 3) (by decide +kernel) (by decide) rfl rfl rfl rfl (Nat.le_of_ble_eq_true rfl) dX8_comesCrew_35 rfl rfl (by decide) rfl ?_
  refine haload_n X dX8_comesCrew_38 rfl ?_
  refine hiload_n X dX8_comesCrew_39 rfl ?_
  refine hiconst (v := 1) X dX8_comesCrew_40 rfl ?_
  refine hiload_n X dX8_comesCrew_41 rfl ?_
  refine hcallV0 (C := RX8) (T := TX8) (N := 14) (As := [.int (nI c), .int (nI 1), .int y]) (rest := []) (st' := []) (w := mW G q (fs (fs (fs (fs (fs (fs (fs (fs (fs E 0 (208 + 7 * c + 0) 0) 0 (208 + 7 * c + 1) 0) 0 (208 + 7 * c + 2) 0) 0 (208 + 7 * c + 3) 0) 0 (208 + 7 * c + 4) 0) 0 (208 + 7 * c + 5) 0) 0 (208 + 7 * c + 6) 0) 0 (208 + 7 * c + 0) x) 0 (208 + 7 * c + 1) y)) X (q0 := 0) (kX8_setCrew l G q (fs (fs (fs (fs (fs (fs (fs (fs E 0 (208 + 7 * c + 0) 0) 0 (208 + 7 * c + 1) 0) 0 (208 + 7 * c + 2) 0) 0 (208 + 7 * c + 3) 0) 0 (208 + 7 * c + 4) 0) 0 (208 + 7 * c + 5) 0) 0 (208 + 7 * c + 6) 0) 0 (208 + 7 * c + 0) x) c 1 y (by first | assumption | omega | simp [fs_at, *]) (by first | assumption | omega | simp [fs_at, *])) gX8_comesCrew_X8_setCrew rfl (n := 3) (by decide +kernel) (by decide) rfl rfl rfl rfl (Nat.le_of_ble_eq_true rfl) dX8_comesCrew_42 rfl rfl (by decide) rfl ?_
  refine haload_n X dX8_comesCrew_45 rfl ?_
  refine hiload_n X dX8_comesCrew_46 rfl ?_
  refine hiconst (v := 2) X dX8_comesCrew_47 rfl ?_
  refine hbipush (v := (-6)) X dX8_comesCrew_48 rfl ?_
  refine hcallV0 (C := RX8) (T := TX8) (N := 14) (As := [.int (nI c), .int (nI 2), .int (-6)]) (rest := []) (st' := []) (w := mW G q (fs (fs (fs (fs (fs (fs (fs (fs (fs (fs E 0 (208 + 7 * c + 0) 0) 0 (208 + 7 * c + 1) 0) 0 (208 + 7 * c + 2) 0) 0 (208 + 7 * c + 3) 0) 0 (208 + 7 * c + 4) 0) 0 (208 + 7 * c + 5) 0) 0 (208 + 7 * c + 6) 0) 0 (208 + 7 * c + 0) x) 0 (208 + 7 * c + 1) y) 0 (208 + 7 * c + 2) (-6))) X (q0 := 0) (kX8_setCrew l G q (fs (fs (fs (fs (fs (fs (fs (fs (fs E 0 (208 + 7 * c + 0) 0) 0 (208 + 7 * c + 1) 0) 0 (208 + 7 * c + 2) 0) 0 (208 + 7 * c + 3) 0) 0 (208 + 7 * c + 4) 0) 0 (208 + 7 * c + 5) 0) 0 (208 + 7 * c + 6) 0) 0 (208 + 7 * c + 0) x) 0 (208 + 7 * c + 1) y) c 2 (-6) (by first | assumption | omega | simp [fs_at, *]) (by first | assumption | omega | simp [fs_at, *])) gX8_comesCrew_X8_setCrew rfl (n := 3) (by decide +kernel) (by decide) rfl rfl rfl rfl (Nat.le_of_ble_eq_true rfl) dX8_comesCrew_50 rfl rfl (by decide) rfl ?_
  refine haload_n X dX8_comesCrew_53 rfl ?_
  refine hget1 X (T := TX8) (N := 14) iX8 0 rfl rfl 0 (by decide) (by decide +kernel) rfl dX8_comesCrew_54 ?_
  refine hiconst (v := 5) X dX8_comesCrew_57 rfl ?_
  refine hdup2 X dX8_comesCrew_58 rfl rfl ?_
  refine hiald (n := 250) (f := (fs (fs (fs (fs (fs (fs (fs (fs (fs (fs E 0 (208 + 7 * c + 0) 0) 0 (208 + 7 * c + 1) 0) 0 (208 + 7 * c + 2) 0) 0 (208 + 7 * c + 3) 0) 0 (208 + 7 * c + 4) 0) 0 (208 + 7 * c + 5) 0) 0 (208 + 7 * c + 6) 0) 0 (208 + 7 * c + 0) x) 0 (208 + 7 * c + 1) y) 0 (208 + 7 * c + 2) (-6)) 0) X 1 rfl 5 rfl (by omega) (by decide) dX8_comesCrew_59 ?_
  have r9 : ((fs (fs (fs (fs (fs (fs (fs (fs (fs (fs E 0 (208 + 7 * c + 0) 0) 0 (208 + 7 * c + 1) 0) 0 (208 + 7 * c + 2) 0) 0 (208 + 7 * c + 3) 0) 0 (208 + 7 * c + 4) 0) 0 (208 + 7 * c + 5) 0) 0 (208 + 7 * c + 6) 0) 0 (208 + 7 * c + 0) x) 0 (208 + 7 * c + 1) y) 0 (208 + 7 * c + 2) (-6)) 0 5 : Int32) = E 0 5 := by rw [fs_at, if_neg (by omega), fs_at, if_neg (by omega), fs_at, if_neg (by omega), fs_at, if_neg (by omega), fs_at, if_neg (by omega), fs_at, if_neg (by omega), fs_at, if_neg (by omega), fs_at, if_neg (by omega), fs_at, if_neg (by omega), fs_at, if_neg (by omega)]
  refine hV_st (st' := [.int (E 0 5), .int 5, .ref (q 1)]) (congrArg (fun z => Value.int z :: [.int 5, .ref (q 1)]) r9) ?_
  refine hV_st (st' := [.int (nI c), .int 5, .ref (q 1)]) (congrArg (fun z => Value.int z :: [.int 5, .ref (q 1)]) (h.h5)) ?_
  refine hiconst (v := 1) X dX8_comesCrew_60 rfl ?_
  refine hiadd X dX8_comesCrew_61 ?_
  refine hiast (n := 250) (f := (fs (fs (fs (fs (fs (fs (fs (fs (fs (fs E 0 (208 + 7 * c + 0) 0) 0 (208 + 7 * c + 1) 0) 0 (208 + 7 * c + 2) 0) 0 (208 + 7 * c + 3) 0) 0 (208 + 7 * c + 4) 0) 0 (208 + 7 * c + 5) 0) 0 (208 + 7 * c + 6) 0) 0 (208 + 7 * c + 0) x) 0 (208 + 7 * c + 1) y) 0 (208 + 7 * c + 2) (-6)) 0) X 1 rfl 5 rfl (by omega) (by decide) dX8_comesCrew_62 (ws' := mW G q (fs (fs (fs (fs (fs (fs (fs (fs (fs (fs (fs E 0 (208 + 7 * c + 0) 0) 0 (208 + 7 * c + 1) 0) 0 (208 + 7 * c + 2) 0) 0 (208 + 7 * c + 3) 0) 0 (208 + 7 * c + 4) 0) 0 (208 + 7 * c + 5) 0) 0 (208 + 7 * c + 6) 0) 0 (208 + 7 * c + 0) x) 0 (208 + 7 * c + 1) y) 0 (208 + 7 * c + 2) (-6)) 0 5 ((nI c) + 1))) (mWs0 G q _ _ _) ?_
  refine hiload_n X dX8_comesCrew_63 rfl ?_
  refine hiret X dX8_comesCrew_64 ⟨rfl, ?_⟩
  refine congrArg (mW G q) (?_ : (fs (fs (fs (fs (fs (fs (fs (fs (fs (fs (fs E 0 (208 + 7 * c + 0) 0) 0 (208 + 7 * c + 1) 0) 0 (208 + 7 * c + 2) 0) 0 (208 + 7 * c + 3) 0) 0 (208 + 7 * c + 4) 0) 0 (208 + 7 * c + 5) 0) 0 (208 + 7 * c + 6) 0) 0 (208 + 7 * c + 0) x) 0 (208 + 7 * c + 1) y) 0 (208 + 7 * c + 2) (-6)) 0 5 ((nI c) + 1) : hF) = cmcE E c x y)
  simp [cmcE]

set_option maxHeartbeats 4000000 in
set_option maxRecDepth 100000 in
theorem kX8_crew (l : Launch) (G : hG) (q : Nat → Nat) (E : hF) (n c : Nat) (h : mOk n c E) (r : Nat) (hr : r ≤ 6) (h60 : E 6 0 = nI r) (x y : Int32) : hM l G yX8_crew wsX8_crew ({ frames := 3, cells := 0, slots := 0, locals := 87 }) (mW G q E) [.ref (q 0), .int x, .int y] (hR (some (.int (crwR E c x y))) (mW G q (crwE E c r x y))) := by
  refine hM_of (cc := cX8_crew) (maxL := 4) (ret := (some .int)) (by decide) rfl (Nat.le_of_ble_eq_true rfl) ?_
  intro pp ee ss mm aa bb me cd X hin
  refine haload_n X dX8_crew_0 rfl ?_
  refine hiload_n X dX8_crew_1 rfl ?_
  refine hiload_n X dX8_crew_2 rfl ?_
  refine hcallV0 (C := RX8) (T := TX8) (N := 14) (As := [.int x, .int y]) (rest := []) (st' := [.int (whcS E x y)]) (w := mW G q E) X (q0 := 0) (kX8_whyNoCrew l G q E x y) gX8_crew_X8_whyNoCrew rfl (n := 2) (by decide +kernel) (by decide) rfl rfl rfl rfl (Nat.le_of_ble_eq_true rfl) dX8_crew_3 rfl rfl (by decide) rfl ?_
  refine histore_n (lv' := [(3, .int (whcS E x y)), (0, .ref (q 0)), (1, .int x), (2, .int y)]) X dX8_crew_6 (by decide) rfl ?_
  refine hiload_n X dX8_crew_7 rfl ?_
  refine hif_ge (tgt := 13) X dX8_crew_8 (by decide) (fun c1 => ?_) (fun c1 => ?_)
  · have hc6 := whcS_n h c1
    refine haload_n X dX8_crew_13 rfl ?_
    refine hcallV0 (C := RX8) (T := TX8) (N := 14) (As := []) (rest := []) (st' := []) (w := mW G q (recE E r)) X (q0 := 0) (kX8_record l G q E r (hr) (h60)) gX8_crew_X8_record rfl (n := 0) (by decide +kernel) (by decide) rfl rfl rfl rfl (Nat.le_of_ble_eq_true rfl) dX8_crew_14 rfl rfl (by decide) rfl ?_
    refine haload_n X dX8_crew_17 rfl ?_
    refine hiload_n X dX8_crew_18 rfl ?_
    refine hiload_n X dX8_crew_19 rfl ?_
    refine hcallV0 (C := RX8) (T := TX8) (N := 14) (As := [.int x, .int y]) (rest := []) (st' := [.int (nI c)]) (w := mW G q (cmcE (recE E r) c x y)) X (q0 := 0) (kX8_comesCrew l G q (recE E r) n c (h.of0 (recE_0 _ _)) (by first | assumption | omega | simp [fs_at, *]) x y) gX8_crew_X8_comesCrew rfl (n := 2) (by decide +kernel) (by decide) rfl rfl rfl rfl (Nat.le_of_ble_eq_true rfl) dX8_crew_20 rfl rfl (by decide) rfl ?_
    refine hiret X dX8_crew_23 ⟨congrArg (fun z => some (Value.int z)) (?_ : (nI c) = crwR E c x y), ?_⟩
    · simp [crwR, c1]
    refine congrArg (mW G q) (?_ : (cmcE (recE E r) c x y : hF) = crwE E c r x y)
    simp [crwE, c1]
  · refine hiload_n X dX8_crew_11 rfl ?_
    refine hiret X dX8_crew_12 ⟨congrArg (fun z => some (Value.int z)) (?_ : (whcS E x y) = crwR E c x y), ?_⟩
    · simp [crwR, c1]
    refine congrArg (mW G q) (?_ : (E : hF) = crwE E c r x y)
    simp [crwE, c1]

set_option maxHeartbeats 4000000 in
set_option maxRecDepth 100000 in
theorem kX8_ends (l : Launch) (G : hG) (q : Nat → Nat) (E : hF) (n c : Nat) (h : mOk n c E) : hM l G yX8_ends wsX8_ends ({ frames := 2, cells := 0, slots := 0, locals := 63 }) (mW G q E) [.ref (q 0)] (hR (some (.int ((ensE n E).2))) (mW G q ((ensE n E).1))) := by
  refine hM_of (cc := cX8_ends) (maxL := 3) (ret := (some .int)) (by decide) rfl (Nat.le_of_ble_eq_true rfl) ?_
  intro pp ee ss mm aa bb me cd X hin
  have iX8 : ∀ w ∈ wsX80, w ∈ wsX8_ends := by decide +kernel
  have hn := h.hn
  have hc := h.hc
  have L : ∀ (d : Nat) (k : Nat), (k ≤ n) → (n - k) < d → hV pp l ee ({ frames := 2, cells := 0, slots := 0, locals := 63 }) ss mm aa bb me cd G (va_A (mW G q E) ss.heap.size) 3 0 0 (MQ bb (hQc G (mW G q E) ss.heap.size (hR (some (.int ((ensE n E).2))) (mW G q ((ensE n E).1)))) aa ss 0 0 (va_A (mW G q E) ss.heap.size)) (mW G q ((itN k enS (fs E 0 6 1, 0)).1)) 12 [(2, .int (nI k)), (1, .int ((itN k enS (fs E 0 6 1, 0)).2)), (0, .ref (q 0))] [] := by
    intro d
    induction d with
    | zero =>
      intro k hk hd0
      exact absurd hd0 (Nat.not_lt_zero _)
    | succ d ih =>
      intro k hk hd0
      have hI : mOk n c ((itN k enS (fs E 0 6 1, 0)).1) := menN h hk
      refine hiload_n X dX8_ends_12 rfl ?_
      refine haload_n X dX8_ends_13 rfl ?_
      refine hget1 X (T := TX8) (N := 14) iX8 0 rfl rfl 0 (by decide) (by decide +kernel) rfl dX8_ends_14 ?_
      refine hiconst (v := 4) X dX8_ends_17 rfl ?_
      refine hiald (n := 250) (f := ((itN k enS (fs E 0 6 1, 0)).1) 0) X 1 rfl 4 rfl (by omega) (by decide) dX8_ends_18 ?_
      refine hV_st (st' := [.int (nI n), .int (nI k)]) (congrArg (fun z => Value.int z :: [.int (nI k)]) (hI.h4)) ?_
      refine hicmp_ge (tgt := 91) X dX8_ends_19 (by decide) (fun c1 => ?_) (fun c1 => ?_)
      · have ek := i_ge hk (by omega) c1
        refine hiload_n X dX8_ends_91 rfl ?_
        refine hiret X dX8_ends_92 ⟨congrArg (fun z => some (Value.int z)) (?_ : ((itN k enS (fs E 0 6 1, 0)).2) = (ensE n E).2), ?_⟩
        · simp [ensE, ek]
        refine congrArg (mW G q) (?_ : ((itN k enS (fs E 0 6 1, 0)).1 : hF) = (ensE n E).1)
        simp [ensE, ek]
      · have hk1 := i_lt hk (by omega) c1
        refine haload_n X dX8_ends_22 rfl ?_
        refine hiload_n X dX8_ends_23 rfl ?_
        refine hiconst (v := 4) X dX8_ends_24 rfl ?_
        refine hcallV0 (C := RX8) (T := TX8) (N := 14) (As := [.int (nI k), .int (nI 4)]) (rest := []) (st' := [.int (((itN k enS (fs E 0 6 1, 0)).1) 0 (8 + 10 * k + 4))]) (w := mW G q ((itN k enS (fs E 0 6 1, 0)).1)) X (q0 := 0) (kX8_part l G q ((itN k enS (fs E 0 6 1, 0)).1) k 4 (by first | assumption | omega | simp [fs_at, *]) (by first | assumption | omega | simp [fs_at, *])) gX8_ends_X8_part rfl (n := 2) (by decide +kernel) (by decide) rfl rfl rfl rfl (Nat.le_of_ble_eq_true rfl) dX8_ends_25 rfl rfl (by decide) rfl ?_
        refine hiconst (v := 4) X dX8_ends_28 rfl ?_
        refine hicmp_ge (tgt := 85) X dX8_ends_29 (by decide) (fun c2 => ?_) (fun c2 => ?_)
        · refine hiinc (v := nI (k + 1)) (lv' := [(2, .int (nI (k + 1))), (1, .int ((itN k enS (fs E 0 6 1, 0)).2)), (0, .ref (q 0))]) X dX8_ends_85 rfl (nI_1 _) (by decide) rfl ?_
          refine hgoto (tgt := 12) X dX8_ends_88 (by decide) ?_
          have e3 : ((itN k enS (fs E 0 6 1, 0)).2 : Int32) = (itN (k + 1) enS (fs E 0 6 1, 0)).2 := by
            first | (simp [itN, enS, enA, c1, c2]; done) | (simp [itN, enS, enA, hb2, nI_clamp (show b < 2 ^ 31 by omega), nI_ne6 (show b < 2 ^ 31 by omega), c1, c2]; done)
          have w4 : ((itN k enS (fs E 0 6 1, 0)).1 : hF) = (itN (k + 1) enS (fs E 0 6 1, 0)).1 := by
            first | (simp [itN, enS, enA, c1, c2]; done) | (simp [itN, enS, enA, hb2, nI_clamp (show b < 2 ^ 31 by omega), nI_ne6 (show b < 2 ^ 31 by omega), c1, c2]; done)
          exact hV_to (ws' := mW G q ((itN (k + 1) enS (fs E 0 6 1, 0)).1)) (lv' := [(2, .int (nI (k + 1))), (1, .int ((itN (k + 1) enS (fs E 0 6 1, 0)).2)), (0, .ref (q 0))]) (st' := []) (congrArg (mW G q) w4) (congrArg (fun z => ([(2, .int (nI (k + 1))), (1, .int z), (0, .ref (q 0))] : List (Nat × Value))) e3) rfl (ih (k + 1) (by omega) (by omega))
        · refine haload_n X dX8_ends_32 rfl ?_
          refine hiload_n X dX8_ends_33 rfl ?_
          refine hbipush (v := 7) X dX8_ends_34 rfl ?_
          refine hcallV0 (C := RX8) (T := TX8) (N := 14) (As := [.int (nI k), .int (nI 7)]) (rest := []) (st' := [.int (((itN k enS (fs E 0 6 1, 0)).1) 0 (8 + 10 * k + 7))]) (w := mW G q ((itN k enS (fs E 0 6 1, 0)).1)) X (q0 := 0) (kX8_part l G q ((itN k enS (fs E 0 6 1, 0)).1) k 7 (by first | assumption | omega | simp [fs_at, *]) (by first | assumption | omega | simp [fs_at, *])) gX8_ends_X8_part rfl (n := 2) (by decide +kernel) (by decide) rfl rfl rfl rfl (Nat.le_of_ble_eq_true rfl) dX8_ends_36 rfl rfl (by decide) rfl ?_
          refine hbipush (v := (-6)) X dX8_ends_39 rfl ?_
          refine hicmp_eq (tgt := 58) X dX8_ends_41 (by decide) (fun c5 => ?_) (fun c5 => ?_)
          · refine haload_n X dX8_ends_58 rfl ?_
            refine hiload_n X dX8_ends_59 rfl ?_
            refine hbipush (v := 7) X dX8_ends_60 rfl ?_
            refine hbipush (v := (-6)) X dX8_ends_62 rfl ?_
            refine hcallV0 (C := RX8) (T := TX8) (N := 14) (As := [.int (nI k), .int (nI 7), .int (-6)]) (rest := []) (st' := []) (w := mW G q (fs ((itN k enS (fs E 0 6 1, 0)).1) 0 (8 + 10 * k + 7) (-6))) X (q0 := 0) (kX8_setPart l G q ((itN k enS (fs E 0 6 1, 0)).1) k 7 (-6) (by first | assumption | omega | simp [fs_at, *]) (by first | assumption | omega | simp [fs_at, *])) gX8_ends_X8_setPart rfl (n := 3) (by decide +kernel) (by decide) rfl rfl rfl rfl (Nat.le_of_ble_eq_true rfl) dX8_ends_64 rfl rfl (by decide) rfl ?_
            refine haload_n X dX8_ends_67 rfl ?_
            refine hiload_n X dX8_ends_68 rfl ?_
            refine hiconst (v := 4) X dX8_ends_69 rfl ?_
            refine hbipush (v := 6) X dX8_ends_70 rfl ?_
            refine hcallV0 (C := RX8) (T := TX8) (N := 14) (As := [.int (nI k), .int (nI 4), .int 6]) (rest := []) (st' := []) (w := mW G q (fs (fs ((itN k enS (fs E 0 6 1, 0)).1) 0 (8 + 10 * k + 7) (-6)) 0 (8 + 10 * k + 4) 6)) X (q0 := 0) (kX8_setPart l G q (fs ((itN k enS (fs E 0 6 1, 0)).1) 0 (8 + 10 * k + 7) (-6)) k 4 6 (by first | assumption | omega | simp [fs_at, *]) (by first | assumption | omega | simp [fs_at, *])) gX8_ends_X8_setPart rfl (n := 3) (by decide +kernel) (by decide) rfl rfl rfl rfl (Nat.le_of_ble_eq_true rfl) dX8_ends_72 rfl rfl (by decide) rfl ?_
            refine haload_n X dX8_ends_75 rfl ?_
            refine hiload_n X dX8_ends_76 rfl ?_
            refine hiconst (v := 5) X dX8_ends_77 rfl ?_
            refine hiconst (v := 0) X dX8_ends_78 rfl ?_
            refine hcallV0 (C := RX8) (T := TX8) (N := 14) (As := [.int (nI k), .int (nI 5), .int 0]) (rest := []) (st' := []) (w := mW G q (fs (fs (fs ((itN k enS (fs E 0 6 1, 0)).1) 0 (8 + 10 * k + 7) (-6)) 0 (8 + 10 * k + 4) 6) 0 (8 + 10 * k + 5) 0)) X (q0 := 0) (kX8_setPart l G q (fs (fs ((itN k enS (fs E 0 6 1, 0)).1) 0 (8 + 10 * k + 7) (-6)) 0 (8 + 10 * k + 4) 6) k 5 0 (by first | assumption | omega | simp [fs_at, *]) (by first | assumption | omega | simp [fs_at, *])) gX8_ends_X8_setPart rfl (n := 3) (by decide +kernel) (by decide) rfl rfl rfl rfl (Nat.le_of_ble_eq_true rfl) dX8_ends_79 rfl rfl (by decide) rfl ?_
            refine hiinc (v := (itN k enS (fs E 0 6 1, 0)).2 + 1) (lv' := [(1, .int ((itN k enS (fs E 0 6 1, 0)).2 + 1)), (2, .int (nI k)), (0, .ref (q 0))]) X dX8_ends_82 rfl rfl (by decide) rfl ?_
            refine hiinc (v := nI (k + 1)) (lv' := [(2, .int (nI (k + 1))), (1, .int ((itN k enS (fs E 0 6 1, 0)).2 + 1)), (0, .ref (q 0))]) X dX8_ends_85 rfl (nI_1 _) (by decide) rfl ?_
            refine hgoto (tgt := 12) X dX8_ends_88 (by decide) ?_
            have e6 : ((itN k enS (fs E 0 6 1, 0)).2 + 1 : Int32) = (itN (k + 1) enS (fs E 0 6 1, 0)).2 := by
              first | (simp [itN, enS, enA, c1, c2, c5]; done) | (simp [itN, enS, enA, hb2, nI_clamp (show b < 2 ^ 31 by omega), nI_ne6 (show b < 2 ^ 31 by omega), c1, c2, c5]; done)
            have w7 : (fs (fs (fs ((itN k enS (fs E 0 6 1, 0)).1) 0 (8 + 10 * k + 7) (-6)) 0 (8 + 10 * k + 4) 6) 0 (8 + 10 * k + 5) 0 : hF) = (itN (k + 1) enS (fs E 0 6 1, 0)).1 := by
              first | (simp [itN, enS, enA, c1, c2, c5]; done) | (simp [itN, enS, enA, hb2, nI_clamp (show b < 2 ^ 31 by omega), nI_ne6 (show b < 2 ^ 31 by omega), c1, c2, c5]; done)
            exact hV_to (ws' := mW G q ((itN (k + 1) enS (fs E 0 6 1, 0)).1)) (lv' := [(2, .int (nI (k + 1))), (1, .int ((itN (k + 1) enS (fs E 0 6 1, 0)).2)), (0, .ref (q 0))]) (st' := []) (congrArg (mW G q) w7) (congrArg (fun z => ([(2, .int (nI (k + 1))), (1, .int z), (0, .ref (q 0))] : List (Nat × Value))) e6) rfl (ih (k + 1) (by omega) (by omega))
          · obtain ⟨b, hb1, hb2⟩ := (hI.hy k hk1).resolve_left c5
            refine haload_n X dX8_ends_44 rfl ?_
            refine haload_n X dX8_ends_45 rfl ?_
            refine hiload_n X dX8_ends_46 rfl ?_
            refine hbipush (v := 7) X dX8_ends_47 rfl ?_
            refine hcallV0 (C := RX8) (T := TX8) (N := 14) (As := [.int (nI k), .int (nI 7)]) (rest := [.ref (q 0)]) (st' := [.int (((itN k enS (fs E 0 6 1, 0)).1) 0 (8 + 10 * k + 7)), .ref (q 0)]) (w := mW G q ((itN k enS (fs E 0 6 1, 0)).1)) X (q0 := 0) (kX8_part l G q ((itN k enS (fs E 0 6 1, 0)).1) k 7 (by first | assumption | omega | simp [fs_at, *]) (by first | assumption | omega | simp [fs_at, *])) gX8_ends_X8_part rfl (n := 2) (by decide +kernel) (by decide) rfl rfl rfl rfl (Nat.le_of_ble_eq_true rfl) dX8_ends_49 rfl rfl (by decide) rfl ?_
            refine hV_st (st' := [.int (nI b), .ref (q 0)]) (congrArg (fun z => ([Value.int z, .ref (q 0)] : List Value)) (hb2)) ?_
            refine hiconst (v := 2) X dX8_ends_52 rfl ?_
            refine hbipush (v := (-6)) X dX8_ends_53 rfl ?_
            refine hcallV0 (C := RX8) (T := TX8) (N := 14) (As := [.int (nI b), .int (nI 2), .int (-6)]) (rest := []) (st' := []) (w := mW G q (fs ((itN k enS (fs E 0 6 1, 0)).1) 0 (208 + 7 * b + 2) (-6))) X (q0 := 0) (kX8_setCrew l G q ((itN k enS (fs E 0 6 1, 0)).1) b 2 (-6) (by first | assumption | omega | simp [fs_at, *]) (by first | assumption | omega | simp [fs_at, *])) gX8_ends_X8_setCrew rfl (n := 3) (by decide +kernel) (by decide) rfl rfl rfl rfl (Nat.le_of_ble_eq_true rfl) dX8_ends_55 rfl rfl (by decide) rfl ?_
            refine haload_n X dX8_ends_58 rfl ?_
            refine hiload_n X dX8_ends_59 rfl ?_
            refine hbipush (v := 7) X dX8_ends_60 rfl ?_
            refine hbipush (v := (-6)) X dX8_ends_62 rfl ?_
            refine hcallV0 (C := RX8) (T := TX8) (N := 14) (As := [.int (nI k), .int (nI 7), .int (-6)]) (rest := []) (st' := []) (w := mW G q (fs (fs ((itN k enS (fs E 0 6 1, 0)).1) 0 (208 + 7 * b + 2) (-6)) 0 (8 + 10 * k + 7) (-6))) X (q0 := 0) (kX8_setPart l G q (fs ((itN k enS (fs E 0 6 1, 0)).1) 0 (208 + 7 * b + 2) (-6)) k 7 (-6) (by first | assumption | omega | simp [fs_at, *]) (by first | assumption | omega | simp [fs_at, *])) gX8_ends_X8_setPart rfl (n := 3) (by decide +kernel) (by decide) rfl rfl rfl rfl (Nat.le_of_ble_eq_true rfl) dX8_ends_64 rfl rfl (by decide) rfl ?_
            refine haload_n X dX8_ends_67 rfl ?_
            refine hiload_n X dX8_ends_68 rfl ?_
            refine hiconst (v := 4) X dX8_ends_69 rfl ?_
            refine hbipush (v := 6) X dX8_ends_70 rfl ?_
            refine hcallV0 (C := RX8) (T := TX8) (N := 14) (As := [.int (nI k), .int (nI 4), .int 6]) (rest := []) (st' := []) (w := mW G q (fs (fs (fs ((itN k enS (fs E 0 6 1, 0)).1) 0 (208 + 7 * b + 2) (-6)) 0 (8 + 10 * k + 7) (-6)) 0 (8 + 10 * k + 4) 6)) X (q0 := 0) (kX8_setPart l G q (fs (fs ((itN k enS (fs E 0 6 1, 0)).1) 0 (208 + 7 * b + 2) (-6)) 0 (8 + 10 * k + 7) (-6)) k 4 6 (by first | assumption | omega | simp [fs_at, *]) (by first | assumption | omega | simp [fs_at, *])) gX8_ends_X8_setPart rfl (n := 3) (by decide +kernel) (by decide) rfl rfl rfl rfl (Nat.le_of_ble_eq_true rfl) dX8_ends_72 rfl rfl (by decide) rfl ?_
            refine haload_n X dX8_ends_75 rfl ?_
            refine hiload_n X dX8_ends_76 rfl ?_
            refine hiconst (v := 5) X dX8_ends_77 rfl ?_
            refine hiconst (v := 0) X dX8_ends_78 rfl ?_
            refine hcallV0 (C := RX8) (T := TX8) (N := 14) (As := [.int (nI k), .int (nI 5), .int 0]) (rest := []) (st' := []) (w := mW G q (fs (fs (fs (fs ((itN k enS (fs E 0 6 1, 0)).1) 0 (208 + 7 * b + 2) (-6)) 0 (8 + 10 * k + 7) (-6)) 0 (8 + 10 * k + 4) 6) 0 (8 + 10 * k + 5) 0)) X (q0 := 0) (kX8_setPart l G q (fs (fs (fs ((itN k enS (fs E 0 6 1, 0)).1) 0 (208 + 7 * b + 2) (-6)) 0 (8 + 10 * k + 7) (-6)) 0 (8 + 10 * k + 4) 6) k 5 0 (by first | assumption | omega | simp [fs_at, *]) (by first | assumption | omega | simp [fs_at, *])) gX8_ends_X8_setPart rfl (n := 3) (by decide +kernel) (by decide) rfl rfl rfl rfl (Nat.le_of_ble_eq_true rfl) dX8_ends_79 rfl rfl (by decide) rfl ?_
            refine hiinc (v := (itN k enS (fs E 0 6 1, 0)).2 + 1) (lv' := [(1, .int ((itN k enS (fs E 0 6 1, 0)).2 + 1)), (2, .int (nI k)), (0, .ref (q 0))]) X dX8_ends_82 rfl rfl (by decide) rfl ?_
            refine hiinc (v := nI (k + 1)) (lv' := [(2, .int (nI (k + 1))), (1, .int ((itN k enS (fs E 0 6 1, 0)).2 + 1)), (0, .ref (q 0))]) X dX8_ends_85 rfl (nI_1 _) (by decide) rfl ?_
            refine hgoto (tgt := 12) X dX8_ends_88 (by decide) ?_
            have e8 : ((itN k enS (fs E 0 6 1, 0)).2 + 1 : Int32) = (itN (k + 1) enS (fs E 0 6 1, 0)).2 := by
              first | (simp [itN, enS, enA, c1, c2, c5]; done) | (simp [itN, enS, enA, hb2, nI_clamp (show b < 2 ^ 31 by omega), nI_ne6 (show b < 2 ^ 31 by omega), c1, c2, c5]; done)
            have w9 : (fs (fs (fs (fs ((itN k enS (fs E 0 6 1, 0)).1) 0 (208 + 7 * b + 2) (-6)) 0 (8 + 10 * k + 7) (-6)) 0 (8 + 10 * k + 4) 6) 0 (8 + 10 * k + 5) 0 : hF) = (itN (k + 1) enS (fs E 0 6 1, 0)).1 := by
              first | (simp [itN, enS, enA, c1, c2, c5]; done) | (simp [itN, enS, enA, hb2, nI_clamp (show b < 2 ^ 31 by omega), nI_ne6 (show b < 2 ^ 31 by omega), c1, c2, c5]; done)
            exact hV_to (ws' := mW G q ((itN (k + 1) enS (fs E 0 6 1, 0)).1)) (lv' := [(2, .int (nI (k + 1))), (1, .int ((itN (k + 1) enS (fs E 0 6 1, 0)).2)), (0, .ref (q 0))]) (st' := []) (congrArg (mW G q) w9) (congrArg (fun z => ([(2, .int (nI (k + 1))), (1, .int z), (0, .ref (q 0))] : List (Nat × Value))) e8) rfl (ih (k + 1) (by omega) (by omega))
  refine hiconst (v := 0) X dX8_ends_0 rfl ?_
  refine histore_n (lv' := [(1, .int 0), (0, .ref (q 0))]) X dX8_ends_1 (by decide) rfl ?_
  refine haload_n X dX8_ends_2 rfl ?_
  refine hget1 X (T := TX8) (N := 14) iX8 0 rfl rfl 0 (by decide) (by decide +kernel) rfl dX8_ends_3 ?_
  refine hbipush (v := 6) X dX8_ends_6 rfl ?_
  refine hiconst (v := 1) X dX8_ends_8 rfl ?_
  refine hiast (n := 250) (f := E 0) X 1 rfl 6 rfl (by omega) (by decide) dX8_ends_9 (ws' := mW G q (fs E 0 6 1)) (mWs0 G q _ _ _) ?_
  refine hiconst (v := 0) X dX8_ends_10 rfl ?_
  refine histore_n (lv' := [(2, .int 0), (1, .int 0), (0, .ref (q 0))]) X dX8_ends_11 (by decide) rfl ?_
  have e10 : (0 : Int32) = (itN 0 enS (fs E 0 6 1, 0)).2 := by
    rfl
  have w11 : (fs E 0 6 1 : hF) = (itN 0 enS (fs E 0 6 1, 0)).1 := by
    rfl
  exact hV_to (ws' := mW G q ((itN 0 enS (fs E 0 6 1, 0)).1)) (lv' := [(2, .int 0), (1, .int ((itN 0 enS (fs E 0 6 1, 0)).2)), (0, .ref (q 0))]) (st' := []) (congrArg (mW G q) w11) (congrArg (fun z => ([(2, .int 0), (1, .int z), (0, .ref (q 0))] : List (Nat × Value))) e10) rfl (L _ 0 (by omega) (Nat.lt_succ_self _))

set_option maxHeartbeats 4000000 in
set_option maxRecDepth 100000 in
theorem kX8_end (l : Launch) (G : hG) (q : Nat → Nat) (E : hF) (n c : Nat) (h : mOk n c E) (r : Nat) (hr : r ≤ 6) (h60 : E 6 0 = nI r) : hM l G yX8_end wsX8_end ({ frames := 3, cells := 0, slots := 0, locals := 85 }) (mW G q E) [.ref (q 0)] (hR (some (.int (endR n E r))) (mW G q (endE n E r))) := by
  refine hM_of (cc := cX8_end) (maxL := 1) (ret := (some .int)) (by decide) rfl (Nat.le_of_ble_eq_true rfl) ?_
  intro pp ee ss mm aa bb me cd X hin
  have iX8 : ∀ w ∈ wsX80, w ∈ wsX8_end := by decide +kernel
  refine haload_n X dX8_end_0 rfl ?_
  refine hget1 X (T := TX8) (N := 14) iX8 0 rfl rfl 0 (by decide) (by decide +kernel) rfl dX8_end_1 ?_
  refine hbipush (v := 6) X dX8_end_4 rfl ?_
  refine hiald (n := 250) (f := E 0) X 1 rfl 6 rfl (by omega) (by decide) dX8_end_6 ?_
  refine hiconst (v := 1) X dX8_end_7 rfl ?_
  refine hicmp_ne (tgt := 14) X dX8_end_8 (by decide) (fun c1 => ?_) (fun c1 => ?_)
  · refine haload_n X dX8_end_14 rfl ?_
    refine hcallV0 (C := RX8) (T := TX8) (N := 14) (As := []) (rest := []) (st' := []) (w := mW G q (recE E r)) X (q0 := 0) (kX8_record l G q E r (hr) (h60)) gX8_end_X8_record rfl (n := 0) (by decide +kernel) (by decide) rfl rfl rfl rfl (Nat.le_of_ble_eq_true rfl) dX8_end_15 rfl rfl (by decide) rfl ?_
    refine haload_n X dX8_end_18 rfl ?_
    refine hcallV0 (C := RX8) (T := TX8) (N := 14) (As := []) (rest := []) (st' := [.int ((ensE n (recE E r)).2)]) (w := mW G q ((ensE n (recE E r)).1)) X (q0 := 0) (kX8_ends l G q (recE E r) n c (h.of0 (recE_0 _ _))) gX8_end_X8_ends rfl (n := 0) (by decide +kernel) (by decide) rfl rfl rfl rfl (Nat.le_of_ble_eq_true rfl) dX8_end_19 rfl rfl (by decide) rfl ?_
    refine hiret X dX8_end_22 ⟨congrArg (fun z => some (Value.int z)) (?_ : ((ensE n (recE E r)).2) = endR n E r), ?_⟩
    · simp [endR, c1]
    refine congrArg (mW G q) (?_ : ((ensE n (recE E r)).1 : hF) = endE n E r)
    simp [endE, c1]
  · refine hbipush (v := (-5)) X dX8_end_11 rfl ?_
    refine hiret X dX8_end_13 ⟨congrArg (fun z => some (Value.int z)) (?_ : (-5) = endR n E r), ?_⟩
    · simp [endR, c1]
    refine congrArg (mW G q) (?_ : (E : hF) = endE n E r)
    simp [endE, c1]

set_option maxHeartbeats 4000000 in
set_option maxRecDepth 100000 in
theorem kX8_find (l : Launch) (G : hG) (q : Nat → Nat) (E : hF) (r : Nat) (hr : r ≤ 6) (h60 : E 6 0 = nI r) : hM l G yX8_find wsX8_find ({ frames := 3, cells := 0, slots := 0, locals := 85 }) (mW G q E) [.ref (q 0)] (hR (some (.int (fndR E r))) (mW G q (fndE E r))) := by
  refine hM_of (cc := cX8_find) (maxL := 1) (ret := (some .int)) (by decide) rfl (Nat.le_of_ble_eq_true rfl) ?_
  intro pp ee ss mm aa bb me cd X hin
  have iX8 : ∀ w ∈ wsX80, w ∈ wsX8_find := by decide +kernel
  refine haload_n X dX8_find_0 rfl ?_
  refine hget1 X (T := TX8) (N := 14) iX8 0 rfl rfl 0 (by decide) (by decide +kernel) rfl dX8_find_1 ?_
  refine hbipush (v := 7) X dX8_find_4 rfl ?_
  refine hiald (n := 250) (f := E 0) X 1 rfl 7 rfl (by omega) (by decide) dX8_find_6 ?_
  refine hif_ne (tgt := 13) X dX8_find_7 (by decide) (fun c1 => ?_) (fun c1 => ?_)
  · refine haload_n X dX8_find_13 rfl ?_
    refine hcallV0 (C := RX8) (T := TX8) (N := 14) (As := []) (rest := []) (st' := []) (w := mW G q (recE E r)) X (q0 := 0) (kX8_record l G q E r (hr) (h60)) gX8_find_X8_record rfl (n := 0) (by decide +kernel) (by decide) rfl rfl rfl rfl (Nat.le_of_ble_eq_true rfl) dX8_find_14 rfl rfl (by decide) rfl ?_
    refine haload_n X dX8_find_17 rfl ?_
    refine hget1 X (T := TX8) (N := 14) iX8 0 rfl rfl 0 (by decide) (by decide +kernel) rfl dX8_find_18 ?_
    refine hbipush (v := 7) X dX8_find_21 rfl ?_
    refine hdup2 X dX8_find_23 rfl rfl ?_
    refine hiald (n := 250) (f := (recE E r) 0) X 1 rfl 7 rfl (by omega) (by decide) dX8_find_24 ?_
    refine hiconst (v := 1) X dX8_find_25 rfl ?_
    refine hisub X dX8_find_26 ?_
    refine hiast (n := 250) (f := (recE E r) 0) X 1 rfl 7 rfl (by omega) (by decide) dX8_find_27 (ws' := mW G q (fs (recE E r) 0 7 (((recE E r) 0 7) - 1))) (mWs0 G q _ _ _) ?_
    refine haload_n X dX8_find_28 rfl ?_
    refine hget1 X (T := TX8) (N := 14) iX8 0 rfl rfl 0 (by decide) (by decide +kernel) rfl dX8_find_29 ?_
    refine hbipush (v := 7) X dX8_find_32 rfl ?_
    refine hiald (n := 250) (f := (fs (recE E r) 0 7 (((recE E r) 0 7) - 1)) 0) X 1 rfl 7 rfl (by omega) (by decide) dX8_find_34 ?_
    have r2 : ((fs (recE E r) 0 7 (((recE E r) 0 7) - 1)) 0 7 : Int32) = ((recE E r) 0 7) - 1 := by rw [fs_same]
    refine hV_st (st' := [.int (((recE E r) 0 7) - 1)]) (congrArg (fun z => Value.int z :: []) r2) ?_
    refine hiret X dX8_find_35 ⟨congrArg (fun z => some (Value.int z)) (?_ : (((recE E r) 0 7) - 1) = fndR E r), ?_⟩
    · simp [fndR, c1]
    refine congrArg (mW G q) (?_ : (fs (recE E r) 0 7 (((recE E r) 0 7) - 1) : hF) = fndE E r)
    simp [fndE, c1]
  · refine hbipush (v := (-5)) X dX8_find_10 rfl ?_
    refine hiret X dX8_find_12 ⟨congrArg (fun z => some (Value.int z)) (?_ : (-5) = fndR E r), ?_⟩
    · simp [fndR, c1]
    refine congrArg (mW G q) (?_ : (E : hF) = fndE E r)
    simp [fndE, c1]

set_option maxHeartbeats 4000000 in
set_option maxRecDepth 100000 in
theorem kX8_whyNotPassed (l : Launch) (G : hG) (q : Nat → Nat) (E : hF) (x : Int32) : hM l G yX8_whyNotPassed wsX8_whyNotPassed ({ frames := 2, cells := 0, slots := 0, locals := 62 }) (mW G q E) [.ref (q 0), .int x] (hR (some (.int (whpS E x))) (mW G q E)) := by
  refine hM_of (cc := cX8_whyNotPassed) (maxL := 2) (ret := (some .int)) (by decide) rfl (Nat.le_of_ble_eq_true rfl) ?_
  intro pp ee ss mm aa bb me cd X hin
  have iX8 : ∀ w ∈ wsX80, w ∈ wsX8_whyNotPassed := by decide +kernel
  refine hiload_n X dX8_whyNotPassed_0 rfl ?_
  refine hiconst (v := 1) X dX8_whyNotPassed_1 rfl ?_
  refine hbipush (v := 99) X dX8_whyNotPassed_2 rfl ?_
  refine hcallSr (wsC := []) (wsR := mW G q E) (As := [.int x, .int 1, .int 99]) (rest := []) (st' := [.int (bI (wI x 1 99))]) (w := []) X (kX8_within l G x 1 99) gX8_whyNotPassed_X8_within rfl (n := 3) (by decide +kernel) (by decide) rfl rfl (Nat.le_of_ble_eq_true rfl) dX8_whyNotPassed_4 rfl rfl (by decide) rfl ?_
  refine hif_neB (tgt := 15) X dX8_whyNotPassed_7 (by decide) (fun c1 => ?_) (fun c1 => ?_)
  · refine haload_n X dX8_whyNotPassed_15 rfl ?_
    refine hget1 X (T := TX8) (N := 14) iX8 0 rfl rfl 0 (by decide) (by decide +kernel) rfl dX8_whyNotPassed_16 ?_
    refine hiconst (v := 3) X dX8_whyNotPassed_19 rfl ?_
    refine hiald (n := 250) (f := E 0) X 1 rfl 3 rfl (by omega) (by decide) dX8_whyNotPassed_20 ?_
    refine hiload_n X dX8_whyNotPassed_21 rfl ?_
    refine hiadd X dX8_whyNotPassed_22 ?_
    refine hsipush (v := 9999) X dX8_whyNotPassed_23 rfl ?_
    refine hicmp_le (tgt := 34) X dX8_whyNotPassed_26 (by decide) (fun c2 => ?_) (fun c2 => ?_)
    · refine hiconst (v := 0) X dX8_whyNotPassed_34 rfl ?_
      refine hiret X dX8_whyNotPassed_35 ⟨congrArg (fun z => some (Value.int z)) (?_ : 0 = whpS E x), ?_⟩
      · simp [whpS, c1, c2]
      rfl
    · refine hbipush (v := (-5)) X dX8_whyNotPassed_29 rfl ?_
      refine hgoto (tgt := 35) X dX8_whyNotPassed_31 (by decide) ?_
      refine hiret X dX8_whyNotPassed_35 ⟨congrArg (fun z => some (Value.int z)) (?_ : (-5) = whpS E x), ?_⟩
      · simp [whpS, c1, c2]
      rfl
  · refine hbipush (v := (-2)) X dX8_whyNotPassed_10 rfl ?_
    refine hgoto (tgt := 35) X dX8_whyNotPassed_12 (by decide) ?_
    refine hiret X dX8_whyNotPassed_35 ⟨congrArg (fun z => some (Value.int z)) (?_ : (-2) = whpS E x), ?_⟩
    · simp [whpS, c1]
    rfl

set_option maxHeartbeats 4000000 in
set_option maxRecDepth 100000 in
theorem kX8_pass (l : Launch) (G : hG) (q : Nat → Nat) (E : hF) (n c : Nat) (h : mOk n c E) (r : Nat) (hr : r ≤ 6) (h60 : E 6 0 = nI r) (x : Int32) : hM l G yX8_pass wsX8_pass ({ frames := 8, cells := 0, slots := 0, locals := 199 }) (mW G q E) [.ref (q 0), .int x] (hR (some (.int (pasR n c E r x))) (mW G q (pasE n c E r x))) := by
  refine hM_of (cc := cX8_pass) (maxL := 3) (ret := (some .int)) (by decide) rfl (Nat.le_of_ble_eq_true rfl) ?_
  intro pp ee ss mm aa bb me cd X hin
  refine haload_n X dX8_pass_0 rfl ?_
  refine hiload_n X dX8_pass_1 rfl ?_
  refine hcallV0 (C := RX8) (T := TX8) (N := 14) (As := [.int x]) (rest := []) (st' := [.int (whpS E x)]) (w := mW G q E) X (q0 := 0) (kX8_whyNotPassed l G q E x) gX8_pass_X8_whyNotPassed rfl (n := 1) (by decide +kernel) (by decide) rfl rfl rfl rfl (Nat.le_of_ble_eq_true rfl) dX8_pass_2 rfl rfl (by decide) rfl ?_
  refine histore_n (lv' := [(2, .int (whpS E x)), (0, .ref (q 0)), (1, .int x)]) X dX8_pass_5 (by decide) rfl ?_
  refine hiload_n X dX8_pass_6 rfl ?_
  refine hif_ge (tgt := 12) X dX8_pass_7 (by decide) (fun c1 => ?_) (fun c1 => ?_)
  · obtain ⟨j, hj1, hj2, hx⟩ := whpS_n c1
    refine haload_n X dX8_pass_12 rfl ?_
    refine hcallV0 (C := RX8) (T := TX8) (N := 14) (As := []) (rest := []) (st' := []) (w := mW G q (recE E r)) X (q0 := 0) (kX8_record l G q E r (hr) (h60)) gX8_pass_X8_record rfl (n := 0) (by decide +kernel) (by decide) rfl rfl rfl rfl (Nat.le_of_ble_eq_true rfl) dX8_pass_13 rfl rfl (by decide) rfl ?_
    refine haload_n X dX8_pass_16 rfl ?_
    refine hiload_n X dX8_pass_17 rfl ?_
    refine hV_st (st' := [.int (nI j), .ref (q 0)]) (congrArg (fun z => ([Value.int z, .ref (q 0)] : List Value)) (hx)) ?_
    refine hcallV0 (C := RX8) (T := TX8) (N := 14) (As := [.int (nI j)]) (rest := []) (st' := [.int ((psE n c j (recE E r)).2)]) (w := mW G q ((psE n c j (recE E r)).1)) X (q0 := 0) (kX8_passes l G q (recE E r) n c j (h.of0 (recE_0 _ _)) (by first | assumption | omega | simp [fs_at, *])) gX8_pass_X8_passes rfl (n := 1) (by decide +kernel) (by decide) rfl rfl rfl rfl (Nat.le_of_ble_eq_true rfl) dX8_pass_18 rfl rfl (by decide) rfl ?_
    refine hiret X dX8_pass_21 ⟨congrArg (fun z => some (Value.int z)) (?_ : ((psE n c j (recE E r)).2) = pasR n c E r x), ?_⟩
    · first | (simp [pasR, c1]; done) | (subst hx; simp [pasR, nI_clamp (show j < 2 ^ 31 by omega), c1]; done)
    refine congrArg (mW G q) (?_ : ((psE n c j (recE E r)).1 : hF) = pasE n c E r x)
    first | (simp [pasE, c1]; done) | (subst hx; simp [pasE, nI_clamp (show j < 2 ^ 31 by omega), c1]; done)
  · refine hiload_n X dX8_pass_10 rfl ?_
    refine hiret X dX8_pass_11 ⟨congrArg (fun z => some (Value.int z)) (?_ : (whpS E x) = pasR n c E r x), ?_⟩
    · first | (simp [pasR, c1]; done) | (subst hx; simp [pasR, nI_clamp (show j < 2 ^ 31 by omega), c1]; done)
    refine congrArg (mW G q) (?_ : (E : hF) = pasE n c E r x)
    first | (simp [pasE, c1]; done) | (subst hx; simp [pasE, nI_clamp (show j < 2 ^ 31 by omega), c1]; done)

set_option maxHeartbeats 4000000 in
set_option maxRecDepth 100000 in
theorem kX8_leftOf (l : Launch) (G : hG) (q : Nat → Nat) (E : hF) (s : Nat) (hs : s < 20) : hM l G yX8_leftOf wsX8_leftOf ({ frames := 3, cells := 0, slots := 0, locals := 84 }) (mW G q E) [.ref (q 0), .int (nI s)] (hR (some (.int (lftE E s))) (mW G q E)) := by
  refine hM_of (cc := cX8_leftOf) (maxL := 2) (ret := (some .int)) (by decide) rfl (Nat.le_of_ble_eq_true rfl) ?_
  intro pp ee ss mm aa bb me cd X hin
  refine haload_n X dX8_leftOf_0 rfl ?_
  refine hiload_n X dX8_leftOf_1 rfl ?_
  refine hiconst (v := 4) X dX8_leftOf_2 rfl ?_
  refine hcallV0 (C := RX8) (T := TX8) (N := 14) (As := [.int (nI s), .int 4]) (rest := []) (st' := [.int (bI (E 0 (8 + 10 * s + 4) = 4))]) (w := mW G q E) X (q0 := 0) (kX8_isHow l G q E s 4 (by first | assumption | omega | simp [fs_at, *])) gX8_leftOf_X8_isHow rfl (n := 2) (by decide +kernel) (by decide) rfl rfl rfl rfl (Nat.le_of_ble_eq_true rfl) dX8_leftOf_3 rfl rfl (by decide) rfl ?_
  refine hif_neB (tgt := 19) X dX8_leftOf_6 (by decide) (fun c1 => ?_) (fun c1 => ?_)
  · refine hiconst (v := 0) X dX8_leftOf_19 rfl ?_
    refine hgoto (tgt := 29) X dX8_leftOf_20 (by decide) ?_
    refine hiret X dX8_leftOf_29 ⟨congrArg (fun z => some (Value.int z)) (?_ : 0 = lftE E s), ?_⟩
    · simp [lftE, c1]
    rfl
  · refine haload_n X dX8_leftOf_9 rfl ?_
    refine hiload_n X dX8_leftOf_10 rfl ?_
    refine hbipush (v := 6) X dX8_leftOf_11 rfl ?_
    refine hcallV0 (C := RX8) (T := TX8) (N := 14) (As := [.int (nI s), .int 6]) (rest := []) (st' := [.int (bI (E 0 (8 + 10 * s + 4) = 6))]) (w := mW G q E) X (q0 := 0) (kX8_isHow l G q E s 6 (by first | assumption | omega | simp [fs_at, *])) gX8_leftOf_X8_isHow rfl (n := 2) (by decide +kernel) (by decide) rfl rfl rfl rfl (Nat.le_of_ble_eq_true rfl) dX8_leftOf_13 rfl rfl (by decide) rfl ?_
    refine hif_eqB (tgt := 23) X dX8_leftOf_16 (by decide) (fun c2 => ?_) (fun c2 => ?_)
    · refine haload_n X dX8_leftOf_23 rfl ?_
      refine hiload_n X dX8_leftOf_24 rfl ?_
      refine hiconst (v := 5) X dX8_leftOf_25 rfl ?_
      refine hcallV0 (C := RX8) (T := TX8) (N := 14) (As := [.int (nI s), .int (nI 5)]) (rest := []) (st' := [.int (E 0 (8 + 10 * s + 5))]) (w := mW G q E) X (q0 := 0) (kX8_part l G q E s 5 (by first | assumption | omega | simp [fs_at, *]) (by first | assumption | omega | simp [fs_at, *])) gX8_leftOf_X8_part rfl (n := 2) (by decide +kernel) (by decide) rfl rfl rfl rfl (Nat.le_of_ble_eq_true rfl) dX8_leftOf_26 rfl rfl (by decide) rfl ?_
      refine hiret X dX8_leftOf_29 ⟨congrArg (fun z => some (Value.int z)) (?_ : (E 0 (8 + 10 * s + 5)) = lftE E s), ?_⟩
      · simp [lftE, c1, c2]
      rfl
    · refine hiconst (v := 0) X dX8_leftOf_19 rfl ?_
      refine hgoto (tgt := 29) X dX8_leftOf_20 (by decide) ?_
      refine hiret X dX8_leftOf_29 ⟨congrArg (fun z => some (Value.int z)) (?_ : 0 = lftE E s), ?_⟩
      · simp [lftE, c1, c2]
      rfl

set_option maxHeartbeats 4000000 in
set_option maxRecDepth 100000 in
theorem kX8_ofStand (l : Launch) (G : hG) (q : Nat → Nat) (E : hF) (n c : Nat) (h : mOk n c E) (x y : Int32) : hM l G yX8_ofStand wsX8_ofStand ({ frames := 4, cells := 0, slots := 0, locals := 107 }) (mW G q E) [.ref (q 0), .int x, .int y] (hR (some (.int (ofsE n E x y))) (mW G q E)) := by
  refine hM_of (cc := cX8_ofStand) (maxL := 3) (ret := (some .int)) (by decide) rfl (Nat.le_of_ble_eq_true rfl) ?_
  intro pp ee ss mm aa bb me cd X hin
  have hn := h.hn
  refine haload_n X dX8_ofStand_0 rfl ?_
  refine hiload_n X dX8_ofStand_1 rfl ?_
  refine hcallV0 (C := RX8) (T := TX8) (N := 14) (As := [.int x]) (rest := []) (st' := [.int (bI (wI x 0 (E 0 4 - 1)))]) (w := mW G q E) X (q0 := 0) (kX8_isStand l G q E x) gX8_ofStand_X8_isStand rfl (n := 1) (by decide +kernel) (by decide) rfl rfl rfl rfl (Nat.le_of_ble_eq_true rfl) dX8_ofStand_2 rfl rfl (by decide) rfl ?_
  refine hif_neB (tgt := 10) X dX8_ofStand_5 (by decide) (fun c1 => ?_) (fun c1 => ?_)
  · obtain ⟨j, hj, hx⟩ := wI_in (n := n) (by omega) (h.h4 ▸ c1)
    refine hiload_n X dX8_ofStand_10 rfl ?_
    rcases sw_cases y 9 (by decide) with sx2 | ⟨kk2, hk2, sx2⟩
    · refine htableOut (tgt := 83) X dX8_ofStand_11 sx2 (by decide) ?_
      have sx2_0 : ¬ (y : Int32) = 0 := fun e9 => by rw [e9] at sx2; exact absurd sx2 (by decide)
      have sx2_1 : ¬ (y : Int32) = 1 := fun e9 => by rw [e9] at sx2; exact absurd sx2 (by decide)
      have sx2_2 : ¬ (y : Int32) = 2 := fun e9 => by rw [e9] at sx2; exact absurd sx2 (by decide)
      have sx2_3 : ¬ (y : Int32) = 3 := fun e9 => by rw [e9] at sx2; exact absurd sx2 (by decide)
      have sx2_4 : ¬ (y : Int32) = 4 := fun e9 => by rw [e9] at sx2; exact absurd sx2 (by decide)
      have sx2_5 : ¬ (y : Int32) = 5 := fun e9 => by rw [e9] at sx2; exact absurd sx2 (by decide)
      have sx2_6 : ¬ (y : Int32) = 6 := fun e9 => by rw [e9] at sx2; exact absurd sx2 (by decide)
      have sx2_7 : ¬ (y : Int32) = 7 := fun e9 => by rw [e9] at sx2; exact absurd sx2 (by decide)
      have sx2_8 : ¬ (y : Int32) = 8 := fun e9 => by rw [e9] at sx2; exact absurd sx2 (by decide)
      have sx2_9 : ¬ (y : Int32) = 9 := fun e9 => by rw [e9] at sx2; exact absurd sx2 (by decide)
      refine hbipush (v := (-2)) X dX8_ofStand_83 rfl ?_
      refine hiret X dX8_ofStand_85 ⟨congrArg (fun z => some (Value.int z)) (?_ : (-2) = ofsE n E x y), ?_⟩
      · first | (simp [ofsE, ← h.h4, c1, sx2_0, sx2_1, sx2_2, sx2_3, sx2_4, sx2_5, sx2_6, sx2_7, sx2_8, sx2_9]; done) | (subst hx; simp [ofsE, ← h.h4, nI_clamp (show j < 2 ^ 31 by omega), c1, sx2_0, sx2_1, sx2_2, sx2_3, sx2_4, sx2_5, sx2_6, sx2_7, sx2_8, sx2_9]; done) | (subst hx; subst_vars; simp [ofsE, ← h.h4, nI_clamp (show j < 2 ^ 31 by omega), c1, sx2_0, sx2_1, sx2_2, sx2_3, sx2_4, sx2_5, sx2_6, sx2_7, sx2_8, sx2_9]; done)
      rfl
    · rcases (show kk2 = 0 ∨ kk2 = 1 ∨ kk2 = 2 ∨ kk2 = 3 ∨ kk2 = 4 ∨ kk2 = 5 ∨ kk2 = 6 ∨ kk2 = 7 ∨ kk2 = 8 ∨ kk2 = 9 by omega) with rfl | rfl | rfl | rfl | rfl | rfl | rfl | rfl | rfl | rfl
      · refine htableIn (off := 53) (tgt := 64) X dX8_ofStand_11 (by rw [sx2]; decide) (by rw [sx2]; decide) (by rw [sx2]; decide) (by decide) ?_
        have sx2 : (y : Int32) = 0 := sx2
        refine hV_to (lv' := [(0, .ref (q 0)), (1, .int x), (2, .int 0)]) rfl (congrArg (fun z => ([(0, .ref (q 0)), (1, .int x), (2, .int z)] : List (Nat × Value))) sx2) rfl ?_
        refine haload_n X dX8_ofStand_64 rfl ?_
        refine hiload_n X dX8_ofStand_65 rfl ?_
        refine hiload_n X dX8_ofStand_66 rfl ?_
        refine hV_st (st' := [.int 0, .int (nI j), .ref (q 0)]) (congrArg (fun z => ([.int 0, Value.int z, .ref (q 0)] : List Value)) (hx)) ?_
        refine hcallV0 (C := RX8) (T := TX8) (N := 14) (As := [.int (nI j), .int (nI 0)]) (rest := []) (st' := [.int (E 0 (8 + 10 * j + 0))]) (w := mW G q E) X (q0 := 0) (kX8_part l G q E j 0 (by first | assumption | omega | exact h.h4) (by first | assumption | omega | exact h.h4)) gX8_ofStand_X8_part rfl (n := 2) (by decide +kernel) (by decide) rfl rfl rfl rfl (Nat.le_of_ble_eq_true rfl) dX8_ofStand_67 rfl rfl (by decide) rfl ?_
        refine hiret X dX8_ofStand_70 ⟨congrArg (fun z => some (Value.int z)) (?_ : (E 0 (8 + 10 * j + 0)) = ofsE n E x y), ?_⟩
        · first | (simp [ofsE, ← h.h4, c1, sx2]; done) | (subst hx; simp [ofsE, ← h.h4, nI_clamp (show j < 2 ^ 31 by omega), c1, sx2]; done) | (subst hx; subst_vars; simp [ofsE, ← h.h4, nI_clamp (show j < 2 ^ 31 by omega), c1, sx2]; done)
        rfl
      · refine htableIn (off := 53) (tgt := 64) X dX8_ofStand_11 (by rw [sx2]; decide) (by rw [sx2]; decide) (by rw [sx2]; decide) (by decide) ?_
        have sx2 : (y : Int32) = 1 := sx2
        refine hV_to (lv' := [(0, .ref (q 0)), (1, .int x), (2, .int 1)]) rfl (congrArg (fun z => ([(0, .ref (q 0)), (1, .int x), (2, .int z)] : List (Nat × Value))) sx2) rfl ?_
        refine haload_n X dX8_ofStand_64 rfl ?_
        refine hiload_n X dX8_ofStand_65 rfl ?_
        refine hiload_n X dX8_ofStand_66 rfl ?_
        refine hV_st (st' := [.int 1, .int (nI j), .ref (q 0)]) (congrArg (fun z => ([.int 1, Value.int z, .ref (q 0)] : List Value)) (hx)) ?_
        refine hcallV0 (C := RX8) (T := TX8) (N := 14) (As := [.int (nI j), .int (nI 1)]) (rest := []) (st' := [.int (E 0 (8 + 10 * j + 1))]) (w := mW G q E) X (q0 := 0) (kX8_part l G q E j 1 (by first | assumption | omega | exact h.h4) (by first | assumption | omega | exact h.h4)) gX8_ofStand_X8_part rfl (n := 2) (by decide +kernel) (by decide) rfl rfl rfl rfl (Nat.le_of_ble_eq_true rfl) dX8_ofStand_67 rfl rfl (by decide) rfl ?_
        refine hiret X dX8_ofStand_70 ⟨congrArg (fun z => some (Value.int z)) (?_ : (E 0 (8 + 10 * j + 1)) = ofsE n E x y), ?_⟩
        · first | (simp [ofsE, ← h.h4, c1, sx2]; done) | (subst hx; simp [ofsE, ← h.h4, nI_clamp (show j < 2 ^ 31 by omega), c1, sx2]; done) | (subst hx; subst_vars; simp [ofsE, ← h.h4, nI_clamp (show j < 2 ^ 31 by omega), c1, sx2]; done)
        rfl
      · refine htableIn (off := 53) (tgt := 64) X dX8_ofStand_11 (by rw [sx2]; decide) (by rw [sx2]; decide) (by rw [sx2]; decide) (by decide) ?_
        have sx2 : (y : Int32) = 2 := sx2
        refine hV_to (lv' := [(0, .ref (q 0)), (1, .int x), (2, .int 2)]) rfl (congrArg (fun z => ([(0, .ref (q 0)), (1, .int x), (2, .int z)] : List (Nat × Value))) sx2) rfl ?_
        refine haload_n X dX8_ofStand_64 rfl ?_
        refine hiload_n X dX8_ofStand_65 rfl ?_
        refine hiload_n X dX8_ofStand_66 rfl ?_
        refine hV_st (st' := [.int 2, .int (nI j), .ref (q 0)]) (congrArg (fun z => ([.int 2, Value.int z, .ref (q 0)] : List Value)) (hx)) ?_
        refine hcallV0 (C := RX8) (T := TX8) (N := 14) (As := [.int (nI j), .int (nI 2)]) (rest := []) (st' := [.int (E 0 (8 + 10 * j + 2))]) (w := mW G q E) X (q0 := 0) (kX8_part l G q E j 2 (by first | assumption | omega | exact h.h4) (by first | assumption | omega | exact h.h4)) gX8_ofStand_X8_part rfl (n := 2) (by decide +kernel) (by decide) rfl rfl rfl rfl (Nat.le_of_ble_eq_true rfl) dX8_ofStand_67 rfl rfl (by decide) rfl ?_
        refine hiret X dX8_ofStand_70 ⟨congrArg (fun z => some (Value.int z)) (?_ : (E 0 (8 + 10 * j + 2)) = ofsE n E x y), ?_⟩
        · first | (simp [ofsE, ← h.h4, c1, sx2]; done) | (subst hx; simp [ofsE, ← h.h4, nI_clamp (show j < 2 ^ 31 by omega), c1, sx2]; done) | (subst hx; subst_vars; simp [ofsE, ← h.h4, nI_clamp (show j < 2 ^ 31 by omega), c1, sx2]; done)
        rfl
      · refine htableIn (off := 53) (tgt := 64) X dX8_ofStand_11 (by rw [sx2]; decide) (by rw [sx2]; decide) (by rw [sx2]; decide) (by decide) ?_
        have sx2 : (y : Int32) = 3 := sx2
        refine hV_to (lv' := [(0, .ref (q 0)), (1, .int x), (2, .int 3)]) rfl (congrArg (fun z => ([(0, .ref (q 0)), (1, .int x), (2, .int z)] : List (Nat × Value))) sx2) rfl ?_
        refine haload_n X dX8_ofStand_64 rfl ?_
        refine hiload_n X dX8_ofStand_65 rfl ?_
        refine hiload_n X dX8_ofStand_66 rfl ?_
        refine hV_st (st' := [.int 3, .int (nI j), .ref (q 0)]) (congrArg (fun z => ([.int 3, Value.int z, .ref (q 0)] : List Value)) (hx)) ?_
        refine hcallV0 (C := RX8) (T := TX8) (N := 14) (As := [.int (nI j), .int (nI 3)]) (rest := []) (st' := [.int (E 0 (8 + 10 * j + 3))]) (w := mW G q E) X (q0 := 0) (kX8_part l G q E j 3 (by first | assumption | omega | exact h.h4) (by first | assumption | omega | exact h.h4)) gX8_ofStand_X8_part rfl (n := 2) (by decide +kernel) (by decide) rfl rfl rfl rfl (Nat.le_of_ble_eq_true rfl) dX8_ofStand_67 rfl rfl (by decide) rfl ?_
        refine hiret X dX8_ofStand_70 ⟨congrArg (fun z => some (Value.int z)) (?_ : (E 0 (8 + 10 * j + 3)) = ofsE n E x y), ?_⟩
        · first | (simp [ofsE, ← h.h4, c1, sx2]; done) | (subst hx; simp [ofsE, ← h.h4, nI_clamp (show j < 2 ^ 31 by omega), c1, sx2]; done) | (subst hx; subst_vars; simp [ofsE, ← h.h4, nI_clamp (show j < 2 ^ 31 by omega), c1, sx2]; done)
        rfl
      · refine htableIn (off := 53) (tgt := 64) X dX8_ofStand_11 (by rw [sx2]; decide) (by rw [sx2]; decide) (by rw [sx2]; decide) (by decide) ?_
        have sx2 : (y : Int32) = 4 := sx2
        refine hV_to (lv' := [(0, .ref (q 0)), (1, .int x), (2, .int 4)]) rfl (congrArg (fun z => ([(0, .ref (q 0)), (1, .int x), (2, .int z)] : List (Nat × Value))) sx2) rfl ?_
        refine haload_n X dX8_ofStand_64 rfl ?_
        refine hiload_n X dX8_ofStand_65 rfl ?_
        refine hiload_n X dX8_ofStand_66 rfl ?_
        refine hV_st (st' := [.int 4, .int (nI j), .ref (q 0)]) (congrArg (fun z => ([.int 4, Value.int z, .ref (q 0)] : List Value)) (hx)) ?_
        refine hcallV0 (C := RX8) (T := TX8) (N := 14) (As := [.int (nI j), .int (nI 4)]) (rest := []) (st' := [.int (E 0 (8 + 10 * j + 4))]) (w := mW G q E) X (q0 := 0) (kX8_part l G q E j 4 (by first | assumption | omega | exact h.h4) (by first | assumption | omega | exact h.h4)) gX8_ofStand_X8_part rfl (n := 2) (by decide +kernel) (by decide) rfl rfl rfl rfl (Nat.le_of_ble_eq_true rfl) dX8_ofStand_67 rfl rfl (by decide) rfl ?_
        refine hiret X dX8_ofStand_70 ⟨congrArg (fun z => some (Value.int z)) (?_ : (E 0 (8 + 10 * j + 4)) = ofsE n E x y), ?_⟩
        · first | (simp [ofsE, ← h.h4, c1, sx2]; done) | (subst hx; simp [ofsE, ← h.h4, nI_clamp (show j < 2 ^ 31 by omega), c1, sx2]; done) | (subst hx; subst_vars; simp [ofsE, ← h.h4, nI_clamp (show j < 2 ^ 31 by omega), c1, sx2]; done)
        rfl
      · refine htableIn (off := 60) (tgt := 71) X dX8_ofStand_11 (by rw [sx2]; decide) (by rw [sx2]; decide) (by rw [sx2]; decide) (by decide) ?_
        have sx2 : (y : Int32) = 5 := sx2
        refine hV_to (lv' := [(0, .ref (q 0)), (1, .int x), (2, .int 5)]) rfl (congrArg (fun z => ([(0, .ref (q 0)), (1, .int x), (2, .int z)] : List (Nat × Value))) sx2) rfl ?_
        refine haload_n X dX8_ofStand_71 rfl ?_
        refine hiload_n X dX8_ofStand_72 rfl ?_
        refine hV_st (st' := [.int (nI j), .ref (q 0)]) (congrArg (fun z => ([Value.int z, .ref (q 0)] : List Value)) (hx)) ?_
        refine hcallV0 (C := RX8) (T := TX8) (N := 14) (As := [.int (nI j)]) (rest := []) (st' := [.int (lftE E j)]) (w := mW G q E) X (q0 := 0) (kX8_leftOf l G q E j (by first | assumption | omega | exact h.h4)) gX8_ofStand_X8_leftOf rfl (n := 1) (by decide +kernel) (by decide) rfl rfl rfl rfl (Nat.le_of_ble_eq_true rfl) dX8_ofStand_73 rfl rfl (by decide) rfl ?_
        refine hiret X dX8_ofStand_76 ⟨congrArg (fun z => some (Value.int z)) (?_ : (lftE E j) = ofsE n E x y), ?_⟩
        · first | (simp [ofsE, ← h.h4, c1, sx2]; done) | (subst hx; simp [ofsE, ← h.h4, nI_clamp (show j < 2 ^ 31 by omega), c1, sx2]; done) | (subst hx; subst_vars; simp [ofsE, ← h.h4, nI_clamp (show j < 2 ^ 31 by omega), c1, sx2]; done)
        rfl
      · refine htableIn (off := 53) (tgt := 64) X dX8_ofStand_11 (by rw [sx2]; decide) (by rw [sx2]; decide) (by rw [sx2]; decide) (by decide) ?_
        have sx2 : (y : Int32) = 6 := sx2
        refine hV_to (lv' := [(0, .ref (q 0)), (1, .int x), (2, .int 6)]) rfl (congrArg (fun z => ([(0, .ref (q 0)), (1, .int x), (2, .int z)] : List (Nat × Value))) sx2) rfl ?_
        refine haload_n X dX8_ofStand_64 rfl ?_
        refine hiload_n X dX8_ofStand_65 rfl ?_
        refine hiload_n X dX8_ofStand_66 rfl ?_
        refine hV_st (st' := [.int 6, .int (nI j), .ref (q 0)]) (congrArg (fun z => ([.int 6, Value.int z, .ref (q 0)] : List Value)) (hx)) ?_
        refine hcallV0 (C := RX8) (T := TX8) (N := 14) (As := [.int (nI j), .int (nI 6)]) (rest := []) (st' := [.int (E 0 (8 + 10 * j + 6))]) (w := mW G q E) X (q0 := 0) (kX8_part l G q E j 6 (by first | assumption | omega | exact h.h4) (by first | assumption | omega | exact h.h4)) gX8_ofStand_X8_part rfl (n := 2) (by decide +kernel) (by decide) rfl rfl rfl rfl (Nat.le_of_ble_eq_true rfl) dX8_ofStand_67 rfl rfl (by decide) rfl ?_
        refine hiret X dX8_ofStand_70 ⟨congrArg (fun z => some (Value.int z)) (?_ : (E 0 (8 + 10 * j + 6)) = ofsE n E x y), ?_⟩
        · first | (simp [ofsE, ← h.h4, c1, sx2]; done) | (subst hx; simp [ofsE, ← h.h4, nI_clamp (show j < 2 ^ 31 by omega), c1, sx2]; done) | (subst hx; subst_vars; simp [ofsE, ← h.h4, nI_clamp (show j < 2 ^ 31 by omega), c1, sx2]; done)
        rfl
      · refine htableIn (off := 53) (tgt := 64) X dX8_ofStand_11 (by rw [sx2]; decide) (by rw [sx2]; decide) (by rw [sx2]; decide) (by decide) ?_
        have sx2 : (y : Int32) = 7 := sx2
        refine hV_to (lv' := [(0, .ref (q 0)), (1, .int x), (2, .int 7)]) rfl (congrArg (fun z => ([(0, .ref (q 0)), (1, .int x), (2, .int z)] : List (Nat × Value))) sx2) rfl ?_
        refine haload_n X dX8_ofStand_64 rfl ?_
        refine hiload_n X dX8_ofStand_65 rfl ?_
        refine hiload_n X dX8_ofStand_66 rfl ?_
        refine hV_st (st' := [.int 7, .int (nI j), .ref (q 0)]) (congrArg (fun z => ([.int 7, Value.int z, .ref (q 0)] : List Value)) (hx)) ?_
        refine hcallV0 (C := RX8) (T := TX8) (N := 14) (As := [.int (nI j), .int (nI 7)]) (rest := []) (st' := [.int (E 0 (8 + 10 * j + 7))]) (w := mW G q E) X (q0 := 0) (kX8_part l G q E j 7 (by first | assumption | omega | exact h.h4) (by first | assumption | omega | exact h.h4)) gX8_ofStand_X8_part rfl (n := 2) (by decide +kernel) (by decide) rfl rfl rfl rfl (Nat.le_of_ble_eq_true rfl) dX8_ofStand_67 rfl rfl (by decide) rfl ?_
        refine hiret X dX8_ofStand_70 ⟨congrArg (fun z => some (Value.int z)) (?_ : (E 0 (8 + 10 * j + 7)) = ofsE n E x y), ?_⟩
        · first | (simp [ofsE, ← h.h4, c1, sx2]; done) | (subst hx; simp [ofsE, ← h.h4, nI_clamp (show j < 2 ^ 31 by omega), c1, sx2]; done) | (subst hx; subst_vars; simp [ofsE, ← h.h4, nI_clamp (show j < 2 ^ 31 by omega), c1, sx2]; done)
        rfl
      · refine htableIn (off := 66) (tgt := 77) X dX8_ofStand_11 (by rw [sx2]; decide) (by rw [sx2]; decide) (by rw [sx2]; decide) (by decide) ?_
        have sx2 : (y : Int32) = 8 := sx2
        refine hV_to (lv' := [(0, .ref (q 0)), (1, .int x), (2, .int 8)]) rfl (congrArg (fun z => ([(0, .ref (q 0)), (1, .int x), (2, .int z)] : List (Nat × Value))) sx2) rfl ?_
        refine haload_n X dX8_ofStand_77 rfl ?_
        refine hiload_n X dX8_ofStand_78 rfl ?_
        refine hcallV0 (C := RX8) (T := TX8) (N := 14) (As := [.int x]) (rest := []) (st' := [.int (stoE n E x)]) (w := mW G q E) X (q0 := 0) (kX8_standingOn l G q E n x (by first | assumption | omega | exact h.h4) (by first | assumption | omega | exact h.h4)) gX8_ofStand_X8_standingOn rfl (n := 1) (by decide +kernel) (by decide) rfl rfl rfl rfl (Nat.le_of_ble_eq_true rfl) dX8_ofStand_79 rfl rfl (by decide) rfl ?_
        refine hiret X dX8_ofStand_82 ⟨congrArg (fun z => some (Value.int z)) (?_ : (stoE n E x) = ofsE n E x y), ?_⟩
        · first | (simp [ofsE, ← h.h4, c1, sx2]; done) | (subst hx; simp [ofsE, ← h.h4, nI_clamp (show j < 2 ^ 31 by omega), c1, sx2]; done) | (subst hx; subst_vars; simp [ofsE, ← h.h4, nI_clamp (show j < 2 ^ 31 by omega), c1, sx2]; done)
        rfl
      · refine htableIn (off := 53) (tgt := 64) X dX8_ofStand_11 (by rw [sx2]; decide) (by rw [sx2]; decide) (by rw [sx2]; decide) (by decide) ?_
        have sx2 : (y : Int32) = 9 := sx2
        refine hV_to (lv' := [(0, .ref (q 0)), (1, .int x), (2, .int 9)]) rfl (congrArg (fun z => ([(0, .ref (q 0)), (1, .int x), (2, .int z)] : List (Nat × Value))) sx2) rfl ?_
        refine haload_n X dX8_ofStand_64 rfl ?_
        refine hiload_n X dX8_ofStand_65 rfl ?_
        refine hiload_n X dX8_ofStand_66 rfl ?_
        refine hV_st (st' := [.int 9, .int (nI j), .ref (q 0)]) (congrArg (fun z => ([.int 9, Value.int z, .ref (q 0)] : List Value)) (hx)) ?_
        refine hcallV0 (C := RX8) (T := TX8) (N := 14) (As := [.int (nI j), .int (nI 9)]) (rest := []) (st' := [.int (E 0 (8 + 10 * j + 9))]) (w := mW G q E) X (q0 := 0) (kX8_part l G q E j 9 (by first | assumption | omega | exact h.h4) (by first | assumption | omega | exact h.h4)) gX8_ofStand_X8_part rfl (n := 2) (by decide +kernel) (by decide) rfl rfl rfl rfl (Nat.le_of_ble_eq_true rfl) dX8_ofStand_67 rfl rfl (by decide) rfl ?_
        refine hiret X dX8_ofStand_70 ⟨congrArg (fun z => some (Value.int z)) (?_ : (E 0 (8 + 10 * j + 9)) = ofsE n E x y), ?_⟩
        · first | (simp [ofsE, ← h.h4, c1, sx2]; done) | (subst hx; simp [ofsE, ← h.h4, nI_clamp (show j < 2 ^ 31 by omega), c1, sx2]; done) | (subst hx; subst_vars; simp [ofsE, ← h.h4, nI_clamp (show j < 2 ^ 31 by omega), c1, sx2]; done)
        rfl
  · refine hiconst (v := (-1)) X dX8_ofStand_8 rfl ?_
    refine hiret X dX8_ofStand_9 ⟨congrArg (fun z => some (Value.int z)) (?_ : (-1) = ofsE n E x y), ?_⟩
    · first | (simp [ofsE, ← h.h4, c1]; done) | (subst hx; simp [ofsE, ← h.h4, nI_clamp (show j < 2 ^ 31 by omega), c1]; done) | (subst hx; subst_vars; simp [ofsE, ← h.h4, nI_clamp (show j < 2 ^ 31 by omega), c1]; done)
    rfl

set_option maxHeartbeats 4000000 in
set_option maxRecDepth 100000 in
theorem kX8_ofCrew (l : Launch) (G : hG) (q : Nat → Nat) (E : hF) (n c : Nat) (h : mOk n c E) (x y : Int32) : hM l G yX8_ofCrew wsX8_ofCrew ({ frames := 3, cells := 0, slots := 0, locals := 83 }) (mW G q E) [.ref (q 0), .int x, .int y] (hR (some (.int (ofcE c E x y))) (mW G q E)) := by
  refine hM_of (cc := cX8_ofCrew) (maxL := 3) (ret := (some .int)) (by decide) rfl (Nat.le_of_ble_eq_true rfl) ?_
  intro pp ee ss mm aa bb me cd X hin
  have hc := h.hc
  refine haload_n X dX8_ofCrew_0 rfl ?_
  refine hiload_n X dX8_ofCrew_1 rfl ?_
  refine hcallV0 (C := RX8) (T := TX8) (N := 14) (As := [.int x]) (rest := []) (st' := [.int (bI (wI x 0 (E 0 5 - 1)))]) (w := mW G q E) X (q0 := 0) (kX8_isCrew l G q E x) gX8_ofCrew_X8_isCrew rfl (n := 1) (by decide +kernel) (by decide) rfl rfl rfl rfl (Nat.le_of_ble_eq_true rfl) dX8_ofCrew_2 rfl rfl (by decide) rfl ?_
  refine hif_neB (tgt := 10) X dX8_ofCrew_5 (by decide) (fun c1 => ?_) (fun c1 => ?_)
  · obtain ⟨j, hj, hx⟩ := wI_in (n := c) (by omega) (h.h5 ▸ c1)
    refine hiload_n X dX8_ofCrew_10 rfl ?_
    refine hiconst (v := 0) X dX8_ofCrew_11 rfl ?_
    refine hbipush (v := 6) X dX8_ofCrew_12 rfl ?_
    refine hcallSr (wsC := []) (wsR := mW G q E) (As := [.int y, .int 0, .int 6]) (rest := []) (st' := [.int (bI (wI y 0 6))]) (w := []) X (kX8_within l G y 0 6) gX8_ofCrew_X8_within rfl (n := 3) (by decide +kernel) (by decide) rfl rfl (Nat.le_of_ble_eq_true rfl) dX8_ofCrew_14 rfl rfl (by decide) rfl ?_
    refine hif_eqB (tgt := 29) X dX8_ofCrew_17 (by decide) (fun c2 => ?_) (fun c2 => ?_)
    · refine hbipush (v := (-2)) X dX8_ofCrew_29 rfl ?_
      refine hiret X dX8_ofCrew_31 ⟨congrArg (fun z => some (Value.int z)) (?_ : (-2) = ofcE c E x y), ?_⟩
      · first | (simp [ofcE, ← h.h5, c1, c2]; done) | (subst hx; simp [ofcE, ← h.h5, nI_clamp (show j < 2 ^ 31 by omega), c1, c2]; done) | (subst hx; subst hy; simp [ofcE, ← h.h5, nI_clamp (show j < 2 ^ 31 by omega), nI_clamp (show j2 < 2 ^ 31 by omega), c1, c2]; done) | (subst hx; subst hy; simp only [ofcE, ← h.h5, nI_clamp (show j < 2 ^ 31 by omega), nI_clamp (show j2 < 2 ^ 31 by omega)]; rw [if_pos c1, if_pos c2])
      rfl
    · obtain ⟨j2, hj2, hj3, hy⟩ := wI_lit (a := 0) (b := 6) (by decide) (by decide) c2
      refine haload_n X dX8_ofCrew_20 rfl ?_
      refine hiload_n X dX8_ofCrew_21 rfl ?_
      refine hiload_n X dX8_ofCrew_22 rfl ?_
      refine hV_st (st' := [.int y, .int (nI j), .ref (q 0)]) (congrArg (fun z => ([.int y, Value.int z, .ref (q 0)] : List Value)) (hx)) ?_
      refine hV_st (st' := [.int (nI j2), .int (nI j), .ref (q 0)]) (congrArg (fun z => ([Value.int z, .int (nI j), .ref (q 0)] : List Value)) (hy)) ?_
      refine hcallV0 (C := RX8) (T := TX8) (N := 14) (As := [.int (nI j), .int (nI j2)]) (rest := []) (st' := [.int (E 0 (208 + 7 * j + j2))]) (w := mW G q E) X (q0 := 0) (kX8_ofCrewPart l G q E j j2 (by first | assumption | omega | simp [fs_at, *]) (by first | assumption | omega | simp [fs_at, *])) gX8_ofCrew_X8_ofCrewPart rfl (n := 2) (by decide +kernel) (by decide) rfl rfl rfl rfl (Nat.le_of_ble_eq_true rfl) dX8_ofCrew_23 rfl rfl (by decide) rfl ?_
      refine hgoto (tgt := 31) X dX8_ofCrew_26 (by decide) ?_
      refine hiret X dX8_ofCrew_31 ⟨congrArg (fun z => some (Value.int z)) (?_ : (E 0 (208 + 7 * j + j2)) = ofcE c E x y), ?_⟩
      · first | (simp [ofcE, ← h.h5, c1, c2]; done) | (subst hx; simp [ofcE, ← h.h5, nI_clamp (show j < 2 ^ 31 by omega), c1, c2]; done) | (subst hx; subst hy; simp [ofcE, ← h.h5, nI_clamp (show j < 2 ^ 31 by omega), nI_clamp (show j2 < 2 ^ 31 by omega), c1, c2]; done) | (subst hx; subst hy; simp only [ofcE, ← h.h5, nI_clamp (show j < 2 ^ 31 by omega), nI_clamp (show j2 < 2 ^ 31 by omega)]; rw [if_pos c1, if_pos c2])
      rfl
  · refine hiconst (v := (-1)) X dX8_ofCrew_8 rfl ?_
    refine hiret X dX8_ofCrew_9 ⟨congrArg (fun z => some (Value.int z)) (?_ : (-1) = ofcE c E x y), ?_⟩
    · first | (simp [ofcE, ← h.h5, c1]; done) | (subst hx; simp [ofcE, ← h.h5, nI_clamp (show j < 2 ^ 31 by omega), c1]; done) | (subst hx; subst hy; simp [ofcE, ← h.h5, nI_clamp (show j < 2 ^ 31 by omega), nI_clamp (show j2 < 2 ^ 31 by omega), c1]; done) | (subst hx; subst hy; simp only [ofcE, ← h.h5, nI_clamp (show j < 2 ^ 31 by omega), nI_clamp (show j2 < 2 ^ 31 by omega)]; rw [if_pos c1, if_pos c2])
    rfl

set_option maxHeartbeats 4000000 in
set_option maxRecDepth 100000 in
theorem kX8_load (l : Launch) (G : hG) (q : Nat → Nat) (E : hF) (n c : Nat) (h : mOk n c E) (x : Int32) : hM l G yX8_load wsX8_load ({ frames := 3, cells := 0, slots := 0, locals := 85 }) (mW G q E) [.ref (q 0), .int x] (hR (some (.int (lodE n E x))) (mW G q E)) := by
  refine hM_of (cc := cX8_load) (maxL := 2) (ret := (some .int)) (by decide) rfl (Nat.le_of_ble_eq_true rfl) ?_
  intro pp ee ss mm aa bb me cd X hin
  refine hiload_n X dX8_load_0 rfl ?_
  refine hiconst (v := 0) X dX8_load_1 rfl ?_
  refine hiconst (v := 2) X dX8_load_2 rfl ?_
  refine hcallSr (wsC := []) (wsR := mW G q E) (As := [.int x, .int 0, .int 2]) (rest := []) (st' := [.int (bI (wI x 0 2))]) (w := []) X (kX8_within l G x 0 2) gX8_load_X8_within rfl (n := 3) (by decide +kernel) (by decide) rfl rfl (Nat.le_of_ble_eq_true rfl) dX8_load_3 rfl rfl (by decide) rfl ?_
  refine hif_eqB (tgt := 17) X dX8_load_6 (by decide) (fun c1 => ?_) (fun c1 => ?_)
  · refine hiconst (v := (-1)) X dX8_load_17 rfl ?_
    refine hiret X dX8_load_18 ⟨congrArg (fun z => some (Value.int z)) (?_ : (-1) = lodE n E x), ?_⟩
    · simp [lodE, c1]
    rfl
  · refine haload_n X dX8_load_9 rfl ?_
    refine hiload_n X dX8_load_10 rfl ?_
    refine hcallV0 (C := RX8) (T := TX8) (N := 14) (As := [.int x]) (rest := []) (st' := [.int (loaE n E x)]) (w := mW G q E) X (q0 := 0) (kX8_loadOf l G q E n x (by first | exact h.hn | exact h.h4 | skip) (by first | exact h.hn | exact h.h4 | skip)) gX8_load_X8_loadOf rfl (n := 1) (by decide +kernel) (by decide) rfl rfl rfl rfl (Nat.le_of_ble_eq_true rfl) dX8_load_11 rfl rfl (by decide) rfl ?_
    refine hgoto (tgt := 18) X dX8_load_14 (by decide) ?_
    refine hiret X dX8_load_18 ⟨congrArg (fun z => some (Value.int z)) (?_ : (loaE n E x) = lodE n E x), ?_⟩
    · simp [lodE, c1]
    rfl

set_option maxHeartbeats 4000000 in
set_option maxRecDepth 100000 in
theorem kX8_allCosts (l : Launch) (G : hG) (q : Nat → Nat) (E : hF) (n c : Nat) (h : mOk n c E) : hM l G yX8_allCosts wsX8_allCosts ({ frames := 2, cells := 0, slots := 0, locals := 62 }) (mW G q E) [.ref (q 0)] (hR (some (.int (cosE c E))) (mW G q E)) := by
  refine hM_of (cc := cX8_allCosts) (maxL := 3) (ret := (some .int)) (by decide) rfl (Nat.le_of_ble_eq_true rfl) ?_
  intro pp ee ss mm aa bb me cd X hin
  have iX8 : ∀ w ∈ wsX80, w ∈ wsX8_allCosts := by decide +kernel
  have hc := h.hc
  have L : ∀ (d : Nat) (k : Nat), (k ≤ c) → (c - k) < d → hV pp l ee ({ frames := 2, cells := 0, slots := 0, locals := 62 }) ss mm aa bb me cd G (va_A (mW G q E) ss.heap.size) 3 0 0 (MQ bb (hQc G (mW G q E) ss.heap.size (hR (some (.int (cosE c E))) (mW G q E))) aa ss 0 0 (va_A (mW G q E) ss.heap.size)) (mW G q E) 4 [(2, .int (nI k)), (1, .int (sumN k (fun k => E 0 (208 + 7 * k + 4)))), (0, .ref (q 0))] [] := by
    intro d
    induction d with
    | zero =>
      intro k hk hd0
      exact absurd hd0 (Nat.not_lt_zero _)
    | succ d ih =>
      intro k hk hd0
      refine hiload_n X dX8_allCosts_4 rfl ?_
      refine haload_n X dX8_allCosts_5 rfl ?_
      refine hget1 X (T := TX8) (N := 14) iX8 0 rfl rfl 0 (by decide) (by decide +kernel) rfl dX8_allCosts_6 ?_
      refine hiconst (v := 5) X dX8_allCosts_9 rfl ?_
      refine hiald (n := 250) (f := E 0) X 1 rfl 5 rfl (by omega) (by decide) dX8_allCosts_10 ?_
      refine hV_st (st' := [.int (nI c), .int (nI k)]) (congrArg (fun z => Value.int z :: [.int (nI k)]) (h.h5)) ?_
      refine hicmp_ge (tgt := 29) X dX8_allCosts_11 (by decide) (fun c1 => ?_) (fun c1 => ?_)
      · have ek := i_ge hk (by omega) c1
        refine hiload_n X dX8_allCosts_29 rfl ?_
        refine hiret X dX8_allCosts_30 ⟨congrArg (fun z => some (Value.int z)) (?_ : (sumN k (fun k => E 0 (208 + 7 * k + 4))) = cosE c E), ?_⟩
        · simp [cosE, ek]
        rfl
      · have hk1 := i_lt hk (by omega) c1
        refine hiload_n X dX8_allCosts_14 rfl ?_
        refine haload_n X dX8_allCosts_15 rfl ?_
        refine hiload_n X dX8_allCosts_16 rfl ?_
        refine hiconst (v := 4) X dX8_allCosts_17 rfl ?_
        refine hcallV0 (C := RX8) (T := TX8) (N := 14) (As := [.int (nI k), .int (nI 4)]) (rest := [.int (sumN k (fun k => E 0 (208 + 7 * k + 4)))]) (st' := [.int (E 0 (208 + 7 * k + 4)), .int (sumN k (fun k => E 0 (208 + 7 * k + 4)))]) (w := mW G q E) X (q0 := 0) (kX8_ofCrewPart l G q E k 4 (by first | assumption | omega | simp [fs_at, *]) (by first | assumption | omega | simp [fs_at, *])) gX8_allCosts_X8_ofCrewPart rfl (n := 2) (by decide +kernel) (by decide) rfl rfl rfl rfl (Nat.le_of_ble_eq_true rfl) dX8_allCosts_18 rfl rfl (by decide) rfl ?_
        refine hiadd X dX8_allCosts_21 ?_
        refine histore_n (lv' := [(1, .int ((sumN k (fun k => E 0 (208 + 7 * k + 4))) + (E 0 (208 + 7 * k + 4)))), (2, .int (nI k)), (0, .ref (q 0))]) X dX8_allCosts_22 (by decide) rfl ?_
        refine hiinc (v := nI (k + 1)) (lv' := [(2, .int (nI (k + 1))), (1, .int ((sumN k (fun k => E 0 (208 + 7 * k + 4))) + (E 0 (208 + 7 * k + 4)))), (0, .ref (q 0))]) X dX8_allCosts_23 rfl (nI_1 _) (by decide) rfl ?_
        refine hgoto (tgt := 4) X dX8_allCosts_26 (by decide) ?_
        have e2 : ((sumN k (fun k => E 0 (208 + 7 * k + 4))) + (E 0 (208 + 7 * k + 4)) : Int32) = sumN (k + 1) (fun k => E 0 (208 + 7 * k + 4)) := by
          simp [sumN, c1]
        exact hV_to (ws' := mW G q E) (lv' := [(2, .int (nI (k + 1))), (1, .int (sumN (k + 1) (fun k => E 0 (208 + 7 * k + 4)))), (0, .ref (q 0))]) (st' := []) rfl (congrArg (fun z => ([(2, .int (nI (k + 1))), (1, .int z), (0, .ref (q 0))] : List (Nat × Value))) e2) rfl (ih (k + 1) (by omega) (by omega))
  refine hiconst (v := 0) X dX8_allCosts_0 rfl ?_
  refine histore_n (lv' := [(1, .int 0), (0, .ref (q 0))]) X dX8_allCosts_1 (by decide) rfl ?_
  refine hiconst (v := 0) X dX8_allCosts_2 rfl ?_
  refine histore_n (lv' := [(2, .int 0), (1, .int 0), (0, .ref (q 0))]) X dX8_allCosts_3 (by decide) rfl ?_
  have e3 : (0 : Int32) = sumN 0 (fun k => E 0 (208 + 7 * k + 4)) := by
    simp [sumN]
  exact hV_to (ws' := mW G q E) (lv' := [(2, .int 0), (1, .int (sumN 0 (fun k => E 0 (208 + 7 * k + 4)))), (0, .ref (q 0))]) (st' := []) rfl (congrArg (fun z => ([(2, .int 0), (1, .int z), (0, .ref (q 0))] : List (Nat × Value))) e3) rfl (L _ 0 (by omega) (Nat.lt_succ_self _))

set_option maxHeartbeats 4000000 in
set_option maxRecDepth 100000 in
theorem kX8_withoutPower (l : Launch) (G : hG) (q : Nat → Nat) (E : hF) (n c : Nat) (h : mOk n c E) : hM l G yX8_withoutPower wsX8_withoutPower ({ frames := 3, cells := 0, slots := 0, locals := 84 }) (mW G q E) [.ref (q 0)] (hR (some (.int (wopE n E))) (mW G q E)) := by
  refine hM_of (cc := cX8_withoutPower) (maxL := 3) (ret := (some .int)) (by decide) rfl (Nat.le_of_ble_eq_true rfl) ?_
  intro pp ee ss mm aa bb me cd X hin
  have iX8 : ∀ w ∈ wsX80, w ∈ wsX8_withoutPower := by decide +kernel
  have hn := h.hn
  have L : ∀ (d : Nat) (k : Nat), (k ≤ n) → (n - k) < d → hV pp l ee ({ frames := 3, cells := 0, slots := 0, locals := 84 }) ss mm aa bb me cd G (va_A (mW G q E) ss.heap.size) 3 0 0 (MQ bb (hQc G (mW G q E) ss.heap.size (hR (some (.int (wopE n E))) (mW G q E))) aa ss 0 0 (va_A (mW G q E) ss.heap.size)) (mW G q E) 4 [(2, .int (nI k)), (1, .int (sumN k (fun s => if E 0 (8 + 10 * s + 4) = 4 ∧ E 0 (8 + 10 * s + 6) = -6 ∧ ¬ E 0 (8 + 10 * s + 2) ≤ 0 then 1 else 0))), (0, .ref (q 0))] [] := by
    intro d
    induction d with
    | zero =>
      intro k hk hd0
      exact absurd hd0 (Nat.not_lt_zero _)
    | succ d ih =>
      intro k hk hd0
      refine hiload_n X dX8_withoutPower_4 rfl ?_
      refine haload_n X dX8_withoutPower_5 rfl ?_
      refine hget1 X (T := TX8) (N := 14) iX8 0 rfl rfl 0 (by decide) (by decide +kernel) rfl dX8_withoutPower_6 ?_
      refine hiconst (v := 4) X dX8_withoutPower_9 rfl ?_
      refine hiald (n := 250) (f := E 0) X 1 rfl 4 rfl (by omega) (by decide) dX8_withoutPower_10 ?_
      refine hV_st (st' := [.int (nI n), .int (nI k)]) (congrArg (fun z => Value.int z :: [.int (nI k)]) (h.h4)) ?_
      refine hicmp_ge (tgt := 58) X dX8_withoutPower_11 (by decide) (fun c1 => ?_) (fun c1 => ?_)
      · have ek := i_ge hk (by omega) c1
        refine hiload_n X dX8_withoutPower_58 rfl ?_
        refine hiret X dX8_withoutPower_59 ⟨congrArg (fun z => some (Value.int z)) (?_ : (sumN k (fun s => if E 0 (8 + 10 * s + 4) = 4 ∧ E 0 (8 + 10 * s + 6) = -6 ∧ ¬ E 0 (8 + 10 * s + 2) ≤ 0 then 1 else 0)) = wopE n E), ?_⟩
        · simp [wopE, ek]
        rfl
      · have hk1 := i_lt hk (by omega) c1
        refine hiload_n X dX8_withoutPower_14 rfl ?_
        refine haload_n X dX8_withoutPower_15 rfl ?_
        refine hiload_n X dX8_withoutPower_16 rfl ?_
        refine hiconst (v := 4) X dX8_withoutPower_17 rfl ?_
        refine hcallV0 (C := RX8) (T := TX8) (N := 14) (As := [.int (nI k), .int 4]) (rest := [.int (sumN k (fun s => if E 0 (8 + 10 * s + 4) = 4 ∧ E 0 (8 + 10 * s + 6) = -6 ∧ ¬ E 0 (8 + 10 * s + 2) ≤ 0 then 1 else 0))]) (st' := [.int (bI (E 0 (8 + 10 * k + 4) = 4)), .int (sumN k (fun s => if E 0 (8 + 10 * s + 4) = 4 ∧ E 0 (8 + 10 * s + 6) = -6 ∧ ¬ E 0 (8 + 10 * s + 2) ≤ 0 then 1 else 0))]) (w := mW G q E) X (q0 := 0) (kX8_isHow l G q E k 4 (by first | assumption | omega | simp [fs_at, *])) gX8_withoutPower_X8_isHow rfl (n := 2) (by decide +kernel) (by decide) rfl rfl rfl rfl (Nat.le_of_ble_eq_true rfl) dX8_withoutPower_18 rfl rfl (by decide) rfl ?_
        refine hif_eqB (tgt := 49) X dX8_withoutPower_21 (by decide) (fun c2 => ?_) (fun c2 => ?_)
        · refine hiconst (v := 0) X dX8_withoutPower_49 rfl ?_
          refine hiadd X dX8_withoutPower_50 ?_
          refine histore_n (lv' := [(1, .int ((sumN k (fun s => if E 0 (8 + 10 * s + 4) = 4 ∧ E 0 (8 + 10 * s + 6) = -6 ∧ ¬ E 0 (8 + 10 * s + 2) ≤ 0 then 1 else 0)) + 0)), (2, .int (nI k)), (0, .ref (q 0))]) X dX8_withoutPower_51 (by decide) rfl ?_
          refine hiinc (v := nI (k + 1)) (lv' := [(2, .int (nI (k + 1))), (1, .int ((sumN k (fun s => if E 0 (8 + 10 * s + 4) = 4 ∧ E 0 (8 + 10 * s + 6) = -6 ∧ ¬ E 0 (8 + 10 * s + 2) ≤ 0 then 1 else 0)) + 0)), (0, .ref (q 0))]) X dX8_withoutPower_52 rfl (nI_1 _) (by decide) rfl ?_
          refine hgoto (tgt := 4) X dX8_withoutPower_55 (by decide) ?_
          have e3 : ((sumN k (fun s => if E 0 (8 + 10 * s + 4) = 4 ∧ E 0 (8 + 10 * s + 6) = -6 ∧ ¬ E 0 (8 + 10 * s + 2) ≤ 0 then 1 else 0)) + 0 : Int32) = sumN (k + 1) (fun s => if E 0 (8 + 10 * s + 4) = 4 ∧ E 0 (8 + 10 * s + 6) = -6 ∧ ¬ E 0 (8 + 10 * s + 2) ≤ 0 then 1 else 0) := by
            simp [sumN, c1, c2]
          exact hV_to (ws' := mW G q E) (lv' := [(2, .int (nI (k + 1))), (1, .int (sumN (k + 1) (fun s => if E 0 (8 + 10 * s + 4) = 4 ∧ E 0 (8 + 10 * s + 6) = -6 ∧ ¬ E 0 (8 + 10 * s + 2) ≤ 0 then 1 else 0))), (0, .ref (q 0))]) (st' := []) rfl (congrArg (fun z => ([(2, .int (nI (k + 1))), (1, .int z), (0, .ref (q 0))] : List (Nat × Value))) e3) rfl (ih (k + 1) (by omega) (by omega))
        · refine haload_n X dX8_withoutPower_24 rfl ?_
          refine hiload_n X dX8_withoutPower_25 rfl ?_
          refine hbipush (v := 6) X dX8_withoutPower_26 rfl ?_
          refine hcallV0 (C := RX8) (T := TX8) (N := 14) (As := [.int (nI k), .int (nI 6)]) (rest := [.int (sumN k (fun s => if E 0 (8 + 10 * s + 4) = 4 ∧ E 0 (8 + 10 * s + 6) = -6 ∧ ¬ E 0 (8 + 10 * s + 2) ≤ 0 then 1 else 0))]) (st' := [.int (E 0 (8 + 10 * k + 6)), .int (sumN k (fun s => if E 0 (8 + 10 * s + 4) = 4 ∧ E 0 (8 + 10 * s + 6) = -6 ∧ ¬ E 0 (8 + 10 * s + 2) ≤ 0 then 1 else 0))]) (w := mW G q E) X (q0 := 0) (kX8_part l G q E k 6 (by first | assumption | omega | simp [fs_at, *]) (by first | assumption | omega | simp [fs_at, *])) gX8_withoutPower_X8_part rfl (n := 2) (by decide +kernel) (by decide) rfl rfl rfl rfl (Nat.le_of_ble_eq_true rfl) dX8_withoutPower_28 rfl rfl (by decide) rfl ?_
          refine hbipush (v := (-6)) X dX8_withoutPower_31 rfl ?_
          refine hicmp_ne (tgt := 49) X dX8_withoutPower_33 (by decide) (fun c4 => ?_) (fun c4 => ?_)
          · refine hiconst (v := 0) X dX8_withoutPower_49 rfl ?_
            refine hiadd X dX8_withoutPower_50 ?_
            refine histore_n (lv' := [(1, .int ((sumN k (fun s => if E 0 (8 + 10 * s + 4) = 4 ∧ E 0 (8 + 10 * s + 6) = -6 ∧ ¬ E 0 (8 + 10 * s + 2) ≤ 0 then 1 else 0)) + 0)), (2, .int (nI k)), (0, .ref (q 0))]) X dX8_withoutPower_51 (by decide) rfl ?_
            refine hiinc (v := nI (k + 1)) (lv' := [(2, .int (nI (k + 1))), (1, .int ((sumN k (fun s => if E 0 (8 + 10 * s + 4) = 4 ∧ E 0 (8 + 10 * s + 6) = -6 ∧ ¬ E 0 (8 + 10 * s + 2) ≤ 0 then 1 else 0)) + 0)), (0, .ref (q 0))]) X dX8_withoutPower_52 rfl (nI_1 _) (by decide) rfl ?_
            refine hgoto (tgt := 4) X dX8_withoutPower_55 (by decide) ?_
            have e5 : ((sumN k (fun s => if E 0 (8 + 10 * s + 4) = 4 ∧ E 0 (8 + 10 * s + 6) = -6 ∧ ¬ E 0 (8 + 10 * s + 2) ≤ 0 then 1 else 0)) + 0 : Int32) = sumN (k + 1) (fun s => if E 0 (8 + 10 * s + 4) = 4 ∧ E 0 (8 + 10 * s + 6) = -6 ∧ ¬ E 0 (8 + 10 * s + 2) ≤ 0 then 1 else 0) := by
              simp [sumN, c1, c2, c4]
            exact hV_to (ws' := mW G q E) (lv' := [(2, .int (nI (k + 1))), (1, .int (sumN (k + 1) (fun s => if E 0 (8 + 10 * s + 4) = 4 ∧ E 0 (8 + 10 * s + 6) = -6 ∧ ¬ E 0 (8 + 10 * s + 2) ≤ 0 then 1 else 0))), (0, .ref (q 0))]) (st' := []) rfl (congrArg (fun z => ([(2, .int (nI (k + 1))), (1, .int z), (0, .ref (q 0))] : List (Nat × Value))) e5) rfl (ih (k + 1) (by omega) (by omega))
          · refine haload_n X dX8_withoutPower_36 rfl ?_
            refine hiload_n X dX8_withoutPower_37 rfl ?_
            refine hiconst (v := 2) X dX8_withoutPower_38 rfl ?_
            refine hcallV0 (C := RX8) (T := TX8) (N := 14) (As := [.int (nI k), .int (nI 2)]) (rest := [.int (sumN k (fun s => if E 0 (8 + 10 * s + 4) = 4 ∧ E 0 (8 + 10 * s + 6) = -6 ∧ ¬ E 0 (8 + 10 * s + 2) ≤ 0 then 1 else 0))]) (st' := [.int (E 0 (8 + 10 * k + 2)), .int (sumN k (fun s => if E 0 (8 + 10 * s + 4) = 4 ∧ E 0 (8 + 10 * s + 6) = -6 ∧ ¬ E 0 (8 + 10 * s + 2) ≤ 0 then 1 else 0))]) (w := mW G q E) X (q0 := 0) (kX8_part l G q E k 2 (by first | assumption | omega | simp [fs_at, *]) (by first | assumption | omega | simp [fs_at, *])) gX8_withoutPower_X8_part rfl (n := 2) (by decide +kernel) (by decide) rfl rfl rfl rfl (Nat.le_of_ble_eq_true rfl) dX8_withoutPower_39 rfl rfl (by decide) rfl ?_
            refine hif_le (tgt := 49) X dX8_withoutPower_42 (by decide) (fun c6 => ?_) (fun c6 => ?_)
            · refine hiconst (v := 0) X dX8_withoutPower_49 rfl ?_
              refine hiadd X dX8_withoutPower_50 ?_
              refine histore_n (lv' := [(1, .int ((sumN k (fun s => if E 0 (8 + 10 * s + 4) = 4 ∧ E 0 (8 + 10 * s + 6) = -6 ∧ ¬ E 0 (8 + 10 * s + 2) ≤ 0 then 1 else 0)) + 0)), (2, .int (nI k)), (0, .ref (q 0))]) X dX8_withoutPower_51 (by decide) rfl ?_
              refine hiinc (v := nI (k + 1)) (lv' := [(2, .int (nI (k + 1))), (1, .int ((sumN k (fun s => if E 0 (8 + 10 * s + 4) = 4 ∧ E 0 (8 + 10 * s + 6) = -6 ∧ ¬ E 0 (8 + 10 * s + 2) ≤ 0 then 1 else 0)) + 0)), (0, .ref (q 0))]) X dX8_withoutPower_52 rfl (nI_1 _) (by decide) rfl ?_
              refine hgoto (tgt := 4) X dX8_withoutPower_55 (by decide) ?_
              have e7 : ((sumN k (fun s => if E 0 (8 + 10 * s + 4) = 4 ∧ E 0 (8 + 10 * s + 6) = -6 ∧ ¬ E 0 (8 + 10 * s + 2) ≤ 0 then 1 else 0)) + 0 : Int32) = sumN (k + 1) (fun s => if E 0 (8 + 10 * s + 4) = 4 ∧ E 0 (8 + 10 * s + 6) = -6 ∧ ¬ E 0 (8 + 10 * s + 2) ≤ 0 then 1 else 0) := by
                simp [sumN, c1, c2, c4, c6]
              exact hV_to (ws' := mW G q E) (lv' := [(2, .int (nI (k + 1))), (1, .int (sumN (k + 1) (fun s => if E 0 (8 + 10 * s + 4) = 4 ∧ E 0 (8 + 10 * s + 6) = -6 ∧ ¬ E 0 (8 + 10 * s + 2) ≤ 0 then 1 else 0))), (0, .ref (q 0))]) (st' := []) rfl (congrArg (fun z => ([(2, .int (nI (k + 1))), (1, .int z), (0, .ref (q 0))] : List (Nat × Value))) e7) rfl (ih (k + 1) (by omega) (by omega))
            · refine hiconst (v := 1) X dX8_withoutPower_45 rfl ?_
              refine hgoto (tgt := 50) X dX8_withoutPower_46 (by decide) ?_
              refine hiadd X dX8_withoutPower_50 ?_
              refine histore_n (lv' := [(1, .int ((sumN k (fun s => if E 0 (8 + 10 * s + 4) = 4 ∧ E 0 (8 + 10 * s + 6) = -6 ∧ ¬ E 0 (8 + 10 * s + 2) ≤ 0 then 1 else 0)) + 1)), (2, .int (nI k)), (0, .ref (q 0))]) X dX8_withoutPower_51 (by decide) rfl ?_
              refine hiinc (v := nI (k + 1)) (lv' := [(2, .int (nI (k + 1))), (1, .int ((sumN k (fun s => if E 0 (8 + 10 * s + 4) = 4 ∧ E 0 (8 + 10 * s + 6) = -6 ∧ ¬ E 0 (8 + 10 * s + 2) ≤ 0 then 1 else 0)) + 1)), (0, .ref (q 0))]) X dX8_withoutPower_52 rfl (nI_1 _) (by decide) rfl ?_
              refine hgoto (tgt := 4) X dX8_withoutPower_55 (by decide) ?_
              have e8 : ((sumN k (fun s => if E 0 (8 + 10 * s + 4) = 4 ∧ E 0 (8 + 10 * s + 6) = -6 ∧ ¬ E 0 (8 + 10 * s + 2) ≤ 0 then 1 else 0)) + 1 : Int32) = sumN (k + 1) (fun s => if E 0 (8 + 10 * s + 4) = 4 ∧ E 0 (8 + 10 * s + 6) = -6 ∧ ¬ E 0 (8 + 10 * s + 2) ≤ 0 then 1 else 0) := by
                simp [sumN, c1, c2, c4, c6]
              exact hV_to (ws' := mW G q E) (lv' := [(2, .int (nI (k + 1))), (1, .int (sumN (k + 1) (fun s => if E 0 (8 + 10 * s + 4) = 4 ∧ E 0 (8 + 10 * s + 6) = -6 ∧ ¬ E 0 (8 + 10 * s + 2) ≤ 0 then 1 else 0))), (0, .ref (q 0))]) (st' := []) rfl (congrArg (fun z => ([(2, .int (nI (k + 1))), (1, .int z), (0, .ref (q 0))] : List (Nat × Value))) e8) rfl (ih (k + 1) (by omega) (by omega))
  refine hiconst (v := 0) X dX8_withoutPower_0 rfl ?_
  refine histore_n (lv' := [(1, .int 0), (0, .ref (q 0))]) X dX8_withoutPower_1 (by decide) rfl ?_
  refine hiconst (v := 0) X dX8_withoutPower_2 rfl ?_
  refine histore_n (lv' := [(2, .int 0), (1, .int 0), (0, .ref (q 0))]) X dX8_withoutPower_3 (by decide) rfl ?_
  have e9 : (0 : Int32) = sumN 0 (fun s => if E 0 (8 + 10 * s + 4) = 4 ∧ E 0 (8 + 10 * s + 6) = -6 ∧ ¬ E 0 (8 + 10 * s + 2) ≤ 0 then 1 else 0) := by
    simp [sumN]
  exact hV_to (ws' := mW G q E) (lv' := [(2, .int 0), (1, .int (sumN 0 (fun s => if E 0 (8 + 10 * s + 4) = 4 ∧ E 0 (8 + 10 * s + 6) = -6 ∧ ¬ E 0 (8 + 10 * s + 2) ≤ 0 then 1 else 0))), (0, .ref (q 0))]) (st' := []) rfl (congrArg (fun z => ([(2, .int 0), (1, .int z), (0, .ref (q 0))] : List (Nat × Value))) e9) rfl (L _ 0 (by omega) (Nat.lt_succ_self _))

set_option maxHeartbeats 4000000 in
set_option maxRecDepth 100000 in
theorem kX8_count (l : Launch) (G : hG) (q : Nat → Nat) (E : hF) (n c : Nat) (h : mOk n c E) (x : Int32) : hM l G yX8_count wsX8_count ({ frames := 4, cells := 0, slots := 0, locals := 107 }) (mW G q E) [.ref (q 0), .int x] (hR (some (.int (couE n c E x))) (mW G q E)) := by
  refine hM_of (cc := cX8_count) (maxL := 2) (ret := (some .int)) (by decide) rfl (Nat.le_of_ble_eq_true rfl) ?_
  intro pp ee ss mm aa bb me cd X hin
  have iX8 : ∀ w ∈ wsX80, w ∈ wsX8_count := by decide +kernel
  refine hiload_n X dX8_count_0 rfl ?_
  rcases sw_cases x 19 (by decide) with sx1 | ⟨kk1, hk1, sx1⟩
  · refine htableOut (tgt := 176) X dX8_count_1 sx1 (by decide) ?_
    have sx1_0 : ¬ (x : Int32) = 0 := fun e9 => by rw [e9] at sx1; exact absurd sx1 (by decide)
    have sx1_1 : ¬ (x : Int32) = 1 := fun e9 => by rw [e9] at sx1; exact absurd sx1 (by decide)
    have sx1_2 : ¬ (x : Int32) = 2 := fun e9 => by rw [e9] at sx1; exact absurd sx1 (by decide)
    have sx1_3 : ¬ (x : Int32) = 3 := fun e9 => by rw [e9] at sx1; exact absurd sx1 (by decide)
    have sx1_4 : ¬ (x : Int32) = 4 := fun e9 => by rw [e9] at sx1; exact absurd sx1 (by decide)
    have sx1_5 : ¬ (x : Int32) = 5 := fun e9 => by rw [e9] at sx1; exact absurd sx1 (by decide)
    have sx1_6 : ¬ (x : Int32) = 6 := fun e9 => by rw [e9] at sx1; exact absurd sx1 (by decide)
    have sx1_7 : ¬ (x : Int32) = 7 := fun e9 => by rw [e9] at sx1; exact absurd sx1 (by decide)
    have sx1_8 : ¬ (x : Int32) = 8 := fun e9 => by rw [e9] at sx1; exact absurd sx1 (by decide)
    have sx1_9 : ¬ (x : Int32) = 9 := fun e9 => by rw [e9] at sx1; exact absurd sx1 (by decide)
    have sx1_10 : ¬ (x : Int32) = 10 := fun e9 => by rw [e9] at sx1; exact absurd sx1 (by decide)
    have sx1_11 : ¬ (x : Int32) = 11 := fun e9 => by rw [e9] at sx1; exact absurd sx1 (by decide)
    have sx1_12 : ¬ (x : Int32) = 12 := fun e9 => by rw [e9] at sx1; exact absurd sx1 (by decide)
    have sx1_13 : ¬ (x : Int32) = 13 := fun e9 => by rw [e9] at sx1; exact absurd sx1 (by decide)
    have sx1_14 : ¬ (x : Int32) = 14 := fun e9 => by rw [e9] at sx1; exact absurd sx1 (by decide)
    have sx1_15 : ¬ (x : Int32) = 15 := fun e9 => by rw [e9] at sx1; exact absurd sx1 (by decide)
    have sx1_16 : ¬ (x : Int32) = 16 := fun e9 => by rw [e9] at sx1; exact absurd sx1 (by decide)
    have sx1_17 : ¬ (x : Int32) = 17 := fun e9 => by rw [e9] at sx1; exact absurd sx1 (by decide)
    have sx1_18 : ¬ (x : Int32) = 18 := fun e9 => by rw [e9] at sx1; exact absurd sx1 (by decide)
    have sx1_19 : ¬ (x : Int32) = 19 := fun e9 => by rw [e9] at sx1; exact absurd sx1 (by decide)
    refine hbipush (v := (-2)) X dX8_count_176 rfl ?_
    refine hiret X dX8_count_178 ⟨congrArg (fun z => some (Value.int z)) (?_ : (-2) = couE n c E x), ?_⟩
    · simp [couE, sx1_0, sx1_1, sx1_2, sx1_3, sx1_4, sx1_5, sx1_6, sx1_7, sx1_8, sx1_9, sx1_10, sx1_11, sx1_12, sx1_13, sx1_14, sx1_15, sx1_16, sx1_17, sx1_18, sx1_19]
    rfl
  · rcases (show kk1 = 0 ∨ kk1 = 1 ∨ kk1 = 2 ∨ kk1 = 3 ∨ kk1 = 4 ∨ kk1 = 5 ∨ kk1 = 6 ∨ kk1 = 7 ∨ kk1 = 8 ∨ kk1 = 9 ∨ kk1 = 10 ∨ kk1 = 11 ∨ kk1 = 12 ∨ kk1 = 13 ∨ kk1 = 14 ∨ kk1 = 15 ∨ kk1 = 16 ∨ kk1 = 17 ∨ kk1 = 18 ∨ kk1 = 19 by omega) with rfl | rfl | rfl | rfl | rfl | rfl | rfl | rfl | rfl | rfl | rfl | rfl | rfl | rfl | rfl | rfl | rfl | rfl | rfl | rfl
    · refine htableIn (off := 95) (tgt := 96) X dX8_count_1 (by rw [sx1]; decide) (by rw [sx1]; decide) (by rw [sx1]; decide) (by decide) ?_
      have sx1 : (x : Int32) = 0 := sx1
      refine hV_to (lv' := [(0, .ref (q 0)), (1, .int 0)]) rfl (congrArg (fun z => ([(0, .ref (q 0)), (1, .int z)] : List (Nat × Value))) sx1) rfl ?_
      refine haload_n X dX8_count_96 rfl ?_
      refine hget1 X (T := TX8) (N := 14) iX8 0 rfl rfl 0 (by decide) (by decide +kernel) rfl dX8_count_97 ?_
      refine hiconst (v := 3) X dX8_count_100 rfl ?_
      refine hiald (n := 250) (f := E 0) X 1 rfl 3 rfl (by omega) (by decide) dX8_count_101 ?_
      refine hiret X dX8_count_102 ⟨congrArg (fun z => some (Value.int z)) (?_ : (E 0 3) = couE n c E x), ?_⟩
      · simp [couE, sx1]
      rfl
    · refine htableIn (off := 102) (tgt := 103) X dX8_count_1 (by rw [sx1]; decide) (by rw [sx1]; decide) (by rw [sx1]; decide) (by decide) ?_
      have sx1 : (x : Int32) = 1 := sx1
      refine hV_to (lv' := [(0, .ref (q 0)), (1, .int 1)]) rfl (congrArg (fun z => ([(0, .ref (q 0)), (1, .int z)] : List (Nat × Value))) sx1) rfl ?_
      refine haload_n X dX8_count_103 rfl ?_
      refine hget1 X (T := TX8) (N := 14) iX8 0 rfl rfl 0 (by decide) (by decide +kernel) rfl dX8_count_104 ?_
      refine hiconst (v := 4) X dX8_count_107 rfl ?_
      refine hiald (n := 250) (f := E 0) X 1 rfl 4 rfl (by omega) (by decide) dX8_count_108 ?_
      refine hV_st (st' := [.int (nI n)]) (congrArg (fun z => Value.int z :: []) (h.h4)) ?_
      refine hiret X dX8_count_109 ⟨congrArg (fun z => some (Value.int z)) (?_ : (nI n) = couE n c E x), ?_⟩
      · simp [couE, sx1]
      rfl
    · refine htableIn (off := 109) (tgt := 110) X dX8_count_1 (by rw [sx1]; decide) (by rw [sx1]; decide) (by rw [sx1]; decide) (by decide) ?_
      have sx1 : (x : Int32) = 2 := sx1
      refine hV_to (lv' := [(0, .ref (q 0)), (1, .int 2)]) rfl (congrArg (fun z => ([(0, .ref (q 0)), (1, .int z)] : List (Nat × Value))) sx1) rfl ?_
      refine haload_n X dX8_count_110 rfl ?_
      refine hget1 X (T := TX8) (N := 14) iX8 0 rfl rfl 0 (by decide) (by decide +kernel) rfl dX8_count_111 ?_
      refine hiconst (v := 5) X dX8_count_114 rfl ?_
      refine hiald (n := 250) (f := E 0) X 1 rfl 5 rfl (by omega) (by decide) dX8_count_115 ?_
      refine hV_st (st' := [.int (nI c)]) (congrArg (fun z => Value.int z :: []) (h.h5)) ?_
      refine hiret X dX8_count_116 ⟨congrArg (fun z => some (Value.int z)) (?_ : (nI c) = couE n c E x), ?_⟩
      · simp [couE, sx1]
      rfl
    · refine htableIn (off := 116) (tgt := 117) X dX8_count_1 (by rw [sx1]; decide) (by rw [sx1]; decide) (by rw [sx1]; decide) (by decide) ?_
      have sx1 : (x : Int32) = 3 := sx1
      refine hV_to (lv' := [(0, .ref (q 0)), (1, .int 3)]) rfl (congrArg (fun z => ([(0, .ref (q 0)), (1, .int z)] : List (Nat × Value))) sx1) rfl ?_
      refine haload_n X dX8_count_117 rfl ?_
      refine hiload_n X dX8_count_118 rfl ?_
      refine hiconst (v := 3) X dX8_count_119 rfl ?_
      refine hisub X dX8_count_120 ?_
      refine hV_st (st' := [.int 0, .ref (q 0)]) rfl ?_
      refine hcallV0 (C := RX8) (T := TX8) (N := 14) (As := [.int 0]) (rest := []) (st' := [.int (cntE n E 0)]) (w := mW G q E) X (q0 := 0) (kX8_withHow l G q E n 0 (by first | assumption | exact h.hn | exact h.h4 | omega) (by first | assumption | exact h.hn | exact h.h4 | omega)) gX8_count_X8_withHow rfl (n := 1) (by decide +kernel) (by decide) rfl rfl rfl rfl (Nat.le_of_ble_eq_true rfl) dX8_count_121 rfl rfl (by decide) rfl ?_
      refine hiret X dX8_count_124 ⟨congrArg (fun z => some (Value.int z)) (?_ : (cntE n E 0) = couE n c E x), ?_⟩
      · simp [couE, sx1]
      rfl
    · refine htableIn (off := 116) (tgt := 117) X dX8_count_1 (by rw [sx1]; decide) (by rw [sx1]; decide) (by rw [sx1]; decide) (by decide) ?_
      have sx1 : (x : Int32) = 4 := sx1
      refine hV_to (lv' := [(0, .ref (q 0)), (1, .int 4)]) rfl (congrArg (fun z => ([(0, .ref (q 0)), (1, .int z)] : List (Nat × Value))) sx1) rfl ?_
      refine haload_n X dX8_count_117 rfl ?_
      refine hiload_n X dX8_count_118 rfl ?_
      refine hiconst (v := 3) X dX8_count_119 rfl ?_
      refine hisub X dX8_count_120 ?_
      refine hV_st (st' := [.int 1, .ref (q 0)]) rfl ?_
      refine hcallV0 (C := RX8) (T := TX8) (N := 14) (As := [.int 1]) (rest := []) (st' := [.int (cntE n E 1)]) (w := mW G q E) X (q0 := 0) (kX8_withHow l G q E n 1 (by first | assumption | exact h.hn | exact h.h4 | omega) (by first | assumption | exact h.hn | exact h.h4 | omega)) gX8_count_X8_withHow rfl (n := 1) (by decide +kernel) (by decide) rfl rfl rfl rfl (Nat.le_of_ble_eq_true rfl) dX8_count_121 rfl rfl (by decide) rfl ?_
      refine hiret X dX8_count_124 ⟨congrArg (fun z => some (Value.int z)) (?_ : (cntE n E 1) = couE n c E x), ?_⟩
      · simp [couE, sx1]
      rfl
    · refine htableIn (off := 116) (tgt := 117) X dX8_count_1 (by rw [sx1]; decide) (by rw [sx1]; decide) (by rw [sx1]; decide) (by decide) ?_
      have sx1 : (x : Int32) = 5 := sx1
      refine hV_to (lv' := [(0, .ref (q 0)), (1, .int 5)]) rfl (congrArg (fun z => ([(0, .ref (q 0)), (1, .int z)] : List (Nat × Value))) sx1) rfl ?_
      refine haload_n X dX8_count_117 rfl ?_
      refine hiload_n X dX8_count_118 rfl ?_
      refine hiconst (v := 3) X dX8_count_119 rfl ?_
      refine hisub X dX8_count_120 ?_
      refine hV_st (st' := [.int 2, .ref (q 0)]) rfl ?_
      refine hcallV0 (C := RX8) (T := TX8) (N := 14) (As := [.int 2]) (rest := []) (st' := [.int (cntE n E 2)]) (w := mW G q E) X (q0 := 0) (kX8_withHow l G q E n 2 (by first | assumption | exact h.hn | exact h.h4 | omega) (by first | assumption | exact h.hn | exact h.h4 | omega)) gX8_count_X8_withHow rfl (n := 1) (by decide +kernel) (by decide) rfl rfl rfl rfl (Nat.le_of_ble_eq_true rfl) dX8_count_121 rfl rfl (by decide) rfl ?_
      refine hiret X dX8_count_124 ⟨congrArg (fun z => some (Value.int z)) (?_ : (cntE n E 2) = couE n c E x), ?_⟩
      · simp [couE, sx1]
      rfl
    · refine htableIn (off := 116) (tgt := 117) X dX8_count_1 (by rw [sx1]; decide) (by rw [sx1]; decide) (by rw [sx1]; decide) (by decide) ?_
      have sx1 : (x : Int32) = 6 := sx1
      refine hV_to (lv' := [(0, .ref (q 0)), (1, .int 6)]) rfl (congrArg (fun z => ([(0, .ref (q 0)), (1, .int z)] : List (Nat × Value))) sx1) rfl ?_
      refine haload_n X dX8_count_117 rfl ?_
      refine hiload_n X dX8_count_118 rfl ?_
      refine hiconst (v := 3) X dX8_count_119 rfl ?_
      refine hisub X dX8_count_120 ?_
      refine hV_st (st' := [.int 3, .ref (q 0)]) rfl ?_
      refine hcallV0 (C := RX8) (T := TX8) (N := 14) (As := [.int 3]) (rest := []) (st' := [.int (cntE n E 3)]) (w := mW G q E) X (q0 := 0) (kX8_withHow l G q E n 3 (by first | assumption | exact h.hn | exact h.h4 | omega) (by first | assumption | exact h.hn | exact h.h4 | omega)) gX8_count_X8_withHow rfl (n := 1) (by decide +kernel) (by decide) rfl rfl rfl rfl (Nat.le_of_ble_eq_true rfl) dX8_count_121 rfl rfl (by decide) rfl ?_
      refine hiret X dX8_count_124 ⟨congrArg (fun z => some (Value.int z)) (?_ : (cntE n E 3) = couE n c E x), ?_⟩
      · simp [couE, sx1]
      rfl
    · refine htableIn (off := 116) (tgt := 117) X dX8_count_1 (by rw [sx1]; decide) (by rw [sx1]; decide) (by rw [sx1]; decide) (by decide) ?_
      have sx1 : (x : Int32) = 7 := sx1
      refine hV_to (lv' := [(0, .ref (q 0)), (1, .int 7)]) rfl (congrArg (fun z => ([(0, .ref (q 0)), (1, .int z)] : List (Nat × Value))) sx1) rfl ?_
      refine haload_n X dX8_count_117 rfl ?_
      refine hiload_n X dX8_count_118 rfl ?_
      refine hiconst (v := 3) X dX8_count_119 rfl ?_
      refine hisub X dX8_count_120 ?_
      refine hV_st (st' := [.int 4, .ref (q 0)]) rfl ?_
      refine hcallV0 (C := RX8) (T := TX8) (N := 14) (As := [.int 4]) (rest := []) (st' := [.int (cntE n E 4)]) (w := mW G q E) X (q0 := 0) (kX8_withHow l G q E n 4 (by first | assumption | exact h.hn | exact h.h4 | omega) (by first | assumption | exact h.hn | exact h.h4 | omega)) gX8_count_X8_withHow rfl (n := 1) (by decide +kernel) (by decide) rfl rfl rfl rfl (Nat.le_of_ble_eq_true rfl) dX8_count_121 rfl rfl (by decide) rfl ?_
      refine hiret X dX8_count_124 ⟨congrArg (fun z => some (Value.int z)) (?_ : (cntE n E 4) = couE n c E x), ?_⟩
      · simp [couE, sx1]
      rfl
    · refine htableIn (off := 116) (tgt := 117) X dX8_count_1 (by rw [sx1]; decide) (by rw [sx1]; decide) (by rw [sx1]; decide) (by decide) ?_
      have sx1 : (x : Int32) = 8 := sx1
      refine hV_to (lv' := [(0, .ref (q 0)), (1, .int 8)]) rfl (congrArg (fun z => ([(0, .ref (q 0)), (1, .int z)] : List (Nat × Value))) sx1) rfl ?_
      refine haload_n X dX8_count_117 rfl ?_
      refine hiload_n X dX8_count_118 rfl ?_
      refine hiconst (v := 3) X dX8_count_119 rfl ?_
      refine hisub X dX8_count_120 ?_
      refine hV_st (st' := [.int 5, .ref (q 0)]) rfl ?_
      refine hcallV0 (C := RX8) (T := TX8) (N := 14) (As := [.int 5]) (rest := []) (st' := [.int (cntE n E 5)]) (w := mW G q E) X (q0 := 0) (kX8_withHow l G q E n 5 (by first | assumption | exact h.hn | exact h.h4 | omega) (by first | assumption | exact h.hn | exact h.h4 | omega)) gX8_count_X8_withHow rfl (n := 1) (by decide +kernel) (by decide) rfl rfl rfl rfl (Nat.le_of_ble_eq_true rfl) dX8_count_121 rfl rfl (by decide) rfl ?_
      refine hiret X dX8_count_124 ⟨congrArg (fun z => some (Value.int z)) (?_ : (cntE n E 5) = couE n c E x), ?_⟩
      · simp [couE, sx1]
      rfl
    · refine htableIn (off := 116) (tgt := 117) X dX8_count_1 (by rw [sx1]; decide) (by rw [sx1]; decide) (by rw [sx1]; decide) (by decide) ?_
      have sx1 : (x : Int32) = 9 := sx1
      refine hV_to (lv' := [(0, .ref (q 0)), (1, .int 9)]) rfl (congrArg (fun z => ([(0, .ref (q 0)), (1, .int z)] : List (Nat × Value))) sx1) rfl ?_
      refine haload_n X dX8_count_117 rfl ?_
      refine hiload_n X dX8_count_118 rfl ?_
      refine hiconst (v := 3) X dX8_count_119 rfl ?_
      refine hisub X dX8_count_120 ?_
      refine hV_st (st' := [.int 6, .ref (q 0)]) rfl ?_
      refine hcallV0 (C := RX8) (T := TX8) (N := 14) (As := [.int 6]) (rest := []) (st' := [.int (cntE n E 6)]) (w := mW G q E) X (q0 := 0) (kX8_withHow l G q E n 6 (by first | assumption | exact h.hn | exact h.h4 | omega) (by first | assumption | exact h.hn | exact h.h4 | omega)) gX8_count_X8_withHow rfl (n := 1) (by decide +kernel) (by decide) rfl rfl rfl rfl (Nat.le_of_ble_eq_true rfl) dX8_count_121 rfl rfl (by decide) rfl ?_
      refine hiret X dX8_count_124 ⟨congrArg (fun z => some (Value.int z)) (?_ : (cntE n E 6) = couE n c E x), ?_⟩
      · simp [couE, sx1]
      rfl
    · refine htableIn (off := 124) (tgt := 125) X dX8_count_1 (by rw [sx1]; decide) (by rw [sx1]; decide) (by rw [sx1]; decide) (by decide) ?_
      have sx1 : (x : Int32) = 10 := sx1
      refine hV_to (lv' := [(0, .ref (q 0)), (1, .int 10)]) rfl (congrArg (fun z => ([(0, .ref (q 0)), (1, .int z)] : List (Nat × Value))) sx1) rfl ?_
      refine haload_n X dX8_count_125 rfl ?_
      refine hcallV0 (C := RX8) (T := TX8) (N := 14) (As := []) (rest := []) (st' := [.int (metE n E)]) (w := mW G q E) X (q0 := 0) (kX8_meters l G q E n (by first | assumption | exact h.hn | exact h.h4 | omega) (by first | assumption | exact h.hn | exact h.h4 | omega)) gX8_count_X8_meters rfl (n := 0) (by decide +kernel) (by decide) rfl rfl rfl rfl (Nat.le_of_ble_eq_true rfl) dX8_count_126 rfl rfl (by decide) rfl ?_
      refine hiret X dX8_count_129 ⟨congrArg (fun z => some (Value.int z)) (?_ : (metE n E) = couE n c E x), ?_⟩
      · simp [couE, sx1]
      rfl
    · refine htableIn (off := 129) (tgt := 130) X dX8_count_1 (by rw [sx1]; decide) (by rw [sx1]; decide) (by rw [sx1]; decide) (by decide) ?_
      have sx1 : (x : Int32) = 11 := sx1
      refine hV_to (lv' := [(0, .ref (q 0)), (1, .int 11)]) rfl (congrArg (fun z => ([(0, .ref (q 0)), (1, .int z)] : List (Nat × Value))) sx1) rfl ?_
      refine haload_n X dX8_count_130 rfl ?_
      refine hget1 X (T := TX8) (N := 14) iX8 0 rfl rfl 0 (by decide) (by decide +kernel) rfl dX8_count_131 ?_
      refine hbipush (v := 6) X dX8_count_134 rfl ?_
      refine hiald (n := 250) (f := E 0) X 1 rfl 6 rfl (by omega) (by decide) dX8_count_136 ?_
      refine hiret X dX8_count_137 ⟨congrArg (fun z => some (Value.int z)) (?_ : (E 0 6) = couE n c E x), ?_⟩
      · simp [couE, sx1]
      rfl
    · refine htableIn (off := 137) (tgt := 138) X dX8_count_1 (by rw [sx1]; decide) (by rw [sx1]; decide) (by rw [sx1]; decide) (by decide) ?_
      have sx1 : (x : Int32) = 12 := sx1
      refine hV_to (lv' := [(0, .ref (q 0)), (1, .int 12)]) rfl (congrArg (fun z => ([(0, .ref (q 0)), (1, .int z)] : List (Nat × Value))) sx1) rfl ?_
      refine haload_n X dX8_count_138 rfl ?_
      refine hget1 X (T := TX8) (N := 14) iX8 0 rfl rfl 0 (by decide) (by decide +kernel) rfl dX8_count_139 ?_
      refine hbipush (v := 7) X dX8_count_142 rfl ?_
      refine hiald (n := 250) (f := E 0) X 1 rfl 7 rfl (by omega) (by decide) dX8_count_144 ?_
      refine hiret X dX8_count_145 ⟨congrArg (fun z => some (Value.int z)) (?_ : (E 0 7) = couE n c E x), ?_⟩
      · simp [couE, sx1]
      rfl
    · refine htableIn (off := 145) (tgt := 146) X dX8_count_1 (by rw [sx1]; decide) (by rw [sx1]; decide) (by rw [sx1]; decide) (by decide) ?_
      have sx1 : (x : Int32) = 13 := sx1
      refine hV_to (lv' := [(0, .ref (q 0)), (1, .int 13)]) rfl (congrArg (fun z => ([(0, .ref (q 0)), (1, .int z)] : List (Nat × Value))) sx1) rfl ?_
      refine haload_n X dX8_count_146 rfl ?_
      refine hcallV0 (C := RX8) (T := TX8) (N := 14) (As := []) (rest := []) (st' := [.int (cosE c E)]) (w := mW G q E) X (q0 := 0) (kX8_allCosts l G q E n c (by first | assumption | exact h.hn | exact h.h4 | omega)) gX8_count_X8_allCosts rfl (n := 0) (by decide +kernel) (by decide) rfl rfl rfl rfl (Nat.le_of_ble_eq_true rfl) dX8_count_147 rfl rfl (by decide) rfl ?_
      refine hiret X dX8_count_150 ⟨congrArg (fun z => some (Value.int z)) (?_ : (cosE c E) = couE n c E x), ?_⟩
      · simp [couE, sx1]
      rfl
    · refine htableIn (off := 150) (tgt := 151) X dX8_count_1 (by rw [sx1]; decide) (by rw [sx1]; decide) (by rw [sx1]; decide) (by decide) ?_
      have sx1 : (x : Int32) = 14 := sx1
      refine hV_to (lv' := [(0, .ref (q 0)), (1, .int 14)]) rfl (congrArg (fun z => ([(0, .ref (q 0)), (1, .int z)] : List (Nat × Value))) sx1) rfl ?_
      refine haload_n X dX8_count_151 rfl ?_
      refine hcallV0 (C := RX8) (T := TX8) (N := 14) (As := []) (rest := []) (st' := [.int (wopE n E)]) (w := mW G q E) X (q0 := 0) (kX8_withoutPower l G q E n c (by first | assumption | exact h.hn | exact h.h4 | omega)) gX8_count_X8_withoutPower rfl (n := 0) (by decide +kernel) (by decide) rfl rfl rfl rfl (Nat.le_of_ble_eq_true rfl) dX8_count_152 rfl rfl (by decide) rfl ?_
      refine hiret X dX8_count_155 ⟨congrArg (fun z => some (Value.int z)) (?_ : (wopE n E) = couE n c E x), ?_⟩
      · simp [couE, sx1]
      rfl
    · refine htableIn (off := 155) (tgt := 156) X dX8_count_1 (by rw [sx1]; decide) (by rw [sx1]; decide) (by rw [sx1]; decide) (by decide) ?_
      have sx1 : (x : Int32) = 15 := sx1
      refine hV_to (lv' := [(0, .ref (q 0)), (1, .int 15)]) rfl (congrArg (fun z => ([(0, .ref (q 0)), (1, .int z)] : List (Nat × Value))) sx1) rfl ?_
      refine haload_n X dX8_count_156 rfl ?_
      refine hget1 X (T := TX8) (N := 14) iX8 0 rfl rfl 0 (by decide) (by decide +kernel) rfl dX8_count_157 ?_
      refine hiload_n X dX8_count_160 rfl ?_
      refine hbipush (v := 15) X dX8_count_161 rfl ?_
      refine hisub X dX8_count_163 ?_
      refine hV_st (st' := [.int 0, .ref (q 1)]) rfl ?_
      refine hiald (n := 250) (f := E 0) X 1 rfl 0 rfl (by omega) (by decide) dX8_count_164 ?_
      refine hiret X dX8_count_165 ⟨congrArg (fun z => some (Value.int z)) (?_ : (E 0 0) = couE n c E x), ?_⟩
      · simp [couE, sx1]
      rfl
    · refine htableIn (off := 155) (tgt := 156) X dX8_count_1 (by rw [sx1]; decide) (by rw [sx1]; decide) (by rw [sx1]; decide) (by decide) ?_
      have sx1 : (x : Int32) = 16 := sx1
      refine hV_to (lv' := [(0, .ref (q 0)), (1, .int 16)]) rfl (congrArg (fun z => ([(0, .ref (q 0)), (1, .int z)] : List (Nat × Value))) sx1) rfl ?_
      refine haload_n X dX8_count_156 rfl ?_
      refine hget1 X (T := TX8) (N := 14) iX8 0 rfl rfl 0 (by decide) (by decide +kernel) rfl dX8_count_157 ?_
      refine hiload_n X dX8_count_160 rfl ?_
      refine hbipush (v := 15) X dX8_count_161 rfl ?_
      refine hisub X dX8_count_163 ?_
      refine hV_st (st' := [.int 1, .ref (q 1)]) rfl ?_
      refine hiald (n := 250) (f := E 0) X 1 rfl 1 rfl (by omega) (by decide) dX8_count_164 ?_
      refine hiret X dX8_count_165 ⟨congrArg (fun z => some (Value.int z)) (?_ : (E 0 1) = couE n c E x), ?_⟩
      · simp [couE, sx1]
      rfl
    · refine htableIn (off := 155) (tgt := 156) X dX8_count_1 (by rw [sx1]; decide) (by rw [sx1]; decide) (by rw [sx1]; decide) (by decide) ?_
      have sx1 : (x : Int32) = 17 := sx1
      refine hV_to (lv' := [(0, .ref (q 0)), (1, .int 17)]) rfl (congrArg (fun z => ([(0, .ref (q 0)), (1, .int z)] : List (Nat × Value))) sx1) rfl ?_
      refine haload_n X dX8_count_156 rfl ?_
      refine hget1 X (T := TX8) (N := 14) iX8 0 rfl rfl 0 (by decide) (by decide +kernel) rfl dX8_count_157 ?_
      refine hiload_n X dX8_count_160 rfl ?_
      refine hbipush (v := 15) X dX8_count_161 rfl ?_
      refine hisub X dX8_count_163 ?_
      refine hV_st (st' := [.int 2, .ref (q 1)]) rfl ?_
      refine hiald (n := 250) (f := E 0) X 1 rfl 2 rfl (by omega) (by decide) dX8_count_164 ?_
      refine hiret X dX8_count_165 ⟨congrArg (fun z => some (Value.int z)) (?_ : (E 0 2) = couE n c E x), ?_⟩
      · simp [couE, sx1]
      rfl
    · refine htableIn (off := 165) (tgt := 166) X dX8_count_1 (by rw [sx1]; decide) (by rw [sx1]; decide) (by rw [sx1]; decide) (by decide) ?_
      have sx1 : (x : Int32) = 18 := sx1
      refine hV_to (lv' := [(0, .ref (q 0)), (1, .int 18)]) rfl (congrArg (fun z => ([(0, .ref (q 0)), (1, .int z)] : List (Nat × Value))) sx1) rfl ?_
      refine haload_n X dX8_count_166 rfl ?_
      refine hget1 X (T := TX8) (N := 14) iX8 0 rfl rfl 7 (by decide) (by decide +kernel) rfl dX8_count_167 ?_
      refine hiret X dX8_count_170 ⟨congrArg (fun z => some (Value.int z)) (?_ : (E 6 1) = couE n c E x), ?_⟩
      · simp [couE, sx1]
      rfl
    · refine htableIn (off := 170) (tgt := 171) X dX8_count_1 (by rw [sx1]; decide) (by rw [sx1]; decide) (by rw [sx1]; decide) (by decide) ?_
      have sx1 : (x : Int32) = 19 := sx1
      refine hV_to (lv' := [(0, .ref (q 0)), (1, .int 19)]) rfl (congrArg (fun z => ([(0, .ref (q 0)), (1, .int z)] : List (Nat × Value))) sx1) rfl ?_
      refine haload_n X dX8_count_171 rfl ?_
      refine hget1 X (T := TX8) (N := 14) iX8 0 rfl rfl 3 (by decide) (by decide +kernel) rfl dX8_count_172 ?_
      refine hiret X dX8_count_175 ⟨congrArg (fun z => some (Value.int z)) (?_ : (E 6 0) = couE n c E x), ?_⟩
      · simp [couE, sx1]
      rfl

set_option maxHeartbeats 4000000 in
set_option maxRecDepth 100000 in
theorem kX8_waitsFor (l : Launch) (G : hG) (q : Nat → Nat) (E : hF) (n c : Nat) (h : mOk n c E) (x : Int32) : hM l G yX8_waitsFor wsX8_waitsFor ({ frames := 4, cells := 0, slots := 0, locals := 107 }) (mW G q E) [.ref (q 0), .int x] (hR (some (.int (waiE n E x))) (mW G q E)) := by
  refine hM_of (cc := cX8_waitsFor) (maxL := 2) (ret := (some .int)) (by decide) rfl (Nat.le_of_ble_eq_true rfl) ?_
  intro pp ee ss mm aa bb me cd X hin
  have iX8 : ∀ w ∈ wsX80, w ∈ wsX8_waitsFor := by decide +kernel
  have hn := h.hn
  refine haload_n X dX8_waitsFor_0 rfl ?_
  refine hiload_n X dX8_waitsFor_1 rfl ?_
  refine hcallV0 (C := RX8) (T := TX8) (N := 14) (As := [.int x]) (rest := []) (st' := [.int (bI (wI x 0 (E 0 4 - 1)))]) (w := mW G q E) X (q0 := 0) (kX8_isStand l G q E x) gX8_waitsFor_X8_isStand rfl (n := 1) (by decide +kernel) (by decide) rfl rfl rfl rfl (Nat.le_of_ble_eq_true rfl) dX8_waitsFor_2 rfl rfl (by decide) rfl ?_
  refine hif_neB (tgt := 10) X dX8_waitsFor_5 (by decide) (fun c1 => ?_) (fun c1 => ?_)
  · obtain ⟨j, hj, hx⟩ := wI_in (n := n) (by omega) (h.h4 ▸ c1)
    refine haload_n X dX8_waitsFor_10 rfl ?_
    refine hiload_n X dX8_waitsFor_11 rfl ?_
    refine hiconst (v := 4) X dX8_waitsFor_12 rfl ?_
    refine hV_st (st' := [.int 4, .int (nI j), .ref (q 0)]) (congrArg (fun z => ([.int 4, Value.int z, .ref (q 0)] : List Value)) (hx)) ?_
    refine hcallV0 (C := RX8) (T := TX8) (N := 14) (As := [.int (nI j), .int (nI 4)]) (rest := []) (st' := [.int (E 0 (8 + 10 * j + 4))]) (w := mW G q E) X (q0 := 0) (kX8_part l G q E j 4 (by first | assumption | omega | exact h.h4 | exact h.hb _ (by omega)) (by first | assumption | omega | exact h.h4 | exact h.hb _ (by omega))) gX8_waitsFor_X8_part rfl (n := 2) (by decide +kernel) (by decide) rfl rfl rfl rfl (Nat.le_of_ble_eq_true rfl) dX8_waitsFor_13 rfl rfl (by decide) rfl ?_
    rcases sw_cases (E 0 (8 + 10 * j + 4)) 4 (by decide) with sx2 | ⟨kk2, hk2, sx2⟩
    · refine htableOut (tgt := 98) X dX8_waitsFor_16 sx2 (by decide) ?_
      have sx2_0 : ¬ (E 0 (8 + 10 * j + 4) : Int32) = 0 := fun e9 => by rw [e9] at sx2; exact absurd sx2 (by decide)
      have sx2_1 : ¬ (E 0 (8 + 10 * j + 4) : Int32) = 1 := fun e9 => by rw [e9] at sx2; exact absurd sx2 (by decide)
      have sx2_2 : ¬ (E 0 (8 + 10 * j + 4) : Int32) = 2 := fun e9 => by rw [e9] at sx2; exact absurd sx2 (by decide)
      have sx2_3 : ¬ (E 0 (8 + 10 * j + 4) : Int32) = 3 := fun e9 => by rw [e9] at sx2; exact absurd sx2 (by decide)
      have sx2_4 : ¬ (E 0 (8 + 10 * j + 4) : Int32) = 4 := fun e9 => by rw [e9] at sx2; exact absurd sx2 (by decide)
      refine hiconst (v := 0) X dX8_waitsFor_98 rfl ?_
      refine hiret X dX8_waitsFor_99 ⟨congrArg (fun z => some (Value.int z)) (?_ : 0 = waiE n E x), ?_⟩
      · first | (simp [waiE, ← h.h4, c1, sx2_0, sx2_1, sx2_2, sx2_3, sx2_4]; done) | (subst hx; simp [waiE, ← h.h4, nI_clamp (show j < 2 ^ 31 by omega), c1, sx2_0, sx2_1, sx2_2, sx2_3, sx2_4]; done)
      rfl
    · rcases (show kk2 = 0 ∨ kk2 = 1 ∨ kk2 = 2 ∨ kk2 = 3 ∨ kk2 = 4 by omega) with rfl | rfl | rfl | rfl | rfl
      · refine htableIn (off := 36) (tgt := 52) X dX8_waitsFor_16 (by rw [sx2]; decide) (by rw [sx2]; decide) (by rw [sx2]; decide) (by decide) ?_
        have sx2 : (E 0 (8 + 10 * j + 4) : Int32) = 0 := sx2
        refine hiconst (v := 1) X dX8_waitsFor_52 rfl ?_
        refine hiret X dX8_waitsFor_53 ⟨congrArg (fun z => some (Value.int z)) (?_ : 1 = waiE n E x), ?_⟩
        · first | (simp [waiE, ← h.h4, c1, sx2]; done) | (subst hx; simp [waiE, ← h.h4, nI_clamp (show j < 2 ^ 31 by omega), c1, sx2]; done)
        rfl
      · refine htableIn (off := 38) (tgt := 54) X dX8_waitsFor_16 (by rw [sx2]; decide) (by rw [sx2]; decide) (by rw [sx2]; decide) (by decide) ?_
        have sx2 : (E 0 (8 + 10 * j + 4) : Int32) = 1 := sx2
        refine hiconst (v := 2) X dX8_waitsFor_54 rfl ?_
        refine hiret X dX8_waitsFor_55 ⟨congrArg (fun z => some (Value.int z)) (?_ : 2 = waiE n E x), ?_⟩
        · first | (simp [waiE, ← h.h4, c1, sx2]; done) | (subst hx; simp [waiE, ← h.h4, nI_clamp (show j < 2 ^ 31 by omega), c1, sx2]; done)
        rfl
      · refine htableIn (off := 40) (tgt := 56) X dX8_waitsFor_16 (by rw [sx2]; decide) (by rw [sx2]; decide) (by rw [sx2]; decide) (by decide) ?_
        have sx2 : (E 0 (8 + 10 * j + 4) : Int32) = 2 := sx2
        refine haload_n X dX8_waitsFor_56 rfl ?_
        refine hiload_n X dX8_waitsFor_57 rfl ?_
        refine hV_st (st' := [.int (nI j), .ref (q 0)]) (congrArg (fun z => ([Value.int z, .ref (q 0)] : List Value)) (hx)) ?_
        refine hcallV0 (C := RX8) (T := TX8) (N := 14) (As := [.int (nI j)]) (rest := []) (st' := [.int (bI (hasB E j))]) (w := mW G q E) X (q0 := 0) (kX8_hasBase l G q E j n (by first | assumption | omega | exact h.h4 | exact h.hb _ (by omega)) (by first | assumption | omega | exact h.h4 | exact h.hb _ (by omega)) (by first | assumption | omega | exact h.h4 | exact h.hb _ (by omega))) gX8_waitsFor_X8_hasBase rfl (n := 1) (by decide +kernel) (by decide) rfl rfl rfl rfl (Nat.le_of_ble_eq_true rfl) dX8_waitsFor_58 rfl rfl (by decide) rfl ?_
        refine hif_eqB (tgt := 68) X dX8_waitsFor_61 (by decide) (fun c3 => ?_) (fun c3 => ?_)
        · refine hiconst (v := 3) X dX8_waitsFor_68 rfl ?_
          refine hiret X dX8_waitsFor_69 ⟨congrArg (fun z => some (Value.int z)) (?_ : 3 = waiE n E x), ?_⟩
          · first | (simp [waiE, ← h.h4, c1, sx2, c3]; done) | (subst hx; simp [waiE, ← h.h4, nI_clamp (show j < 2 ^ 31 by omega), c1, sx2, c3]; done)
          rfl
        · refine hiconst (v := 4) X dX8_waitsFor_64 rfl ?_
          refine hgoto (tgt := 69) X dX8_waitsFor_65 (by decide) ?_
          refine hiret X dX8_waitsFor_69 ⟨congrArg (fun z => some (Value.int z)) (?_ : 4 = waiE n E x), ?_⟩
          · first | (simp [waiE, ← h.h4, c1, sx2, c3]; done) | (subst hx; simp [waiE, ← h.h4, nI_clamp (show j < 2 ^ 31 by omega), c1, sx2, c3]; done)
          rfl
      · refine htableIn (off := 82) (tgt := 98) X dX8_waitsFor_16 (by rw [sx2]; decide) (by rw [sx2]; decide) (by rw [sx2]; decide) (by decide) ?_
        have sx2 : (E 0 (8 + 10 * j + 4) : Int32) = 3 := sx2
        refine hiconst (v := 0) X dX8_waitsFor_98 rfl ?_
        refine hiret X dX8_waitsFor_99 ⟨congrArg (fun z => some (Value.int z)) (?_ : 0 = waiE n E x), ?_⟩
        · first | (simp [waiE, ← h.h4, c1, sx2]; done) | (subst hx; simp [waiE, ← h.h4, nI_clamp (show j < 2 ^ 31 by omega), c1, sx2]; done)
        rfl
      · refine htableIn (off := 54) (tgt := 70) X dX8_waitsFor_16 (by rw [sx2]; decide) (by rw [sx2]; decide) (by rw [sx2]; decide) (by decide) ?_
        have sx2 : (E 0 (8 + 10 * j + 4) : Int32) = 4 := sx2
        refine haload_n X dX8_waitsFor_70 rfl ?_
        refine hget1 X (T := TX8) (N := 14) iX8 0 rfl rfl 0 (by decide) (by decide +kernel) rfl dX8_waitsFor_71 ?_
        refine hbipush (v := 6) X dX8_waitsFor_74 rfl ?_
        refine hiald (n := 250) (f := E 0) X 1 rfl 6 rfl (by omega) (by decide) dX8_waitsFor_76 ?_
        refine hif_ne (tgt := 84) X dX8_waitsFor_77 (by decide) (fun c4 => ?_) (fun c4 => ?_)
        · refine haload_n X dX8_waitsFor_84 rfl ?_
          refine hiload_n X dX8_waitsFor_85 rfl ?_
          refine hcallV0 (C := RX8) (T := TX8) (N := 14) (As := [.int x]) (rest := []) (st' := [.int (stoE n E x)]) (w := mW G q E) X (q0 := 0) (kX8_standingOn l G q E n x (by first | assumption | omega | exact h.h4 | exact h.hb _ (by omega)) (by first | assumption | omega | exact h.h4 | exact h.hb _ (by omega))) gX8_waitsFor_X8_standingOn rfl (n := 1) (by decide +kernel) (by decide) rfl rfl rfl rfl (Nat.le_of_ble_eq_true rfl) dX8_waitsFor_86 rfl rfl (by decide) rfl ?_
          refine hif_ne (tgt := 96) X dX8_waitsFor_89 (by decide) (fun c5 => ?_) (fun c5 => ?_)
          · refine hiconst (v := 5) X dX8_waitsFor_96 rfl ?_
            refine hiret X dX8_waitsFor_97 ⟨congrArg (fun z => some (Value.int z)) (?_ : 5 = waiE n E x), ?_⟩
            · first | (simp [waiE, ← h.h4, c1, sx2, c4, c5]; done) | (subst hx; simp [waiE, ← h.h4, nI_clamp (show j < 2 ^ 31 by omega), c1, sx2, c4, c5]; done)
            rfl
          · refine hiconst (v := 4) X dX8_waitsFor_92 rfl ?_
            refine hgoto (tgt := 97) X dX8_waitsFor_93 (by decide) ?_
            refine hiret X dX8_waitsFor_97 ⟨congrArg (fun z => some (Value.int z)) (?_ : 4 = waiE n E x), ?_⟩
            · first | (simp [waiE, ← h.h4, c1, sx2, c4, c5]; done) | (subst hx; simp [waiE, ← h.h4, nI_clamp (show j < 2 ^ 31 by omega), c1, sx2, c4, c5]; done)
            rfl
        · refine hiconst (v := 0) X dX8_waitsFor_80 rfl ?_
          refine hgoto (tgt := 97) X dX8_waitsFor_81 (by decide) ?_
          refine hiret X dX8_waitsFor_97 ⟨congrArg (fun z => some (Value.int z)) (?_ : 0 = waiE n E x), ?_⟩
          · first | (simp [waiE, ← h.h4, c1, sx2, c4]; done) | (subst hx; simp [waiE, ← h.h4, nI_clamp (show j < 2 ^ 31 by omega), c1, sx2, c4]; done)
          rfl
  · refine hiconst (v := (-1)) X dX8_waitsFor_8 rfl ?_
    refine hiret X dX8_waitsFor_9 ⟨congrArg (fun z => some (Value.int z)) (?_ : (-1) = waiE n E x), ?_⟩
    · first | (simp [waiE, ← h.h4, c1]; done) | (subst hx; simp [waiE, ← h.h4, nI_clamp (show j < 2 ^ 31 by omega), c1]; done)
    rfl

set_option maxHeartbeats 4000000 in
set_option maxRecDepth 100000 in
theorem kX8_isAllDone (l : Launch) (G : hG) (q : Nat → Nat) (E : hF) (n c : Nat) (h : mOk n c E) : hM l G yX8_isAllDone wsX8_isAllDone ({ frames := 4, cells := 0, slots := 0, locals := 107 }) (mW G q E) [.ref (q 0)] (hR (some (.int (bI (adP n E)))) (mW G q E)) := by
  refine hM_of (cc := cX8_isAllDone) (maxL := 1) (ret := (some .boolean)) (by decide) rfl (Nat.le_of_ble_eq_true rfl) ?_
  intro pp ee ss mm aa bb me cd X hin
  have iX8 : ∀ w ∈ wsX80, w ∈ wsX8_isAllDone := by decide +kernel
  refine haload_n X dX8_isAllDone_0 rfl ?_
  refine hbipush (v := 6) X dX8_isAllDone_1 rfl ?_
  refine hcallV0 (C := RX8) (T := TX8) (N := 14) (As := [.int 6]) (rest := []) (st' := [.int (cntE n E 6)]) (w := mW G q E) X (q0 := 0) (kX8_withHow l G q E n 6 (by first | exact h.hn | exact h.h4 | skip) (by first | exact h.hn | exact h.h4 | skip)) gX8_isAllDone_X8_withHow rfl (n := 1) (by decide +kernel) (by decide) rfl rfl rfl rfl (Nat.le_of_ble_eq_true rfl) dX8_isAllDone_3 rfl rfl (by decide) rfl ?_
  refine haload_n X dX8_isAllDone_6 rfl ?_
  refine hget1 X (T := TX8) (N := 14) iX8 0 rfl rfl 0 (by decide) (by decide +kernel) rfl dX8_isAllDone_7 ?_
  refine hbipush (v := 6) X dX8_isAllDone_10 rfl ?_
  refine hiald (n := 250) (f := E 0) X 1 rfl 6 rfl (by omega) (by decide) dX8_isAllDone_12 ?_
  refine hiconst (v := 1) X dX8_isAllDone_13 rfl ?_
  refine hicmp_ne (tgt := 21) X dX8_isAllDone_14 (by decide) (fun c1 => ?_) (fun c1 => ?_)
  · refine haload_n X dX8_isAllDone_21 rfl ?_
    refine hiconst (v := 4) X dX8_isAllDone_22 rfl ?_
    refine hcallV0 (C := RX8) (T := TX8) (N := 14) (As := [.int 4]) (rest := [.int (cntE n E 6)]) (st' := [.int (cntE n E 4), .int (cntE n E 6)]) (w := mW G q E) X (q0 := 0) (kX8_withHow l G q E n 4 (by first | exact h.hn | exact h.h4 | skip) (by first | exact h.hn | exact h.h4 | skip)) gX8_isAllDone_X8_withHow rfl (n := 1) (by decide +kernel) (by decide) rfl rfl rfl rfl (Nat.le_of_ble_eq_true rfl) dX8_isAllDone_23 rfl rfl (by decide) rfl ?_
    refine hiadd X dX8_isAllDone_26 ?_
    refine haload_n X dX8_isAllDone_27 rfl ?_
    refine hget1 X (T := TX8) (N := 14) iX8 0 rfl rfl 0 (by decide) (by decide +kernel) rfl dX8_isAllDone_28 ?_
    refine hiconst (v := 4) X dX8_isAllDone_31 rfl ?_
    refine hiald (n := 250) (f := E 0) X 1 rfl 4 rfl (by omega) (by decide) dX8_isAllDone_32 ?_
    refine hV_st (st' := [.int (nI n), .int ((cntE n E 6) + (cntE n E 4))]) (congrArg (fun z => Value.int z :: [.int ((cntE n E 6) + (cntE n E 4))]) (h.h4)) ?_
    refine hicmp_ne (tgt := 40) X dX8_isAllDone_33 (by decide) (fun c2 => ?_) (fun c2 => ?_)
    · refine hiconst (v := 0) X dX8_isAllDone_40 rfl ?_
      refine hzret X rfl dX8_isAllDone_41 ⟨congrArg (fun z => some (Value.int z)) (?_ : 0 = bI (adP n E)), ?_⟩
      · simp [bI, adP, c1, c2]
      rfl
    · refine hiconst (v := 1) X dX8_isAllDone_36 rfl ?_
      refine hgoto (tgt := 41) X dX8_isAllDone_37 (by decide) ?_
      refine hzret X rfl dX8_isAllDone_41 ⟨congrArg (fun z => some (Value.int z)) (?_ : 1 = bI (adP n E)), ?_⟩
      · simp [bI, adP, c1, c2]
      rfl
  · refine hiconst (v := 0) X dX8_isAllDone_17 rfl ?_
    refine hgoto (tgt := 26) X dX8_isAllDone_18 (by decide) ?_
    refine hiadd X dX8_isAllDone_26 ?_
    refine hV_st (st' := [.int (cntE n E 6)]) (congrArg (fun z => ([Value.int z] : List Value)) (Int32.add_zero _)) ?_
    refine haload_n X dX8_isAllDone_27 rfl ?_
    refine hget1 X (T := TX8) (N := 14) iX8 0 rfl rfl 0 (by decide) (by decide +kernel) rfl dX8_isAllDone_28 ?_
    refine hiconst (v := 4) X dX8_isAllDone_31 rfl ?_
    refine hiald (n := 250) (f := E 0) X 1 rfl 4 rfl (by omega) (by decide) dX8_isAllDone_32 ?_
    refine hV_st (st' := [.int (nI n), .int (cntE n E 6)]) (congrArg (fun z => Value.int z :: [.int (cntE n E 6)]) (h.h4)) ?_
    refine hicmp_ne (tgt := 40) X dX8_isAllDone_33 (by decide) (fun c3 => ?_) (fun c3 => ?_)
    · refine hiconst (v := 0) X dX8_isAllDone_40 rfl ?_
      refine hzret X rfl dX8_isAllDone_41 ⟨congrArg (fun z => some (Value.int z)) (?_ : 0 = bI (adP n E)), ?_⟩
      · simp [bI, adP, c1, c3]
      rfl
    · refine hiconst (v := 1) X dX8_isAllDone_36 rfl ?_
      refine hgoto (tgt := 41) X dX8_isAllDone_37 (by decide) ?_
      refine hzret X rfl dX8_isAllDone_41 ⟨congrArg (fun z => some (Value.int z)) (?_ : 1 = bI (adP n E)), ?_⟩
      · simp [bI, adP, c1, c3]
      rfl

