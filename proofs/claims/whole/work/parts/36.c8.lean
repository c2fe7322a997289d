set_option maxHeartbeats 4000000 in
set_option maxRecDepth 100000 in
theorem kX2_stateAt (l : Launch) (G : hG) (u : Nat → Nat) (k : Nat → Nat → Nat) (h : Nat → Nat) (x y : Nat) (N C : Nat → Nat) (Fs : Nat → hF) (n c : Nat) (F : hF) (hx : x < 7) (hy : y ≤ 6) (a : Nat) (ha : a < 7) : hM l G yX2_stateAt wsX2_stateAt ({ frames := 1, cells := 0, slots := 0, locals := 40 }) (hsW G u k h x y N C Fs n c F) [.ref (u 0), .int (nI a)] (hR (some (.ref (k a 0))) (hsW G u k h x y N C Fs n c F)) := by
  refine hM_of (cc := cX2_stateAt) (maxL := 2) (ret := (some (.object "HallBuilds$Hall"))) (by decide) rfl (Nat.le_of_ble_eq_true rfl) ?_
  intro pp ee ss mm aa bb me cd X hin
  have iX2 : ∀ w ∈ wsX20, w ∈ wsX2_stateAt := by decide +kernel
  refine hiload_n X dX2_stateAt_0 rfl ?_
  refine hif_lt (tgt := 22) X dX2_stateAt_1 (by decide) (fun c1 => ?_) (fun c1 => ?_)
  · exact (nI_pos (by omega) c1).elim
  · refine hiload_n X dX2_stateAt_4 rfl ?_
    refine haload_n X dX2_stateAt_5 rfl ?_
    refine hget1 X (T := TX2) (N := 3) iX2 0 rfl rfl 0 (by decide) (by decide +kernel) rfl dX2_stateAt_6 ?_
    refine hialen X 1 3 rfl rfl (v := 7) rfl dX2_stateAt_9 ?_
    refine hicmp_ge (tgt := 22) X dX2_stateAt_10 (by decide) (fun c2 => ?_) (fun c2 => ?_)
    · exact (nI_ge (a := a) (b := 7) (by omega) (by omega) c2).elim
    · refine haload_n X dX2_stateAt_13 rfl ?_
      refine hget1 X (T := TX2) (N := 3) iX2 0 rfl rfl 0 (by decide) (by decide +kernel) rfl dX2_stateAt_14 ?_
      refine hiload_n X dX2_stateAt_17 rfl ?_
      refine haald (n := 7) (f := fun i9 => some (k i9 0)) X 1 rfl a rfl (by omega) (by decide) dX2_stateAt_18 ?_
      refine hV_st (st' := [.ref (k a 0)]) rfl ?_
      refine hgoto (tgt := 23) X dX2_stateAt_19 (by decide) ?_
      exact haret X (Or.inl ⟨_, rfl⟩) (Or.inr ⟨_, rfl⟩) dX2_stateAt_23 ⟨rfl, rfl⟩

set_option maxHeartbeats 4000000 in
set_option maxRecDepth 100000 in
theorem kX2_prepare (l : Launch) (G : hG) (u : Nat → Nat) (k : Nat → Nat → Nat) (h : Nat → Nat) (x y : Nat) (N C : Nat → Nat) (Fs : Nat → hF) (n c : Nat) (F : hF) (hx : x < 7) (hy : y ≤ 6) (hb : F 18 1 = 0 ∨ F 18 1 = 1) : hM l G yX2_prepare wsX2_prepare ({ frames := 4, cells := 0, slots := 0, locals := 123 }) (hsW G u k h x y N C Fs n c F) [.ref (u 0), .ref (h 0)] (hR none (hsW G u k h x y (up N x n) (up C x c) (up Fs x (hcF F (Fs x))) n c F)) := by
  refine hM_of (cc := cX2_prepare) (maxL := 3) (ret := none) (by decide) rfl (Nat.le_of_ble_eq_true rfl) ?_
  intro pp ee ss mm aa bb me cd X hin
  have iX2 : ∀ w ∈ wsX20, w ∈ wsX2_prepare := by decide +kernel
  refine haload_n X dX2_prepare_0 rfl ?_
  refine haload_n X dX2_prepare_1 rfl ?_
  refine hget1 X (T := TX2) (N := 3) iX2 0 rfl rfl 1 (by decide) (by decide +kernel) rfl dX2_prepare_2 ?_
  refine hcallV0 (C := RX2) (T := TX2) (N := 3) (As := [.int (nI x)]) (rest := []) (st' := [.ref (k x 0)]) (w := hsW G u k h x y N C Fs n c F) X (q0 := 0) (kX2_stateAt l G u k h x y N C Fs n c F (by omega) (by omega) x (by omega)) gX2_prepare_X2_stateAt rfl (n := 1) (by decide +kernel) (by decide) rfl rfl rfl rfl (Nat.le_of_ble_eq_true rfl) dX2_prepare_5 rfl rfl (by decide) rfl ?_
  refine hastore_n (lv' := [(2, .ref (k x 0)), (0, .ref (u 0)), (1, .ref (h 0))]) X dX2_prepare_8 (by decide) rfl ?_
  refine haload_n X dX2_prepare_9 rfl ?_
  refine hifnull X dX2_prepare_10 ?_
  refine haload_n X dX2_prepare_13 rfl ?_
  refine haload_n X dX2_prepare_14 rfl ?_
  refine hV_perm (ws' := (haW G h n c F ++ haW G (k x) (N x) (C x) (Fs x)) ++ (huW G u k x y ++ hlX G k N C Fs x 7)) (pmHr G u k h _ _ _ _ _ _ _ _ (hx)) ?_
  refine hcallVr (C := RX1) (T := TX1) (N := 7) (As := [.ref (h 0)]) (rest := []) (st' := []) (w := haW G h n c F ++ haW G (k x) n c (hcF F (Fs x))) X (q0 := 21) (kX1_copyFrom l G (k x) h n c (N x) (C x) F (Fs x) hb) gX2_prepare_X1_copyFrom rfl (n := 1) (by decide +kernel) (by decide) rfl rfl rfl rfl (Nat.le_of_ble_eq_true rfl) dX2_prepare_15 rfl rfl (by decide) rfl ?_
  refine hV_perm (ws' := hsW G u k h x y (up N x n) (up C x c) (up Fs x (hcF F (Fs x))) n c F) (pmHr' G u k h _ _ _ _ _ _ _ _ _ _ _ (hx)) ?_
  refine hvret X dX2_prepare_18 ⟨rfl, ?_⟩
  rfl

set_option maxHeartbeats 4000000 in
set_option maxRecDepth 100000 in
theorem kX2_settle (l : Launch) (G : hG) (u : Nat → Nat) (k : Nat → Nat → Nat) (h : Nat → Nat) (x y : Nat) (N C : Nat → Nat) (Fs : Nat → hF) (n c : Nat) (F : hF) (hx : x < 7) (hy : y ≤ 6) (a : Int32) : hM l G yX2_settle wsX2_settle ({ frames := 1, cells := 0, slots := 0, locals := 40 }) (hsW G u k h x y N C Fs n c F) [.ref (u 0), .int a] (hR (some (.int a)) (hsW G u k h (rgN a x) (rgK a y) N C Fs n c F)) := by
  refine hM_of (cc := cX2_settle) (maxL := 2) (ret := (some .int)) (by decide) rfl (Nat.le_of_ble_eq_true rfl) ?_
  intro pp ee ss mm aa bb me cd X hin
  have iX2 : ∀ w ∈ wsX20, w ∈ wsX2_settle := by decide +kernel
  refine hiload_n X dX2_settle_0 rfl ?_
  refine hif_ge (tgt := 6) X dX2_settle_1 (by decide) (fun c1 => ?_) (fun c1 => ?_)
  · have ha9 : ¬ a < 0 := Int32.not_lt.mpr c1
    refine haload_n X dX2_settle_6 rfl ?_
    refine haload_n X dX2_settle_7 rfl ?_
    refine hget1 X (T := TX2) (N := 3) iX2 0 rfl rfl 1 (by decide) (by decide +kernel) rfl dX2_settle_8 ?_
    refine hiconst (v := 1) X dX2_settle_11 rfl ?_
    refine hiadd X dX2_settle_12 ?_
    refine haload_n X dX2_settle_13 rfl ?_
    refine hget1 X (T := TX2) (N := 3) iX2 0 rfl rfl 0 (by decide) (by decide +kernel) rfl dX2_settle_14 ?_
    refine hialen X 1 3 rfl rfl (v := 7) rfl dX2_settle_17 ?_
    refine hicmp_ge (tgt := 30) X dX2_settle_18 (by decide) (fun c2 => ?_) (fun c2 => ?_)
    · have hx1 : ¬ x + 1 < 7 := Nat.not_lt.mpr ((nI_leI (a := 7) (b := x + 1) (by omega) (by omega)).mp (by rw [← nI_1 x]; exact c2))
      refine hiconst (v := 0) X dX2_settle_30 rfl ?_
      refine hput1 X (T := TX2) (N := 3) iX2 tyX2 tyX2_ok nmX2 0 rfl rfl 1 (by decide) (by decide +kernel) (by decide +kernel) rfl rfl (Nat.le_of_ble_eq_true rfl) dX2_settle_31 (ws' := hsW G u k h 0 y N C Fs n c F) (hsWf1 G u k h _ _ _ _ _ _ _ _ _) ?_
      refine haload_n X dX2_settle_34 rfl ?_
      refine haload_n X dX2_settle_35 rfl ?_
      refine hget1 X (T := TX2) (N := 3) iX2 0 rfl rfl 2 (by decide) (by decide +kernel) rfl dX2_settle_36 ?_
      refine hiconst (v := 1) X dX2_settle_39 rfl ?_
      refine hiadd X dX2_settle_40 ?_
      refine hbipush (v := 6) X dX2_settle_41 rfl ?_
      refine hmmin X (by decide +kernel) (by decide +kernel) (by decide +kernel) (by decide +kernel) (by decide) (Nat.le_of_ble_eq_true rfl) (by decide) (by decide) dX2_settle_43 ?_
      refine hV_st (st' := [.int (nI (min (y + 1) 6)), .ref (u 0)]) (congrArg (fun z => ([Value.int z, .ref (u 0)] : List Value)) (by rw [nI_1 y]; exact rg_min hy)) ?_
      refine hput1 X (T := TX2) (N := 3) iX2 tyX2 tyX2_ok nmX2 0 rfl rfl 2 (by decide) (by decide +kernel) (by decide +kernel) rfl rfl (Nat.le_of_ble_eq_true rfl) dX2_settle_46 (ws' := hsW G u k h 0 (min (y + 1) 6) N C Fs n c F) (hsWf2 G u k h _ _ _ _ _ _ _ _ _) ?_
      refine hiload_n X dX2_settle_49 rfl ?_
      refine hiret X dX2_settle_50 ⟨rfl, ?_⟩
      simp [rgN, rgK, ha9, hx1]
    · have hx1 : x + 1 < 7 := Nat.lt_of_not_le fun z9 => c2 (by rw [nI_1 x]; exact (nI_leI (a := 7) (b := x + 1) (by omega) (by omega)).mpr z9)
      refine haload_n X dX2_settle_21 rfl ?_
      refine hget1 X (T := TX2) (N := 3) iX2 0 rfl rfl 1 (by decide) (by decide +kernel) rfl dX2_settle_22 ?_
      refine hiconst (v := 1) X dX2_settle_25 rfl ?_
      refine hiadd X dX2_settle_26 ?_
      refine hgoto (tgt := 31) X dX2_settle_27 (by decide) ?_
      refine hV_st (st' := [.int (nI (x + 1)), .ref (u 0)]) (congrArg (fun v9 => Value.int v9 :: [.ref (u 0)]) (nadd rfl rfl)) ?_
      refine hput1 X (T := TX2) (N := 3) iX2 tyX2 tyX2_ok nmX2 0 rfl rfl 1 (by decide) (by decide +kernel) (by decide +kernel) rfl rfl (Nat.le_of_ble_eq_true rfl) dX2_settle_31 (ws' := hsW G u k h (x + 1) y N C Fs n c F) (hsWf1 G u k h _ _ _ _ _ _ _ _ _) ?_
      refine haload_n X dX2_settle_34 rfl ?_
      refine haload_n X dX2_settle_35 rfl ?_
      refine hget1 X (T := TX2) (N := 3) iX2 0 rfl rfl 2 (by decide) (by decide +kernel) rfl dX2_settle_36 ?_
      refine hiconst (v := 1) X dX2_settle_39 rfl ?_
      refine hiadd X dX2_settle_40 ?_
      refine hbipush (v := 6) X dX2_settle_41 rfl ?_
      refine hmmin X (by decide +kernel) (by decide +kernel) (by decide +kernel) (by decide +kernel) (by decide) (Nat.le_of_ble_eq_true rfl) (by decide) (by decide) dX2_settle_43 ?_
      refine hV_st (st' := [.int (nI (min (y + 1) 6)), .ref (u 0)]) (congrArg (fun z => ([Value.int z, .ref (u 0)] : List Value)) (by rw [nI_1 y]; exact rg_min hy)) ?_
      refine hput1 X (T := TX2) (N := 3) iX2 tyX2 tyX2_ok nmX2 0 rfl rfl 2 (by decide) (by decide +kernel) (by decide +kernel) rfl rfl (Nat.le_of_ble_eq_true rfl) dX2_settle_46 (ws' := hsW G u k h (x + 1) (min (y + 1) 6) N C Fs n c F) (hsWf2 G u k h _ _ _ _ _ _ _ _ _) ?_
      refine hiload_n X dX2_settle_49 rfl ?_
      refine hiret X dX2_settle_50 ⟨rfl, ?_⟩
      simp [rgN, rgK, ha9, hx1]
  · have ha9 : a < 0 := Int32.not_le.mp c1
    refine hiload_n X dX2_settle_4 rfl ?_
    refine hiret X dX2_settle_5 ⟨rfl, ?_⟩
    simp [rgN, rgK, ha9]

set_option maxHeartbeats 4000000 in
set_option maxRecDepth 100000 in
theorem kX2_stepBack (l : Launch) (G : hG) (u : Nat → Nat) (k : Nat → Nat → Nat) (h : Nat → Nat) (x y : Nat) (N C : Nat → Nat) (Fs : Nat → hF) (n c : Nat) (F : hF) (hx : x < 7) (hy : y ≤ 6) (hbs : ∀ i, Fs i 18 1 = 0 ∨ Fs i 18 1 = 1) : hM l G yX2_stepBack wsX2_stepBack ({ frames := 4, cells := 0, slots := 0, locals := 123 }) (hsW G u k h x y N C Fs n c F) [.ref (u 0), .ref (h 0)] (hR (some (.int (bkR y))) (hsW G u k h (bkN x y) (y - 1) N C Fs (if y = 0 then n else N (bkN x y)) (if y = 0 then c else C (bkN x y)) (if y = 0 then F else hcF (Fs (bkN x y)) F))) := by
  refine hM_of (cc := cX2_stepBack) (maxL := 3) (ret := (some .int)) (by decide) rfl (Nat.le_of_ble_eq_true rfl) ?_
  intro pp ee ss mm aa bb me cd X hin
  have iX2 : ∀ w ∈ wsX20, w ∈ wsX2_stepBack := by decide +kernel
  refine haload_n X dX2_stepBack_0 rfl ?_
  refine hget1 X (T := TX2) (N := 3) iX2 0 rfl rfl 2 (by decide) (by decide +kernel) rfl dX2_stepBack_1 ?_
  refine hif_gt (tgt := 10) X dX2_stepBack_4 (by decide) (fun c1 => ?_) (fun c1 => ?_)
  · have hy0 : ¬ y = 0 := fun z9 => absurd c1 (by rw [z9]; decide)
    refine haload_n X dX2_stepBack_10 rfl ?_
    refine haload_n X dX2_stepBack_11 rfl ?_
    refine hget1 X (T := TX2) (N := 3) iX2 0 rfl rfl 1 (by decide) (by decide +kernel) rfl dX2_stepBack_12 ?_
    refine hif_le (tgt := 27) X dX2_stepBack_15 (by decide) (fun c2 => ?_) (fun c2 => ?_)
    · have hx0 : x = 0 := (Nat.eq_zero_or_pos x).resolve_right fun z9 => absurd ((nI_ltI (a := 0) (b := x) (by omega) (by omega)).mpr z9) (Int32.not_lt.mpr c2)
      refine haload_n X dX2_stepBack_27 rfl ?_
      refine hget1 X (T := TX2) (N := 3) iX2 0 rfl rfl 0 (by decide) (by decide +kernel) rfl dX2_stepBack_28 ?_
      refine hialen X 1 3 rfl rfl (v := 7) rfl dX2_stepBack_31 ?_
      refine hiconst (v := 1) X dX2_stepBack_32 rfl ?_
      refine hisub X dX2_stepBack_33 ?_
      refine hV_st (st' := [.int 6, .ref (u 0)]) rfl ?_
      refine hput1 X (T := TX2) (N := 3) iX2 tyX2 tyX2_ok nmX2 0 rfl rfl 1 (by decide) (by decide +kernel) (by decide +kernel) rfl rfl (Nat.le_of_ble_eq_true rfl) dX2_stepBack_34 (ws' := hsW G u k h 6 y N C Fs n c F) (hsWf1 G u k h _ _ _ _ _ _ _ _ _) ?_
      refine haload_n X dX2_stepBack_37 rfl ?_
      refine hdup X dX2_stepBack_38 rfl ?_
      refine hget1 X (T := TX2) (N := 3) iX2 0 rfl rfl 2 (by decide) (by decide +kernel) rfl dX2_stepBack_39 ?_
      refine hiconst (v := 1) X dX2_stepBack_42 rfl ?_
      refine hisub X dX2_stepBack_43 ?_
      refine hV_st (st' := [.int (nI (y - 1)), .ref (u 0)]) (congrArg (fun z => ([Value.int z, .ref (u 0)] : List Value)) (nsub rfl rfl (by omega))) ?_
      refine hput1 X (T := TX2) (N := 3) iX2 tyX2 tyX2_ok nmX2 0 rfl rfl 2 (by decide) (by decide +kernel) (by decide +kernel) rfl rfl (Nat.le_of_ble_eq_true rfl) dX2_stepBack_44 (ws' := hsW G u k h 6 (y - 1) N C Fs n c F) (hsWf2 G u k h _ _ _ _ _ _ _ _ _) ?_
      refine haload_n X dX2_stepBack_47 rfl ?_
      refine haload_n X dX2_stepBack_48 rfl ?_
      refine hget1 X (T := TX2) (N := 3) iX2 0 rfl rfl 1 (by decide) (by decide +kernel) rfl dX2_stepBack_49 ?_
      refine hcallV0 (C := RX2) (T := TX2) (N := 3) (As := [.int (nI 6)]) (rest := []) (st' := [.ref (k 6 0)]) (w := hsW G u k h 6 (y - 1) N C Fs n c F) X (q0 := 0) (kX2_stateAt l G u k h 6 (y - 1) N C Fs n c F (by omega) (by omega) 6 (by omega)) gX2_stepBack_X2_stateAt rfl (n := 1) (by decide +kernel) (by decide) rfl rfl rfl rfl (Nat.le_of_ble_eq_true rfl) dX2_stepBack_52 rfl rfl (by decide) rfl ?_
      refine hastore_n (lv' := [(2, .ref (k 6 0)), (0, .ref (u 0)), (1, .ref (h 0))]) X dX2_stepBack_55 (by decide) rfl ?_
      refine haload_n X dX2_stepBack_56 rfl ?_
      refine hifnull X dX2_stepBack_57 ?_
      refine haload_n X dX2_stepBack_60 rfl ?_
      refine haload_n X dX2_stepBack_61 rfl ?_
      refine hV_perm (ws' := (haW G (k 6) (N 6) (C 6) (Fs 6) ++ haW G h n c F) ++ (huW G u k 6 (y - 1) ++ hlX G k N C Fs 6 7)) (pmHs G u k h _ _ _ _ _ _ _ _ (by omega)) ?_
      refine hcallVr (C := RX1) (T := TX1) (N := 7) (As := [.ref (k 6 0)]) (rest := []) (st' := []) (w := haW G (k 6) (N 6) (C 6) (Fs 6) ++ haW G h (N 6) (C 6) (hcF (Fs 6) F)) X (q0 := 21) (kX1_copyFrom l G h (k 6) (N 6) (C 6) n c (Fs 6) F (hbs 6)) gX2_stepBack_X1_copyFrom rfl (n := 1) (by decide +kernel) (by decide) rfl rfl rfl rfl (Nat.le_of_ble_eq_true rfl) dX2_stepBack_62 rfl rfl (by decide) rfl ?_
      refine hV_perm (ws' := hsW G u k h 6 (y - 1) N C Fs (N 6) (C 6) (hcF (Fs 6) F)) (pmHs' G u k h _ _ _ _ _ _ _ _ (by omega)) ?_
      refine haload_n X dX2_stepBack_65 rfl ?_
      refine hget1 X (T := TX2) (N := 3) iX2 0 rfl rfl 2 (by decide) (by decide +kernel) rfl dX2_stepBack_66 ?_
      refine hiret X dX2_stepBack_69 ⟨congrArg (fun z => some (Value.int z)) (?_ : (nI (y - 1)) = bkR y), ?_⟩
      · simp [bkR, hy0]
      first | (simp [bkN, hy0]; done) | (simp [bkN, hy0, hx0]; done)
    · have hx0 : ¬ x = 0 := fun z9 => c2 (by rw [z9]; decide)
      refine haload_n X dX2_stepBack_18 rfl ?_
      refine hget1 X (T := TX2) (N := 3) iX2 0 rfl rfl 1 (by decide) (by decide +kernel) rfl dX2_stepBack_19 ?_
      refine hiconst (v := 1) X dX2_stepBack_22 rfl ?_
      refine hisub X dX2_stepBack_23 ?_
      refine hV_st (st' := [.int (nI (x - 1)), .ref (u 0)]) (congrArg (fun z => ([Value.int z, .ref (u 0)] : List Value)) (nsub rfl rfl (by omega))) ?_
      refine hgoto (tgt := 34) X dX2_stepBack_24 (by decide) ?_
      refine hput1 X (T := TX2) (N := 3) iX2 tyX2 tyX2_ok nmX2 0 rfl rfl 1 (by decide) (by decide +kernel) (by decide +kernel) rfl rfl (Nat.le_of_ble_eq_true rfl) dX2_stepBack_34 (ws' := hsW G u k h (x - 1) y N C Fs n c F) (hsWf1 G u k h _ _ _ _ _ _ _ _ _) ?_
      refine haload_n X dX2_stepBack_37 rfl ?_
      refine hdup X dX2_stepBack_38 rfl ?_
      refine hget1 X (T := TX2) (N := 3) iX2 0 rfl rfl 2 (by decide) (by decide +kernel) rfl dX2_stepBack_39 ?_
      refine hiconst (v := 1) X dX2_stepBack_42 rfl ?_
      refine hisub X dX2_stepBack_43 ?_
      refine hV_st (st' := [.int (nI (y - 1)), .ref (u 0)]) (congrArg (fun z => ([Value.int z, .ref (u 0)] : List Value)) (nsub rfl rfl (by omega))) ?_
      refine hput1 X (T := TX2) (N := 3) iX2 tyX2 tyX2_ok nmX2 0 rfl rfl 2 (by decide) (by decide +kernel) (by decide +kernel) rfl rfl (Nat.le_of_ble_eq_true rfl) dX2_stepBack_44 (ws' := hsW G u k h (x - 1) (y - 1) N C Fs n c F) (hsWf2 G u k h _ _ _ _ _ _ _ _ _) ?_
      refine haload_n X dX2_stepBack_47 rfl ?_
      refine haload_n X dX2_stepBack_48 rfl ?_
      refine hget1 X (T := TX2) (N := 3) iX2 0 rfl rfl 1 (by decide) (by decide +kernel) rfl dX2_stepBack_49 ?_
      refine hcallV0 (C := RX2) (T := TX2) (N := 3) (As := [.int (nI (x - 1))]) (rest := []) (st' := [.ref (k (x - 1) 0)]) (w := hsW G u k h (x - 1) (y - 1) N C Fs n c F) X (q0 := 0) (kX2_stateAt l G u k h (x - 1) (y - 1) N C Fs n c F (by omega) (by omega) (x - 1) (by omega)) gX2_stepBack_X2_stateAt rfl (n := 1) (by decide +kernel) (by decide) rfl rfl rfl rfl (Nat.le_of_ble_eq_true rfl) dX2_stepBack_52 rfl rfl (by decide) rfl ?_
      refine hastore_n (lv' := [(2, .ref (k (x - 1) 0)), (0, .ref (u 0)), (1, .ref (h 0))]) X dX2_stepBack_55 (by decide) rfl ?_
      refine haload_n X dX2_stepBack_56 rfl ?_
      refine hifnull X dX2_stepBack_57 ?_
      refine haload_n X dX2_stepBack_60 rfl ?_
      refine haload_n X dX2_stepBack_61 rfl ?_
      refine hV_perm (ws' := (haW G (k (x - 1)) (N (x - 1)) (C (x - 1)) (Fs (x - 1)) ++ haW G h n c F) ++ (huW G u k (x - 1) (y - 1) ++ hlX G k N C Fs (x - 1) 7)) (pmHs G u k h _ _ _ _ _ _ _ _ (by omega)) ?_
      refine hcallVr (C := RX1) (T := TX1) (N := 7) (As := [.ref (k (x - 1) 0)]) (rest := []) (st' := []) (w := haW G (k (x - 1)) (N (x - 1)) (C (x - 1)) (Fs (x - 1)) ++ haW G h (N (x - 1)) (C (x - 1)) (hcF (Fs (x - 1)) F)) X (q0 := 21) (kX1_copyFrom l G h (k (x - 1)) (N (x - 1)) (C (x - 1)) n c (Fs (x - 1)) F (hbs (x - 1))) gX2_stepBack_X1_copyFrom rfl (n := 1) (by decide +kernel) (by decide) rfl rfl rfl rfl (Nat.le_of_ble_eq_true rfl) dX2_stepBack_62 rfl rfl (by decide) rfl ?_
      refine hV_perm (ws' := hsW G u k h (x - 1) (y - 1) N C Fs (N (x - 1)) (C (x - 1)) (hcF (Fs (x - 1)) F)) (pmHs' G u k h _ _ _ _ _ _ _ _ (by omega)) ?_
      refine haload_n X dX2_stepBack_65 rfl ?_
      refine hget1 X (T := TX2) (N := 3) iX2 0 rfl rfl 2 (by decide) (by decide +kernel) rfl dX2_stepBack_66 ?_
      refine hiret X dX2_stepBack_69 ⟨congrArg (fun z => some (Value.int z)) (?_ : (nI (y - 1)) = bkR y), ?_⟩
      · simp [bkR, hy0]
      first | (simp [bkN, hy0]; done) | (simp [bkN, hy0, hx0]; done)
  · have hy0 : y = 0 := (Nat.eq_zero_or_pos y).resolve_right fun z9 => c1 ((nI_ltI (a := 0) (b := y) (by omega) (by omega)).mpr z9)
    refine hbipush (v := (-5)) X dX2_stepBack_7 rfl ?_
    refine hiret X dX2_stepBack_9 ⟨congrArg (fun z => some (Value.int z)) (?_ : (-5) = bkR y), ?_⟩
    · simp [bkR, hy0]
    first | (simp [bkN, hy0]; done) | (simp [bkN, hy0, hx0]; done)

