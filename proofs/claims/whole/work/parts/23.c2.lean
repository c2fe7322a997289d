set_option maxHeartbeats 4000000 in
set_option maxRecDepth 100000 in
theorem kX0_append (l : Launch) (G : hG) (h : Nat → Nat) (F : hF) (c : Nat) (hc : c ≤ 6) (x y : Int32) : hM l G yX0_append wsX0_append ({ frames := 1, cells := 0, slots := 0, locals := 40 }) (crW G h c F) [.ref (h 14), .int x, .int y] (hR (some (.int (if c < 6 then nI c else -4))) (crW G h (if c < 6 then c + 1 else c) (if c < 6 then apC F c x y else F))) := by
  refine hM_of (cc := cX0_append) (maxL := 4) (ret := (some .int)) (by decide) rfl (Nat.le_of_ble_eq_true rfl) ?_
  intro pp ee ss mm aa bb me cd X hin
  have iX0 : ∀ w ∈ wsX00, w ∈ wsX0_append := by decide +kernel
  refine haload_n X dX0_append_0 rfl ?_
  refine hget1 X (T := TX0) (N := 7) iX0 0 rfl rfl 0 (by decide) (by decide +kernel) rfl dX0_append_1 ?_
  refine histore_n (lv' := [(3, .int (nI c)), (0, .ref (h 14)), (1, .int x), (2, .int y)]) X dX0_append_4 (by decide) rfl ?_
  refine hiload_n X dX0_append_5 rfl ?_
  refine hbipush (v := 6) X dX0_append_6 rfl ?_
  refine hicmp_lt (tgt := 14) X dX0_append_8 (by decide) (fun c1 => ?_) (fun c1 => ?_)
  · have hlt : c < 6 := (nI_ltI (a := c) (b := 6) (by omega) (by decide)).mp c1
    refine haload_n X dX0_append_14 rfl ?_
    refine hget1 X (T := TX0) (N := 7) iX0 0 rfl rfl 1 (by decide) (by decide +kernel) rfl dX0_append_15 ?_
    refine hiload_n X dX0_append_18 rfl ?_
    refine hiload_n X dX0_append_19 rfl ?_
    refine hiast (n := 6) (f := F 10) X 1 rfl c rfl (by omega) (by decide) dX0_append_20 (ws' := crW G h c (fs F 10 c x)) (crWs10 G h _ _ _ _) ?_
    refine haload_n X dX0_append_21 rfl ?_
    refine hget1 X (T := TX0) (N := 7) iX0 0 rfl rfl 2 (by decide) (by decide +kernel) rfl dX0_append_22 ?_
    refine hiload_n X dX0_append_25 rfl ?_
    refine hiload_n X dX0_append_26 rfl ?_
    refine hiast (n := 6) (f := (fs F 10 c x) 11) X 2 rfl c rfl (by omega) (by decide) dX0_append_27 (ws' := crW G h c (fs (fs F 10 c x) 11 c y)) (crWs11 G h _ _ _ _) ?_
    refine haload_n X dX0_append_28 rfl ?_
    refine hget1 X (T := TX0) (N := 7) iX0 0 rfl rfl 3 (by decide) (by decide +kernel) rfl dX0_append_29 ?_
    refine hiload_n X dX0_append_32 rfl ?_
    refine hbipush (v := (-6)) X dX0_append_33 rfl ?_
    refine hiast (n := 6) (f := (fs (fs F 10 c x) 11 c y) 12) X 3 rfl c rfl (by omega) (by decide) dX0_append_35 (ws' := crW G h c (fs (fs (fs F 10 c x) 11 c y) 12 c (-6))) (crWs12 G h _ _ _ _) ?_
    refine haload_n X dX0_append_36 rfl ?_
    refine hget1 X (T := TX0) (N := 7) iX0 0 rfl rfl 4 (by decide) (by decide +kernel) rfl dX0_append_37 ?_
    refine hiload_n X dX0_append_40 rfl ?_
    refine hiconst (v := 0) X dX0_append_41 rfl ?_
    refine hiast (n := 6) (f := (fs (fs (fs F 10 c x) 11 c y) 12 c (-6)) 13) X 4 rfl c rfl (by omega) (by decide) dX0_append_42 (ws' := crW G h c (fs (fs (fs (fs F 10 c x) 11 c y) 12 c (-6)) 13 c 0)) (crWs13 G h _ _ _ _) ?_
    refine haload_n X dX0_append_43 rfl ?_
    refine hget1 X (T := TX0) (N := 7) iX0 0 rfl rfl 5 (by decide) (by decide +kernel) rfl dX0_append_44 ?_
    refine hiload_n X dX0_append_47 rfl ?_
    refine hiconst (v := 0) X dX0_append_48 rfl ?_
    refine hiast (n := 6) (f := (fs (fs (fs (fs F 10 c x) 11 c y) 12 c (-6)) 13 c 0) 14) X 5 rfl c rfl (by omega) (by decide) dX0_append_49 (ws' := crW G h c (fs (fs (fs (fs (fs F 10 c x) 11 c y) 12 c (-6)) 13 c 0) 14 c 0)) (crWs14 G h _ _ _ _) ?_
    refine haload_n X dX0_append_50 rfl ?_
    refine hget1 X (T := TX0) (N := 7) iX0 0 rfl rfl 6 (by decide) (by decide +kernel) rfl dX0_append_51 ?_
    refine hiload_n X dX0_append_54 rfl ?_
    refine hiconst (v := 0) X dX0_append_55 rfl ?_
    refine hiast (n := 6) (f := (fs (fs (fs (fs (fs F 10 c x) 11 c y) 12 c (-6)) 13 c 0) 14 c 0) 15) X 6 rfl c rfl (by omega) (by decide) dX0_append_56 (ws' := crW G h c (fs (fs (fs (fs (fs (fs F 10 c x) 11 c y) 12 c (-6)) 13 c 0) 14 c 0) 15 c 0)) (crWs15 G h _ _ _ _) ?_
    refine haload_n X dX0_append_57 rfl ?_
    refine hdup X dX0_append_58 rfl ?_
    refine hget1 X (T := TX0) (N := 7) iX0 0 rfl rfl 0 (by decide) (by decide +kernel) rfl dX0_append_59 ?_
    refine hiconst (v := 1) X dX0_append_62 rfl ?_
    refine hiadd X dX0_append_63 ?_
    refine hV_st (st' := [.int (nI (c + 1)), .ref (h 14)]) (congrArg (fun z => ([Value.int z, .ref (h 14)] : List Value)) (nI_1 c)) ?_
    refine hput1 X (T := TX0) (N := 7) iX0 tyX0 tyX0_ok nmX0 0 rfl rfl 0 (by decide) (by decide +kernel) (by decide +kernel) rfl rfl (Nat.le_of_ble_eq_true rfl) dX0_append_64 (ws' := crW G h (c + 1) (fs (fs (fs (fs (fs (fs F 10 c x) 11 c y) 12 c (-6)) 13 c 0) 14 c 0) 15 c 0)) (crWf0 G h _ _ _) ?_
    refine hiload_n X dX0_append_67 rfl ?_
    refine hiret X dX0_append_68 ⟨congrArg (fun z => some (Value.int z)) (?_ : (nI c) = if c < 6 then nI c else -4), ?_⟩
    · simp [hlt]
    simp [hlt, apC]
  · have hlt : ¬ c < 6 := fun z9 => c1 ((nI_ltI (a := c) (b := 6) (by omega) (by decide)).mpr z9)
    refine hbipush (v := (-4)) X dX0_append_11 rfl ?_
    refine hiret X dX0_append_13 ⟨congrArg (fun z => some (Value.int z)) (?_ : (-4) = if c < 6 then nI c else -4), ?_⟩
    · simp [hlt]
    simp [hlt, apC]

set_option maxHeartbeats 4000000 in
set_option maxRecDepth 100000 in
theorem kX1_takeOffPhase (l : Launch) (G : hG) (h : Nat → Nat) (F : hF) (n c : Nat) (hn : n ≤ 20) (hc : c ≤ 6) (s : Nat) (hs : s < n) : hM l G yX1_takeOffPhase wsX1_takeOffPhase ({ frames := 2, cells := 0, slots := 0, locals := 61 }) (haW G h n c F) [.ref (h 0), .int (nI s)] (hR none (haW G h n c (toP F s))) := by
  refine hM_of (cc := cX1_takeOffPhase) (maxL := 3) (ret := none) (by decide) rfl (Nat.le_of_ble_eq_true rfl) ?_
  intro pp ee ss mm aa bb me cd X hin
  have iX1 : ∀ w ∈ wsX10, w ∈ wsX1_takeOffPhase := by decide +kernel
  have iX6 : ∀ w ∈ wsX60, w ∈ wsX1_takeOffPhase := by decide +kernel
  refine haload_n X dX1_takeOffPhase_0 rfl ?_
  refine hget1 X (T := TX1) (N := 7) iX1 0 rfl rfl 2 (by decide) (by decide +kernel) rfl dX1_takeOffPhase_1 ?_
  refine hiload_n X dX1_takeOffPhase_4 rfl ?_
  refine hV_perm (ws' := stW G h n F ++ hrS G h c F) (pmS G h _ _ _) ?_
  refine hcallVr (C := RX6) (T := TX6) (N := 11) (As := [.int (nI s)]) (rest := []) (st' := [.int (bI (hhas n (nI s)))]) (w := stW G h n F) X (q0 := 0) (kX6_has l G h F n (nI s)) gX1_takeOffPhase_X6_has rfl (n := 1) (by decide +kernel) (by decide) rfl rfl rfl rfl (Nat.le_of_ble_eq_true rfl) dX1_takeOffPhase_5 rfl rfl (by decide) rfl ?_
  refine hV_perm (ws' := haW G h n c F) (pmS G h _ _ _).symm ?_
  refine hif_neB (tgt := 12) X dX1_takeOffPhase_8 (by decide) (fun c1 => ?_) (fun c1 => ?_)
  · refine haload_n X dX1_takeOffPhase_12 rfl ?_
    refine hget1 X (T := TX1) (N := 7) iX1 0 rfl rfl 2 (by decide) (by decide +kernel) rfl dX1_takeOffPhase_13 ?_
    refine hgetN X (T := TX6) (N := 11) iX6 3 rfl rfl 7 (by decide) (by decide +kernel) rfl dX1_takeOffPhase_16 ?_
    refine hiload_n X dX1_takeOffPhase_19 rfl ?_
    refine hiald (n := 20) (f := F 6) X 10 rfl s rfl (by omega) (by decide) dX1_takeOffPhase_20 ?_
    refine histore_n (lv' := [(2, .int (F 6 s)), (0, .ref (h 0)), (1, .int (nI s))]) X dX1_takeOffPhase_21 (by decide) rfl ?_
    refine hiload_n X dX1_takeOffPhase_22 rfl ?_
    refine hif_lt (tgt := 35) X dX1_takeOffPhase_23 (by decide) (fun c2 => ?_) (fun c2 => ?_)
    · refine hvret X dX1_takeOffPhase_35 ⟨rfl, ?_⟩
      refine congrArg (haW G h n c) (?_ : (F : hF) = toP F s)
      simp [toP, c1, c2]
    · refine hiload_n X dX1_takeOffPhase_26 rfl ?_
      refine haload_n X dX1_takeOffPhase_27 rfl ?_
      refine hget1 X (T := TX1) (N := 7) iX1 0 rfl rfl 1 (by decide) (by decide +kernel) rfl dX1_takeOffPhase_28 ?_
      refine hialen X 2 0 rfl rfl (v := 3) rfl dX1_takeOffPhase_31 ?_
      refine hicmp_lt (tgt := 36) X dX1_takeOffPhase_32 (by decide) (fun c3 => ?_) (fun c3 => ?_)
      · obtain ⟨j, hj, hx⟩ := lt3_in c2 c3
        refine haload_n X dX1_takeOffPhase_36 rfl ?_
        refine hget1 X (T := TX1) (N := 7) iX1 0 rfl rfl 1 (by decide) (by decide +kernel) rfl dX1_takeOffPhase_37 ?_
        refine hiload_n X dX1_takeOffPhase_40 rfl ?_
        refine hdup2 X dX1_takeOffPhase_41 rfl rfl ?_
        refine hV_st (st' := [.int (nI j), .ref (h 2), .int (F 6 s), .ref (h 2)]) (congrArg (fun z => ([Value.int z, .ref (h 2), .int (F 6 s), .ref (h 2)] : List Value)) (hx)) ?_
        refine hiald (n := 3) (f := F 17) X 2 rfl j rfl (by omega) (by decide) dX1_takeOffPhase_42 ?_
        refine haload_n X dX1_takeOffPhase_43 rfl ?_
        refine hget1 X (T := TX1) (N := 7) iX1 0 rfl rfl 2 (by decide) (by decide +kernel) rfl dX1_takeOffPhase_44 ?_
        refine hgetN X (T := TX6) (N := 11) iX6 3 rfl rfl 3 (by decide) (by decide +kernel) rfl dX1_takeOffPhase_47 ?_
        refine hiload_n X dX1_takeOffPhase_50 rfl ?_
        refine hiald (n := 20) (f := F 2) X 6 rfl s rfl (by omega) (by decide) dX1_takeOffPhase_51 ?_
        refine hisub X dX1_takeOffPhase_52 ?_
        refine hV_st (st' := [.int ((F 17 j) - (F 2 s)), .int (nI j), .ref (h 2)]) (congrArg (fun z => ([.int ((F 17 j) - (F 2 s)), Value.int z, .ref (h 2)] : List Value)) (hx)) ?_
        refine hiast (n := 3) (f := F 17) X 2 rfl j rfl (by omega) (by decide) dX1_takeOffPhase_53 (ws' := haW G h n c (fs F 17 j ((F 17 j) - (F 2 s)))) (haWs17 G h _ _ _ _ _) ?_
        refine haload_n X dX1_takeOffPhase_54 rfl ?_
        refine hget1 X (T := TX1) (N := 7) iX1 0 rfl rfl 2 (by decide) (by decide +kernel) rfl dX1_takeOffPhase_55 ?_
        refine hgetN X (T := TX6) (N := 11) iX6 3 rfl rfl 7 (by decide) (by decide +kernel) rfl dX1_takeOffPhase_58 ?_
        refine hiload_n X dX1_takeOffPhase_61 rfl ?_
        refine hbipush (v := (-6)) X dX1_takeOffPhase_62 rfl ?_
        refine hiast (n := 20) (f := (fs F 17 j ((F 17 j) - (F 2 s))) 6) X 10 rfl s rfl (by omega) (by decide) dX1_takeOffPhase_64 (ws' := haW G h n c (fs (fs F 17 j ((F 17 j) - (F 2 s))) 6 s (-6))) (haWs6 G h _ _ _ _ _) ?_
        refine hvret X dX1_takeOffPhase_65 ⟨rfl, ?_⟩
        refine congrArg (haW G h n c) (?_ : (fs (fs F 17 j ((F 17 j) - (F 2 s))) 6 s (-6) : hF) = toP F s)
        unfold toP
        rw [if_neg c2, if_pos c3, hx]
        simp only [nI_clamp (show j < 2 ^ 31 by omega)]
      · refine hvret X dX1_takeOffPhase_35 ⟨rfl, ?_⟩
        refine congrArg (haW G h n c) (?_ : (F : hF) = toP F s)
        simp [toP, c1, c2, c3]
  · exact (c1 (has_nI (by omega) hs)).elim

set_option maxHeartbeats 4000000 in
set_option maxRecDepth 100000 in
theorem kX1_beginToDismantle (l : Launch) (G : hG) (h : Nat → Nat) (F : hF) (n c : Nat) (hn : n ≤ 20) (hc : c ≤ 6) (s : Nat) (hs : s < n) : hM l G yX1_beginToDismantle wsX1_beginToDismantle ({ frames := 3, cells := 0, slots := 0, locals := 83 }) (haW G h n c F) [.ref (h 0), .int (nI s)] (hR none (haW G h n c (btD F s))) := by
  refine hM_of (cc := cX1_beginToDismantle) (maxL := 2) (ret := none) (by decide) rfl (Nat.le_of_ble_eq_true rfl) ?_
  intro pp ee ss mm aa bb me cd X hin
  have iX1 : ∀ w ∈ wsX10, w ∈ wsX1_beginToDismantle := by decide +kernel
  have iX6 : ∀ w ∈ wsX60, w ∈ wsX1_beginToDismantle := by decide +kernel
  refine haload_n X dX1_beginToDismantle_0 rfl ?_
  refine hget1 X (T := TX1) (N := 7) iX1 0 rfl rfl 2 (by decide) (by decide +kernel) rfl dX1_beginToDismantle_1 ?_
  refine hiload_n X dX1_beginToDismantle_4 rfl ?_
  refine hV_perm (ws' := stW G h n F ++ hrS G h c F) (pmS G h _ _ _) ?_
  refine hcallVr (C := RX6) (T := TX6) (N := 11) (As := [.int (nI s)]) (rest := []) (st' := [.int (bI (hhas n (nI s)))]) (w := stW G h n F) X (q0 := 0) (kX6_has l G h F n (nI s)) gX1_beginToDismantle_X6_has rfl (n := 1) (by decide +kernel) (by decide) rfl rfl rfl rfl (Nat.le_of_ble_eq_true rfl) dX1_beginToDismantle_5 rfl rfl (by decide) rfl ?_
  refine hV_perm (ws' := haW G h n c F) (pmS G h _ _ _).symm ?_
  refine hif_neB (tgt := 12) X dX1_beginToDismantle_8 (by decide) (fun c1 => ?_) (fun c1 => ?_)
  · refine haload_n X dX1_beginToDismantle_12 rfl ?_
    refine hiload_n X dX1_beginToDismantle_13 rfl ?_
    refine hcallV0 (C := RX1) (T := TX1) (N := 7) (As := [.int (nI s)]) (rest := []) (st' := []) (w := haW G h n c (toP F s)) X (q0 := 0) (kX1_takeOffPhase l G h F n c (by first | assumption | omega | simp [fs_at, *]) (by first | assumption | omega | simp [fs_at, *]) s (by first | assumption | omega | simp [fs_at, *])) gX1_beginToDismantle_X1_takeOffPhase rfl (n := 1) (by decide +kernel) (by decide) rfl rfl rfl rfl (Nat.le_of_ble_eq_true rfl) dX1_beginToDismantle_14 rfl rfl (by decide) rfl ?_
    refine haload_n X dX1_beginToDismantle_17 rfl ?_
    refine hget1 X (T := TX1) (N := 7) iX1 0 rfl rfl 2 (by decide) (by decide +kernel) rfl dX1_beginToDismantle_18 ?_
    refine hgetN X (T := TX6) (N := 11) iX6 3 rfl rfl 5 (by decide) (by decide +kernel) rfl dX1_beginToDismantle_21 ?_
    refine hiload_n X dX1_beginToDismantle_24 rfl ?_
    refine hiconst (v := 5) X dX1_beginToDismantle_25 rfl ?_
    refine hiast (n := 20) (f := (toP F s) 4) X 8 rfl s rfl (by omega) (by decide) dX1_beginToDismantle_26 (ws' := haW G h n c (fs (toP F s) 4 s 5)) (haWs4 G h _ _ _ _ _) ?_
    refine haload_n X dX1_beginToDismantle_27 rfl ?_
    refine hget1 X (T := TX1) (N := 7) iX1 0 rfl rfl 2 (by decide) (by decide +kernel) rfl dX1_beginToDismantle_28 ?_
    refine hgetN X (T := TX6) (N := 11) iX6 3 rfl rfl 6 (by decide) (by decide +kernel) rfl dX1_beginToDismantle_31 ?_
    refine hiload_n X dX1_beginToDismantle_34 rfl ?_
    refine haload_n X dX1_beginToDismantle_35 rfl ?_
    refine hget1 X (T := TX1) (N := 7) iX1 0 rfl rfl 2 (by decide) (by decide +kernel) rfl dX1_beginToDismantle_36 ?_
    refine hgetN X (T := TX6) (N := 11) iX6 3 rfl rfl 1 (by decide) (by decide +kernel) rfl dX1_beginToDismantle_39 ?_
    refine hiload_n X dX1_beginToDismantle_42 rfl ?_
    refine hiald (n := 20) (f := (fs (toP F s) 4 s 5) 0) X 4 rfl s rfl (by omega) (by decide) dX1_beginToDismantle_43 ?_
    have r2 : ((fs (toP F s) 4 s 5) 0 s : Int32) = (toP F s) 0 s := by rw [fs_ne _ _ _ (by decide)]
    refine hV_st (st' := [.int ((toP F s) 0 s), .int (nI s), .ref (h 9)]) (congrArg (fun z => Value.int z :: [.int (nI s), .ref (h 9)]) r2) ?_
    refine hiconst (v := 1) X dX1_beginToDismantle_44 rfl ?_
    refine hiadd X dX1_beginToDismantle_45 ?_
    refine hiconst (v := 2) X dX1_beginToDismantle_46 rfl ?_
    refine hidiv X dX1_beginToDismantle_47 (by decide) ?_
    refine hiast (n := 20) (f := (fs (toP F s) 4 s 5) 5) X 9 rfl s rfl (by omega) (by decide) dX1_beginToDismantle_48 (ws' := haW G h n c (fs (fs (toP F s) 4 s 5) 5 s ((((toP F s) 0 s) + 1) / 2))) (haWs5 G h _ _ _ _ _) ?_
    refine hvret X dX1_beginToDismantle_49 ⟨rfl, ?_⟩
    refine congrArg (haW G h n c) (?_ : (fs (fs (toP F s) 4 s 5) 5 s ((((toP F s) 0 s) + 1) / 2) : hF) = btD F s)
    simp [btD]
  · exact (c1 (has_nI (by omega) hs)).elim

set_option maxHeartbeats 4000000 in
set_option maxRecDepth 100000 in
theorem kX1_putOnPhase (l : Launch) (G : hG) (h : Nat → Nat) (F : hF) (n c : Nat) (hn : n ≤ 20) (hc : c ≤ 6) (s : Nat) (hs : s < n) : hM l G yX1_putOnPhase wsX1_putOnPhase ({ frames := 2, cells := 0, slots := 0, locals := 61 }) (haW G h n c F) [.ref (h 0), .int (nI s)] (hR none (haW G h n c (poP F s))) := by
  refine hM_of (cc := cX1_putOnPhase) (maxL := 4) (ret := none) (by decide) rfl (Nat.le_of_ble_eq_true rfl) ?_
  intro pp ee ss mm aa bb me cd X hin
  have iX1 : ∀ w ∈ wsX10, w ∈ wsX1_putOnPhase := by decide +kernel
  have iX6 : ∀ w ∈ wsX60, w ∈ wsX1_putOnPhase := by decide +kernel
  refine haload_n X dX1_putOnPhase_0 rfl ?_
  refine hget1 X (T := TX1) (N := 7) iX1 0 rfl rfl 2 (by decide) (by decide +kernel) rfl dX1_putOnPhase_1 ?_
  refine hiload_n X dX1_putOnPhase_4 rfl ?_
  refine hV_perm (ws' := stW G h n F ++ hrS G h c F) (pmS G h _ _ _) ?_
  refine hcallVr (C := RX6) (T := TX6) (N := 11) (As := [.int (nI s)]) (rest := []) (st' := [.int (bI (hhas n (nI s)))]) (w := stW G h n F) X (q0 := 0) (kX6_has l G h F n (nI s)) gX1_putOnPhase_X6_has rfl (n := 1) (by decide +kernel) (by decide) rfl rfl rfl rfl (Nat.le_of_ble_eq_true rfl) dX1_putOnPhase_5 rfl rfl (by decide) rfl ?_
  refine hV_perm (ws' := haW G h n c F) (pmS G h _ _ _).symm ?_
  refine hif_neB (tgt := 12) X dX1_putOnPhase_8 (by decide) (fun c1 => ?_) (fun c1 => ?_)
  · refine hiconst (v := 0) X dX1_putOnPhase_12 rfl ?_
    refine histore_n (lv' := [(2, .int 0), (0, .ref (h 0)), (1, .int (nI s))]) X dX1_putOnPhase_13 (by decide) rfl ?_
    refine hiconst (v := 1) X dX1_putOnPhase_14 rfl ?_
    refine histore_n (lv' := [(3, .int 1), (2, .int 0), (0, .ref (h 0)), (1, .int (nI s))]) X dX1_putOnPhase_15 (by decide) rfl ?_
    refine hiload_n X dX1_putOnPhase_16 rfl ?_
    refine haload_n X dX1_putOnPhase_17 rfl ?_
    refine hget1 X (T := TX1) (N := 7) iX1 0 rfl rfl 1 (by decide) (by decide +kernel) rfl dX1_putOnPhase_18 ?_
    refine hialen X 2 0 rfl rfl (v := 3) rfl dX1_putOnPhase_21 ?_
    refine hicmp_ge (tgt := 48) X dX1_putOnPhase_22 (by decide) (fun c2 => ?_) (fun c2 => ?_)
    · exact absurd c2 (by decide)
    refine haload_n X dX1_putOnPhase_25 rfl ?_
    refine hget1 X (T := TX1) (N := 7) iX1 0 rfl rfl 1 (by decide) (by decide +kernel) rfl dX1_putOnPhase_26 ?_
    refine hiload_n X dX1_putOnPhase_29 rfl ?_
    refine hiald (n := 3) (f := F 17) X 2 rfl 1 rfl (by omega) (by decide) dX1_putOnPhase_30 ?_
    refine haload_n X dX1_putOnPhase_31 rfl ?_
    refine hget1 X (T := TX1) (N := 7) iX1 0 rfl rfl 1 (by decide) (by decide +kernel) rfl dX1_putOnPhase_32 ?_
    refine hiload_n X dX1_putOnPhase_35 rfl ?_
    refine hiald (n := 3) (f := F 17) X 2 rfl 0 rfl (by omega) (by decide) dX1_putOnPhase_36 ?_
    refine hicmp_ge (tgt := 42) X dX1_putOnPhase_37 (by decide) (fun c3 => ?_) (fun c3 => ?_)
    · refine hiinc (v := 2) (lv' := [(3, .int 2), (2, .int 0), (0, .ref (h 0)), (1, .int (nI s))]) X dX1_putOnPhase_42 rfl rfl (by decide) rfl ?_
      refine hgoto (tgt := 16) X dX1_putOnPhase_45 (by decide) ?_
      refine hiload_n X dX1_putOnPhase_16 rfl ?_
      refine haload_n X dX1_putOnPhase_17 rfl ?_
      refine hget1 X (T := TX1) (N := 7) iX1 0 rfl rfl 1 (by decide) (by decide +kernel) rfl dX1_putOnPhase_18 ?_
      refine hialen X 2 0 rfl rfl (v := 3) rfl dX1_putOnPhase_21 ?_
      refine hicmp_ge (tgt := 48) X dX1_putOnPhase_22 (by decide) (fun c4 => ?_) (fun c4 => ?_)
      · exact absurd c4 (by decide)
      refine haload_n X dX1_putOnPhase_25 rfl ?_
      refine hget1 X (T := TX1) (N := 7) iX1 0 rfl rfl 1 (by decide) (by decide +kernel) rfl dX1_putOnPhase_26 ?_
      refine hiload_n X dX1_putOnPhase_29 rfl ?_
      refine hiald (n := 3) (f := F 17) X 2 rfl 2 rfl (by omega) (by decide) dX1_putOnPhase_30 ?_
      refine haload_n X dX1_putOnPhase_31 rfl ?_
      refine hget1 X (T := TX1) (N := 7) iX1 0 rfl rfl 1 (by decide) (by decide +kernel) rfl dX1_putOnPhase_32 ?_
      refine hiload_n X dX1_putOnPhase_35 rfl ?_
      refine hiald (n := 3) (f := F 17) X 2 rfl 0 rfl (by omega) (by decide) dX1_putOnPhase_36 ?_
      refine hicmp_ge (tgt := 42) X dX1_putOnPhase_37 (by decide) (fun c5 => ?_) (fun c5 => ?_)
      · refine hiinc (v := 3) (lv' := [(3, .int 3), (2, .int 0), (0, .ref (h 0)), (1, .int (nI s))]) X dX1_putOnPhase_42 rfl rfl (by decide) rfl ?_
        refine hgoto (tgt := 16) X dX1_putOnPhase_45 (by decide) ?_
        refine hiload_n X dX1_putOnPhase_16 rfl ?_
        refine haload_n X dX1_putOnPhase_17 rfl ?_
        refine hget1 X (T := TX1) (N := 7) iX1 0 rfl rfl 1 (by decide) (by decide +kernel) rfl dX1_putOnPhase_18 ?_
        refine hialen X 2 0 rfl rfl (v := 3) rfl dX1_putOnPhase_21 ?_
        refine hicmp_ge (tgt := 48) X dX1_putOnPhase_22 (by decide) (fun c6 => ?_) (fun c6 => ?_)
        rotate_left
        · exact absurd (by decide) c6
        refine haload_n X dX1_putOnPhase_48 rfl ?_
        refine hget1 X (T := TX1) (N := 7) iX1 0 rfl rfl 1 (by decide) (by decide +kernel) rfl dX1_putOnPhase_49 ?_
        refine hiload_n X dX1_putOnPhase_52 rfl ?_
        refine hiald (n := 3) (f := F 17) X 2 rfl 0 rfl (by omega) (by decide) dX1_putOnPhase_53 ?_
        refine haload_n X dX1_putOnPhase_54 rfl ?_
        refine hget1 X (T := TX1) (N := 7) iX1 0 rfl rfl 2 (by decide) (by decide +kernel) rfl dX1_putOnPhase_55 ?_
        refine hgetN X (T := TX6) (N := 11) iX6 3 rfl rfl 3 (by decide) (by decide +kernel) rfl dX1_putOnPhase_58 ?_
        refine hiload_n X dX1_putOnPhase_61 rfl ?_
        refine hiald (n := 20) (f := F 2) X 6 rfl s rfl (by omega) (by decide) dX1_putOnPhase_62 ?_
        refine hiadd X dX1_putOnPhase_63 ?_
        refine histore_n (lv' := [(3, .int ((F 17 0) + (F 2 s))), (2, .int 0), (0, .ref (h 0)), (1, .int (nI s))]) X dX1_putOnPhase_64 (by decide) rfl ?_
        refine hiload_n X dX1_putOnPhase_65 rfl ?_
        refine haload_n X dX1_putOnPhase_66 rfl ?_
        refine hget1 X (T := TX1) (N := 7) iX1 0 rfl rfl 0 (by decide) (by decide +kernel) rfl dX1_putOnPhase_67 ?_
        refine hiconst (v := 2) X dX1_putOnPhase_70 rfl ?_
        refine hiald (n := 3) (f := F 16) X 1 rfl 2 rfl (by omega) (by decide) dX1_putOnPhase_71 ?_
        refine hicmp_le (tgt := 76) X dX1_putOnPhase_72 (by decide) (fun c7 => ?_) (fun c7 => ?_)
        · refine haload_n X dX1_putOnPhase_76 rfl ?_
          refine hget1 X (T := TX1) (N := 7) iX1 0 rfl rfl 1 (by decide) (by decide +kernel) rfl dX1_putOnPhase_77 ?_
          refine hiload_n X dX1_putOnPhase_80 rfl ?_
          refine hiload_n X dX1_putOnPhase_81 rfl ?_
          refine hiast (n := 3) (f := F 17) X 2 rfl 0 rfl (by omega) (by decide) dX1_putOnPhase_82 (ws' := haW G h n c (fs F 17 0 ((F 17 0) + (F 2 s)))) (haWs17 G h _ _ _ _ _) ?_
          refine haload_n X dX1_putOnPhase_83 rfl ?_
          refine hget1 X (T := TX1) (N := 7) iX1 0 rfl rfl 2 (by decide) (by decide +kernel) rfl dX1_putOnPhase_84 ?_
          refine hgetN X (T := TX6) (N := 11) iX6 3 rfl rfl 7 (by decide) (by decide +kernel) rfl dX1_putOnPhase_87 ?_
          refine hiload_n X dX1_putOnPhase_90 rfl ?_
          refine hiload_n X dX1_putOnPhase_91 rfl ?_
          refine hiast (n := 20) (f := (fs F 17 0 ((F 17 0) + (F 2 s))) 6) X 10 rfl s rfl (by omega) (by decide) dX1_putOnPhase_92 (ws' := haW G h n c (fs (fs F 17 0 ((F 17 0) + (F 2 s))) 6 s 0)) (haWs6 G h _ _ _ _ _) ?_
          refine hvret X dX1_putOnPhase_93 ⟨rfl, ?_⟩
          refine congrArg (haW G h n c) (?_ : (fs (fs F 17 0 ((F 17 0) + (F 2 s))) 6 s 0 : hF) = poP F s)
          simp [poP, phL, nI_0, show nI 1 = 1 from rfl, show nI 2 = 2 from rfl, c1, c3, c5, c7]
        · refine hvret X dX1_putOnPhase_75 ⟨rfl, ?_⟩
          refine congrArg (haW G h n c) (?_ : (F : hF) = poP F s)
          simp [poP, phL, nI_0, show nI 1 = 1 from rfl, show nI 2 = 2 from rfl, c1, c3, c5, c7]
      · refine hiload_n X dX1_putOnPhase_40 rfl ?_
        refine histore_n (lv' := [(2, .int 2), (3, .int 2), (0, .ref (h 0)), (1, .int (nI s))]) X dX1_putOnPhase_41 (by decide) rfl ?_
        refine hiinc (v := 3) (lv' := [(3, .int 3), (2, .int 2), (0, .ref (h 0)), (1, .int (nI s))]) X dX1_putOnPhase_42 rfl rfl (by decide) rfl ?_
        refine hgoto (tgt := 16) X dX1_putOnPhase_45 (by decide) ?_
        refine hiload_n X dX1_putOnPhase_16 rfl ?_
        refine haload_n X dX1_putOnPhase_17 rfl ?_
        refine hget1 X (T := TX1) (N := 7) iX1 0 rfl rfl 1 (by decide) (by decide +kernel) rfl dX1_putOnPhase_18 ?_
        refine hialen X 2 0 rfl rfl (v := 3) rfl dX1_putOnPhase_21 ?_
        refine hicmp_ge (tgt := 48) X dX1_putOnPhase_22 (by decide) (fun c8 => ?_) (fun c8 => ?_)
        rotate_left
        · exact absurd (by decide) c8
        refine haload_n X dX1_putOnPhase_48 rfl ?_
        refine hget1 X (T := TX1) (N := 7) iX1 0 rfl rfl 1 (by decide) (by decide +kernel) rfl dX1_putOnPhase_49 ?_
        refine hiload_n X dX1_putOnPhase_52 rfl ?_
        refine hiald (n := 3) (f := F 17) X 2 rfl 2 rfl (by omega) (by decide) dX1_putOnPhase_53 ?_
        refine haload_n X dX1_putOnPhase_54 rfl ?_
        refine hget1 X (T := TX1) (N := 7) iX1 0 rfl rfl 2 (by decide) (by decide +kernel) rfl dX1_putOnPhase_55 ?_
        refine hgetN X (T := TX6) (N := 11) iX6 3 rfl rfl 3 (by decide) (by decide +kernel) rfl dX1_putOnPhase_58 ?_
        refine hiload_n X dX1_putOnPhase_61 rfl ?_
        refine hiald (n := 20) (f := F 2) X 6 rfl s rfl (by omega) (by decide) dX1_putOnPhase_62 ?_
        refine hiadd X dX1_putOnPhase_63 ?_
        refine histore_n (lv' := [(3, .int ((F 17 2) + (F 2 s))), (2, .int 2), (0, .ref (h 0)), (1, .int (nI s))]) X dX1_putOnPhase_64 (by decide) rfl ?_
        refine hiload_n X dX1_putOnPhase_65 rfl ?_
        refine haload_n X dX1_putOnPhase_66 rfl ?_
        refine hget1 X (T := TX1) (N := 7) iX1 0 rfl rfl 0 (by decide) (by decide +kernel) rfl dX1_putOnPhase_67 ?_
        refine hiconst (v := 2) X dX1_putOnPhase_70 rfl ?_
        refine hiald (n := 3) (f := F 16) X 1 rfl 2 rfl (by omega) (by decide) dX1_putOnPhase_71 ?_
        refine hicmp_le (tgt := 76) X dX1_putOnPhase_72 (by decide) (fun c9 => ?_) (fun c9 => ?_)
        · refine haload_n X dX1_putOnPhase_76 rfl ?_
          refine hget1 X (T := TX1) (N := 7) iX1 0 rfl rfl 1 (by decide) (by decide +kernel) rfl dX1_putOnPhase_77 ?_
          refine hiload_n X dX1_putOnPhase_80 rfl ?_
          refine hiload_n X dX1_putOnPhase_81 rfl ?_
          refine hiast (n := 3) (f := F 17) X 2 rfl 2 rfl (by omega) (by decide) dX1_putOnPhase_82 (ws' := haW G h n c (fs F 17 2 ((F 17 2) + (F 2 s)))) (haWs17 G h _ _ _ _ _) ?_
          refine haload_n X dX1_putOnPhase_83 rfl ?_
          refine hget1 X (T := TX1) (N := 7) iX1 0 rfl rfl 2 (by decide) (by decide +kernel) rfl dX1_putOnPhase_84 ?_
          refine hgetN X (T := TX6) (N := 11) iX6 3 rfl rfl 7 (by decide) (by decide +kernel) rfl dX1_putOnPhase_87 ?_
          refine hiload_n X dX1_putOnPhase_90 rfl ?_
          refine hiload_n X dX1_putOnPhase_91 rfl ?_
          refine hiast (n := 20) (f := (fs F 17 2 ((F 17 2) + (F 2 s))) 6) X 10 rfl s rfl (by omega) (by decide) dX1_putOnPhase_92 (ws' := haW G h n c (fs (fs F 17 2 ((F 17 2) + (F 2 s))) 6 s 2)) (haWs6 G h _ _ _ _ _) ?_
          refine hvret X dX1_putOnPhase_93 ⟨rfl, ?_⟩
          refine congrArg (haW G h n c) (?_ : (fs (fs F 17 2 ((F 17 2) + (F 2 s))) 6 s 2 : hF) = poP F s)
          simp [poP, phL, nI_0, show nI 1 = 1 from rfl, show nI 2 = 2 from rfl, c1, c3, c5, c9]
        · refine hvret X dX1_putOnPhase_75 ⟨rfl, ?_⟩
          refine congrArg (haW G h n c) (?_ : (F : hF) = poP F s)
          simp [poP, phL, nI_0, show nI 1 = 1 from rfl, show nI 2 = 2 from rfl, c1, c3, c5, c9]
    · refine hiload_n X dX1_putOnPhase_40 rfl ?_
      refine histore_n (lv' := [(2, .int 1), (3, .int 1), (0, .ref (h 0)), (1, .int (nI s))]) X dX1_putOnPhase_41 (by decide) rfl ?_
      refine hiinc (v := 2) (lv' := [(3, .int 2), (2, .int 1), (0, .ref (h 0)), (1, .int (nI s))]) X dX1_putOnPhase_42 rfl rfl (by decide) rfl ?_
      refine hgoto (tgt := 16) X dX1_putOnPhase_45 (by decide) ?_
      refine hiload_n X dX1_putOnPhase_16 rfl ?_
      refine haload_n X dX1_putOnPhase_17 rfl ?_
      refine hget1 X (T := TX1) (N := 7) iX1 0 rfl rfl 1 (by decide) (by decide +kernel) rfl dX1_putOnPhase_18 ?_
      refine hialen X 2 0 rfl rfl (v := 3) rfl dX1_putOnPhase_21 ?_
      refine hicmp_ge (tgt := 48) X dX1_putOnPhase_22 (by decide) (fun c10 => ?_) (fun c10 => ?_)
      · exact absurd c10 (by decide)
      refine haload_n X dX1_putOnPhase_25 rfl ?_
      refine hget1 X (T := TX1) (N := 7) iX1 0 rfl rfl 1 (by decide) (by decide +kernel) rfl dX1_putOnPhase_26 ?_
      refine hiload_n X dX1_putOnPhase_29 rfl ?_
      refine hiald (n := 3) (f := F 17) X 2 rfl 2 rfl (by omega) (by decide) dX1_putOnPhase_30 ?_
      refine haload_n X dX1_putOnPhase_31 rfl ?_
      refine hget1 X (T := TX1) (N := 7) iX1 0 rfl rfl 1 (by decide) (by decide +kernel) rfl dX1_putOnPhase_32 ?_
      refine hiload_n X dX1_putOnPhase_35 rfl ?_
      refine hiald (n := 3) (f := F 17) X 2 rfl 1 rfl (by omega) (by decide) dX1_putOnPhase_36 ?_
      refine hicmp_ge (tgt := 42) X dX1_putOnPhase_37 (by decide) (fun c11 => ?_) (fun c11 => ?_)
      · refine hiinc (v := 3) (lv' := [(3, .int 3), (2, .int 1), (0, .ref (h 0)), (1, .int (nI s))]) X dX1_putOnPhase_42 rfl rfl (by decide) rfl ?_
        refine hgoto (tgt := 16) X dX1_putOnPhase_45 (by decide) ?_
        refine hiload_n X dX1_putOnPhase_16 rfl ?_
        refine haload_n X dX1_putOnPhase_17 rfl ?_
        refine hget1 X (T := TX1) (N := 7) iX1 0 rfl rfl 1 (by decide) (by decide +kernel) rfl dX1_putOnPhase_18 ?_
        refine hialen X 2 0 rfl rfl (v := 3) rfl dX1_putOnPhase_21 ?_
        refine hicmp_ge (tgt := 48) X dX1_putOnPhase_22 (by decide) (fun c12 => ?_) (fun c12 => ?_)
        rotate_left
        · exact absurd (by decide) c12
        refine haload_n X dX1_putOnPhase_48 rfl ?_
        refine hget1 X (T := TX1) (N := 7) iX1 0 rfl rfl 1 (by decide) (by decide +kernel) rfl dX1_putOnPhase_49 ?_
        refine hiload_n X dX1_putOnPhase_52 rfl ?_
        refine hiald (n := 3) (f := F 17) X 2 rfl 1 rfl (by omega) (by decide) dX1_putOnPhase_53 ?_
        refine haload_n X dX1_putOnPhase_54 rfl ?_
        refine hget1 X (T := TX1) (N := 7) iX1 0 rfl rfl 2 (by decide) (by decide +kernel) rfl dX1_putOnPhase_55 ?_
        refine hgetN X (T := TX6) (N := 11) iX6 3 rfl rfl 3 (by decide) (by decide +kernel) rfl dX1_putOnPhase_58 ?_
        refine hiload_n X dX1_putOnPhase_61 rfl ?_
        refine hiald (n := 20) (f := F 2) X 6 rfl s rfl (by omega) (by decide) dX1_putOnPhase_62 ?_
        refine hiadd X dX1_putOnPhase_63 ?_
        refine histore_n (lv' := [(3, .int ((F 17 1) + (F 2 s))), (2, .int 1), (0, .ref (h 0)), (1, .int (nI s))]) X dX1_putOnPhase_64 (by decide) rfl ?_
        refine hiload_n X dX1_putOnPhase_65 rfl ?_
        refine haload_n X dX1_putOnPhase_66 rfl ?_
        refine hget1 X (T := TX1) (N := 7) iX1 0 rfl rfl 0 (by decide) (by decide +kernel) rfl dX1_putOnPhase_67 ?_
        refine hiconst (v := 2) X dX1_putOnPhase_70 rfl ?_
        refine hiald (n := 3) (f := F 16) X 1 rfl 2 rfl (by omega) (by decide) dX1_putOnPhase_71 ?_
        refine hicmp_le (tgt := 76) X dX1_putOnPhase_72 (by decide) (fun c13 => ?_) (fun c13 => ?_)
        · refine haload_n X dX1_putOnPhase_76 rfl ?_
          refine hget1 X (T := TX1) (N := 7) iX1 0 rfl rfl 1 (by decide) (by decide +kernel) rfl dX1_putOnPhase_77 ?_
          refine hiload_n X dX1_putOnPhase_80 rfl ?_
          refine hiload_n X dX1_putOnPhase_81 rfl ?_
          refine hiast (n := 3) (f := F 17) X 2 rfl 1 rfl (by omega) (by decide) dX1_putOnPhase_82 (ws' := haW G h n c (fs F 17 1 ((F 17 1) + (F 2 s)))) (haWs17 G h _ _ _ _ _) ?_
          refine haload_n X dX1_putOnPhase_83 rfl ?_
          refine hget1 X (T := TX1) (N := 7) iX1 0 rfl rfl 2 (by decide) (by decide +kernel) rfl dX1_putOnPhase_84 ?_
          refine hgetN X (T := TX6) (N := 11) iX6 3 rfl rfl 7 (by decide) (by decide +kernel) rfl dX1_putOnPhase_87 ?_
          refine hiload_n X dX1_putOnPhase_90 rfl ?_
          refine hiload_n X dX1_putOnPhase_91 rfl ?_
          refine hiast (n := 20) (f := (fs F 17 1 ((F 17 1) + (F 2 s))) 6) X 10 rfl s rfl (by omega) (by decide) dX1_putOnPhase_92 (ws' := haW G h n c (fs (fs F 17 1 ((F 17 1) + (F 2 s))) 6 s 1)) (haWs6 G h _ _ _ _ _) ?_
          refine hvret X dX1_putOnPhase_93 ⟨rfl, ?_⟩
          refine congrArg (haW G h n c) (?_ : (fs (fs F 17 1 ((F 17 1) + (F 2 s))) 6 s 1 : hF) = poP F s)
          simp [poP, phL, nI_0, show nI 1 = 1 from rfl, show nI 2 = 2 from rfl, c1, c3, c11, c13]
        · refine hvret X dX1_putOnPhase_75 ⟨rfl, ?_⟩
          refine congrArg (haW G h n c) (?_ : (F : hF) = poP F s)
          simp [poP, phL, nI_0, show nI 1 = 1 from rfl, show nI 2 = 2 from rfl, c1, c3, c11, c13]
      · refine hiload_n X dX1_putOnPhase_40 rfl ?_
        refine histore_n (lv' := [(2, .int 2), (3, .int 2), (0, .ref (h 0)), (1, .int (nI s))]) X dX1_putOnPhase_41 (by decide) rfl ?_
        refine hiinc (v := 3) (lv' := [(3, .int 3), (2, .int 2), (0, .ref (h 0)), (1, .int (nI s))]) X dX1_putOnPhase_42 rfl rfl (by decide) rfl ?_
        refine hgoto (tgt := 16) X dX1_putOnPhase_45 (by decide) ?_
        refine hiload_n X dX1_putOnPhase_16 rfl ?_
        refine haload_n X dX1_putOnPhase_17 rfl ?_
        refine hget1 X (T := TX1) (N := 7) iX1 0 rfl rfl 1 (by decide) (by decide +kernel) rfl dX1_putOnPhase_18 ?_
        refine hialen X 2 0 rfl rfl (v := 3) rfl dX1_putOnPhase_21 ?_
        refine hicmp_ge (tgt := 48) X dX1_putOnPhase_22 (by decide) (fun c14 => ?_) (fun c14 => ?_)
        rotate_left
        · exact absurd (by decide) c14
        refine haload_n X dX1_putOnPhase_48 rfl ?_
        refine hget1 X (T := TX1) (N := 7) iX1 0 rfl rfl 1 (by decide) (by decide +kernel) rfl dX1_putOnPhase_49 ?_
        refine hiload_n X dX1_putOnPhase_52 rfl ?_
        refine hiald (n := 3) (f := F 17) X 2 rfl 2 rfl (by omega) (by decide) dX1_putOnPhase_53 ?_
        refine haload_n X dX1_putOnPhase_54 rfl ?_
        refine hget1 X (T := TX1) (N := 7) iX1 0 rfl rfl 2 (by decide) (by decide +kernel) rfl dX1_putOnPhase_55 ?_
        refine hgetN X (T := TX6) (N := 11) iX6 3 rfl rfl 3 (by decide) (by decide +kernel) rfl dX1_putOnPhase_58 ?_
        refine hiload_n X dX1_putOnPhase_61 rfl ?_
        refine hiald (n := 20) (f := F 2) X 6 rfl s rfl (by omega) (by decide) dX1_putOnPhase_62 ?_
        refine hiadd X dX1_putOnPhase_63 ?_
        refine histore_n (lv' := [(3, .int ((F 17 2) + (F 2 s))), (2, .int 2), (0, .ref (h 0)), (1, .int (nI s))]) X dX1_putOnPhase_64 (by decide) rfl ?_
        refine hiload_n X dX1_putOnPhase_65 rfl ?_
        refine haload_n X dX1_putOnPhase_66 rfl ?_
        refine hget1 X (T := TX1) (N := 7) iX1 0 rfl rfl 0 (by decide) (by decide +kernel) rfl dX1_putOnPhase_67 ?_
        refine hiconst (v := 2) X dX1_putOnPhase_70 rfl ?_
        refine hiald (n := 3) (f := F 16) X 1 rfl 2 rfl (by omega) (by decide) dX1_putOnPhase_71 ?_
        refine hicmp_le (tgt := 76) X dX1_putOnPhase_72 (by decide) (fun c15 => ?_) (fun c15 => ?_)
        · refine haload_n X dX1_putOnPhase_76 rfl ?_
          refine hget1 X (T := TX1) (N := 7) iX1 0 rfl rfl 1 (by decide) (by decide +kernel) rfl dX1_putOnPhase_77 ?_
          refine hiload_n X dX1_putOnPhase_80 rfl ?_
          refine hiload_n X dX1_putOnPhase_81 rfl ?_
          refine hiast (n := 3) (f := F 17) X 2 rfl 2 rfl (by omega) (by decide) dX1_putOnPhase_82 (ws' := haW G h n c (fs F 17 2 ((F 17 2) + (F 2 s)))) (haWs17 G h _ _ _ _ _) ?_
          refine haload_n X dX1_putOnPhase_83 rfl ?_
          refine hget1 X (T := TX1) (N := 7) iX1 0 rfl rfl 2 (by decide) (by decide +kernel) rfl dX1_putOnPhase_84 ?_
          refine hgetN X (T := TX6) (N := 11) iX6 3 rfl rfl 7 (by decide) (by decide +kernel) rfl dX1_putOnPhase_87 ?_
          refine hiload_n X dX1_putOnPhase_90 rfl ?_
          refine hiload_n X dX1_putOnPhase_91 rfl ?_
          refine hiast (n := 20) (f := (fs F 17 2 ((F 17 2) + (F 2 s))) 6) X 10 rfl s rfl (by omega) (by decide) dX1_putOnPhase_92 (ws' := haW G h n c (fs (fs F 17 2 ((F 17 2) + (F 2 s))) 6 s 2)) (haWs6 G h _ _ _ _ _) ?_
          refine hvret X dX1_putOnPhase_93 ⟨rfl, ?_⟩
          refine congrArg (haW G h n c) (?_ : (fs (fs F 17 2 ((F 17 2) + (F 2 s))) 6 s 2 : hF) = poP F s)
          simp [poP, phL, nI_0, show nI 1 = 1 from rfl, show nI 2 = 2 from rfl, c1, c3, c11, c15]
        · refine hvret X dX1_putOnPhase_75 ⟨rfl, ?_⟩
          refine congrArg (haW G h n c) (?_ : (F : hF) = poP F s)
          simp [poP, phL, nI_0, show nI 1 = 1 from rfl, show nI 2 = 2 from rfl, c1, c3, c11, c15]
  · exact (c1 (has_nI (by omega) hs)).elim

set_option maxHeartbeats 4000000 in
set_option maxRecDepth 100000 in
theorem kX1_finish (l : Launch) (G : hG) (h : Nat → Nat) (F : hF) (n c : Nat) (hn : n ≤ 20) (hc : c ≤ 6) (j s : Nat) (hj : j < c) (hs : s < n) : hM l G yX1_finish wsX1_finish ({ frames := 3, cells := 0, slots := 0, locals := 84 }) (haW G h n c F) [.ref (h 0), .int (nI j), .int (nI s)] (hR none (haW G h n c (fiH F j s))) := by
  refine hM_of (cc := cX1_finish) (maxL := 3) (ret := none) (by decide) rfl (Nat.le_of_ble_eq_true rfl) ?_
  intro pp ee ss mm aa bb me cd X hin
  have iX0 : ∀ w ∈ wsX00, w ∈ wsX1_finish := by decide +kernel
  have iX1 : ∀ w ∈ wsX10, w ∈ wsX1_finish := by decide +kernel
  have iX6 : ∀ w ∈ wsX60, w ∈ wsX1_finish := by decide +kernel
  refine hiload_n X dX1_finish_0 rfl ?_
  refine hif_lt (tgt := 26) X dX1_finish_1 (by decide) (fun c1 => ?_) (fun c1 => ?_)
  · exact (nI_pos (by omega) c1).elim
  · refine hiload_n X dX1_finish_4 rfl ?_
    refine haload_n X dX1_finish_5 rfl ?_
    refine hget1 X (T := TX1) (N := 7) iX1 0 rfl rfl 3 (by decide) (by decide +kernel) rfl dX1_finish_6 ?_
    refine hgetN X (T := TX0) (N := 7) iX0 14 rfl rfl 0 (by decide) (by decide +kernel) rfl dX1_finish_9 ?_
    refine hicmp_ge (tgt := 26) X dX1_finish_12 (by decide) (fun c2 => ?_) (fun c2 => ?_)
    · exact (nI_ge hj (by omega) c2).elim
    · refine haload_n X dX1_finish_15 rfl ?_
      refine hget1 X (T := TX1) (N := 7) iX1 0 rfl rfl 2 (by decide) (by decide +kernel) rfl dX1_finish_16 ?_
      refine hiload_n X dX1_finish_19 rfl ?_
      refine hV_perm (ws' := stW G h n F ++ hrS G h c F) (pmS G h _ _ _) ?_
      refine hcallVr (C := RX6) (T := TX6) (N := 11) (As := [.int (nI s)]) (rest := []) (st' := [.int (bI (hhas n (nI s)))]) (w := stW G h n F) X (q0 := 0) (kX6_has l G h F n (nI s)) gX1_finish_X6_has rfl (n := 1) (by decide +kernel) (by decide) rfl rfl rfl rfl (Nat.le_of_ble_eq_true rfl) dX1_finish_20 rfl rfl (by decide) rfl ?_
      refine hV_perm (ws' := haW G h n c F) (pmS G h _ _ _).symm ?_
      refine hif_neB (tgt := 27) X dX1_finish_23 (by decide) (fun c3 => ?_) (fun c3 => ?_)
      · refine haload_n X dX1_finish_27 rfl ?_
        refine hget1 X (T := TX1) (N := 7) iX1 0 rfl rfl 3 (by decide) (by decide +kernel) rfl dX1_finish_28 ?_
        refine hgetN X (T := TX0) (N := 7) iX0 14 rfl rfl 3 (by decide) (by decide +kernel) rfl dX1_finish_31 ?_
        refine hiload_n X dX1_finish_34 rfl ?_
        refine hbipush (v := (-6)) X dX1_finish_35 rfl ?_
        refine hiast (n := 6) (f := F 12) X 17 rfl j rfl (by omega) (by decide) dX1_finish_37 (ws' := haW G h n c (fs F 12 j (-6))) (haWs12 G h _ _ _ _ _) ?_
        refine haload_n X dX1_finish_38 rfl ?_
        refine hget1 X (T := TX1) (N := 7) iX1 0 rfl rfl 2 (by decide) (by decide +kernel) rfl dX1_finish_39 ?_
        refine hgetN X (T := TX6) (N := 11) iX6 3 rfl rfl 8 (by decide) (by decide +kernel) rfl dX1_finish_42 ?_
        refine hiload_n X dX1_finish_45 rfl ?_
        refine hbipush (v := (-6)) X dX1_finish_46 rfl ?_
        refine hiast (n := 20) (f := (fs F 12 j (-6)) 7) X 11 rfl s rfl (by omega) (by decide) dX1_finish_48 (ws' := haW G h n c (fs (fs F 12 j (-6)) 7 s (-6))) (haWs7 G h _ _ _ _ _) ?_
        refine haload_n X dX1_finish_49 rfl ?_
        refine hget1 X (T := TX1) (N := 7) iX1 0 rfl rfl 2 (by decide) (by decide +kernel) rfl dX1_finish_50 ?_
        refine hgetN X (T := TX6) (N := 11) iX6 3 rfl rfl 5 (by decide) (by decide +kernel) rfl dX1_finish_53 ?_
        refine hiload_n X dX1_finish_56 rfl ?_
        refine hiald (n := 20) (f := (fs (fs F 12 j (-6)) 7 s (-6)) 4) X 8 rfl s rfl (by omega) (by decide) dX1_finish_57 ?_
        have r4 : ((fs (fs F 12 j (-6)) 7 s (-6)) 4 s : Int32) = F 4 s := by rw [fs_ne _ _ _ (by decide), fs_ne _ _ _ (by decide)]
        refine hV_st (st' := [.int (F 4 s)]) (congrArg (fun z => Value.int z :: []) r4) ?_
        refine hiconst (v := 3) X dX1_finish_58 rfl ?_
        refine hicmp_ne (tgt := 93) X dX1_finish_59 (by decide) (fun c5 => ?_) (fun c5 => ?_)
        · refine haload_n X dX1_finish_93 rfl ?_
          refine hget1 X (T := TX1) (N := 7) iX1 0 rfl rfl 2 (by decide) (by decide +kernel) rfl dX1_finish_94 ?_
          refine hgetN X (T := TX6) (N := 11) iX6 3 rfl rfl 5 (by decide) (by decide +kernel) rfl dX1_finish_97 ?_
          refine hiload_n X dX1_finish_100 rfl ?_
          refine hbipush (v := 6) X dX1_finish_101 rfl ?_
          refine hiast (n := 20) (f := (fs (fs F 12 j (-6)) 7 s (-6)) 4) X 8 rfl s rfl (by omega) (by decide) dX1_finish_103 (ws' := haW G h n c (fs (fs (fs F 12 j (-6)) 7 s (-6)) 4 s 6)) (haWs4 G h _ _ _ _ _) ?_
          refine haload_n X dX1_finish_104 rfl ?_
          refine hget1 X (T := TX1) (N := 7) iX1 0 rfl rfl 3 (by decide) (by decide +kernel) rfl dX1_finish_105 ?_
          refine hgetN X (T := TX0) (N := 7) iX0 14 rfl rfl 6 (by decide) (by decide +kernel) rfl dX1_finish_108 ?_
          refine hiload_n X dX1_finish_111 rfl ?_
          refine hdup2 X dX1_finish_112 rfl rfl ?_
          refine hiald (n := 6) (f := (fs (fs (fs F 12 j (-6)) 7 s (-6)) 4 s 6) 15) X 20 rfl j rfl (by omega) (by decide) dX1_finish_113 ?_
          have r6 : ((fs (fs (fs F 12 j (-6)) 7 s (-6)) 4 s 6) 15 j : Int32) = F 15 j := by rw [fs_ne _ _ _ (by decide), fs_ne _ _ _ (by decide), fs_ne _ _ _ (by decide)]
          refine hV_st (st' := [.int (F 15 j), .int (nI j), .ref (h 20)]) (congrArg (fun z => Value.int z :: [.int (nI j), .ref (h 20)]) r6) ?_
          refine hiconst (v := 1) X dX1_finish_114 rfl ?_
          refine hiadd X dX1_finish_115 ?_
          refine hiast (n := 6) (f := (fs (fs (fs F 12 j (-6)) 7 s (-6)) 4 s 6) 15) X 20 rfl j rfl (by omega) (by decide) dX1_finish_116 (ws' := haW G h n c (fs (fs (fs (fs F 12 j (-6)) 7 s (-6)) 4 s 6) 15 j ((F 15 j) + 1))) (haWs15 G h _ _ _ _ _) ?_
          refine hiload_n X dX1_finish_117 rfl ?_
          refine haload_n X dX1_finish_118 rfl ?_
          refine hget1 X (T := TX1) (N := 7) iX1 0 rfl rfl 4 (by decide) (by decide +kernel) rfl dX1_finish_119 ?_
          have r7 : ((fs (fs (fs (fs F 12 j (-6)) 7 s (-6)) 4 s 6) 15 j ((F 15 j) + 1)) 18 0 : Int32) = F 18 0 := by rw [fs_ne _ _ _ (by decide), fs_ne _ _ _ (by decide), fs_ne _ _ _ (by decide), fs_ne _ _ _ (by decide)]
          refine hV_st (st' := [.int (F 18 0), .int (nI s)]) (congrArg (fun z => Value.int z :: [.int (nI s)]) r7) ?_
          refine hiadd X dX1_finish_122 ?_
          refine hiconst (v := 4) X dX1_finish_123 rfl ?_
          refine hirem X dX1_finish_124 (by decide) ?_
          refine hif_ne (tgt := 138) X dX1_finish_125 (by decide) (fun c8 => ?_) (fun c8 => ?_)
          · refine hvret X dX1_finish_138 ⟨rfl, ?_⟩
            refine congrArg (haW G h n c) (?_ : (fs (fs (fs (fs F 12 j (-6)) 7 s (-6)) 4 s 6) 15 j ((F 15 j) + 1) : hF) = fiH F j s)
            simp [fiH, c1, c2, c3, c5, c8]
          · refine haload_n X dX1_finish_128 rfl ?_
            refine hdup X dX1_finish_129 rfl ?_
            refine hget1 X (T := TX1) (N := 7) iX1 0 rfl rfl 6 (by decide) (by decide +kernel) rfl dX1_finish_130 ?_
            have r9 : ((fs (fs (fs (fs F 12 j (-6)) 7 s (-6)) 4 s 6) 15 j ((F 15 j) + 1)) 18 2 : Int32) = F 18 2 := by rw [fs_ne _ _ _ (by decide), fs_ne _ _ _ (by decide), fs_ne _ _ _ (by decide), fs_ne _ _ _ (by decide)]
            refine hV_st (st' := [.int (F 18 2), .ref (h 0)]) (congrArg (fun z => Value.int z :: [.ref (h 0)]) r9) ?_
            refine hiconst (v := 1) X dX1_finish_133 rfl ?_
            refine hiadd X dX1_finish_134 ?_
            refine hput1 X (T := TX1) (N := 7) iX1 tyX1 tyX1_ok nmX1 0 rfl rfl 6 (by decide) (by decide +kernel) (by decide +kernel) rfl rfl (Nat.le_of_ble_eq_true rfl) dX1_finish_135 (ws' := haW G h n c (fs (fs (fs (fs (fs F 12 j (-6)) 7 s (-6)) 4 s 6) 15 j ((F 15 j) + 1)) 18 2 ((F 18 2) + 1))) (haWf6 G h _ _ _ _) ?_
            refine hvret X dX1_finish_138 ⟨rfl, ?_⟩
            refine congrArg (haW G h n c) (?_ : (fs (fs (fs (fs (fs F 12 j (-6)) 7 s (-6)) 4 s 6) 15 j ((F 15 j) + 1)) 18 2 ((F 18 2) + 1) : hF) = fiH F j s)
            simp [fiH, c1, c2, c3, c5, c8]
        · refine haload_n X dX1_finish_62 rfl ?_
          refine hget1 X (T := TX1) (N := 7) iX1 0 rfl rfl 2 (by decide) (by decide +kernel) rfl dX1_finish_63 ?_
          refine hgetN X (T := TX6) (N := 11) iX6 3 rfl rfl 5 (by decide) (by decide +kernel) rfl dX1_finish_66 ?_
          refine hiload_n X dX1_finish_69 rfl ?_
          refine hiconst (v := 4) X dX1_finish_70 rfl ?_
          refine hiast (n := 20) (f := (fs (fs F 12 j (-6)) 7 s (-6)) 4) X 8 rfl s rfl (by omega) (by decide) dX1_finish_71 (ws' := haW G h n c (fs (fs (fs F 12 j (-6)) 7 s (-6)) 4 s 4)) (haWs4 G h _ _ _ _ _) ?_
          refine haload_n X dX1_finish_72 rfl ?_
          refine hget1 X (T := TX1) (N := 7) iX1 0 rfl rfl 3 (by decide) (by decide +kernel) rfl dX1_finish_73 ?_
          refine hgetN X (T := TX0) (N := 7) iX0 14 rfl rfl 5 (by decide) (by decide +kernel) rfl dX1_finish_76 ?_
          refine hiload_n X dX1_finish_79 rfl ?_
          refine hdup2 X dX1_finish_80 rfl rfl ?_
          refine hiald (n := 6) (f := (fs (fs (fs F 12 j (-6)) 7 s (-6)) 4 s 4) 14) X 19 rfl j rfl (by omega) (by decide) dX1_finish_81 ?_
          have r10 : ((fs (fs (fs F 12 j (-6)) 7 s (-6)) 4 s 4) 14 j : Int32) = F 14 j := by rw [fs_ne _ _ _ (by decide), fs_ne _ _ _ (by decide), fs_ne _ _ _ (by decide)]
          refine hV_st (st' := [.int (F 14 j), .int (nI j), .ref (h 19)]) (congrArg (fun z => Value.int z :: [.int (nI j), .ref (h 19)]) r10) ?_
          refine hiconst (v := 1) X dX1_finish_82 rfl ?_
          refine hiadd X dX1_finish_83 ?_
          refine hiast (n := 6) (f := (fs (fs (fs F 12 j (-6)) 7 s (-6)) 4 s 4) 14) X 19 rfl j rfl (by omega) (by decide) dX1_finish_84 (ws' := haW G h n c (fs (fs (fs (fs F 12 j (-6)) 7 s (-6)) 4 s 4) 14 j ((F 14 j) + 1))) (haWs14 G h _ _ _ _ _) ?_
          refine haload_n X dX1_finish_85 rfl ?_
          refine hiload_n X dX1_finish_86 rfl ?_
          refine hcallV0 (C := RX1) (T := TX1) (N := 7) (As := [.int (nI s)]) (rest := []) (st' := []) (w := haW G h n c (poP (fs (fs (fs (fs F 12 j (-6)) 7 s (-6)) 4 s 4) 14 j ((F 14 j) + 1)) s)) X (q0 := 0) (kX1_putOnPhase l G h (fs (fs (fs (fs F 12 j (-6)) 7 s (-6)) 4 s 4) 14 j ((F 14 j) + 1)) n c (by first | assumption | omega | simp [fs_at, *]) (by first | assumption | omega | simp [fs_at, *]) s (by first | assumption | omega | simp [fs_at, *])) gX1_finish_X1_putOnPhase rfl (n := 1) (by decide +kernel) (by decide) rfl rfl rfl rfl (Nat.le_of_ble_eq_true rfl) dX1_finish_87 rfl rfl (by decide) rfl ?_
          refine hgoto (tgt := 138) X dX1_finish_90 (by decide) ?_
          refine hvret X dX1_finish_138 ⟨rfl, ?_⟩
          refine congrArg (haW G h n c) (?_ : (poP (fs (fs (fs (fs F 12 j (-6)) 7 s (-6)) 4 s 4) 14 j ((F 14 j) + 1)) s : hF) = fiH F j s)
          simp [fiH, c1, c2, c3, c5]
      · exact (c3 (has_nI (by omega) hs)).elim

set_option maxHeartbeats 4000000 in
set_option maxRecDepth 100000 in
theorem kX1_crewsWork (l : Launch) (G : hG) (h : Nat → Nat) (F : hF) (n c : Nat) (hn : n ≤ 20) (hc : c ≤ 6) (x : Int32) : hM l G yX1_crewsWork wsX1_crewsWork ({ frames := 4, cells := 0, slots := 0, locals := 106 }) (haW G h n c F) [.ref (h 0), .int x] (hR (some (.int ((cwH n c x F).2))) (haW G h n c ((cwH n c x F).1))) := by
  refine hM_of (cc := cX1_crewsWork) (maxL := 5) (ret := (some .int)) (by decide) rfl (Nat.le_of_ble_eq_true rfl) ?_
  intro pp ee ss mm aa bb me cd X hin
  have iX0 : ∀ w ∈ wsX00, w ∈ wsX1_crewsWork := by decide +kernel
  have iX1 : ∀ w ∈ wsX10, w ∈ wsX1_crewsWork := by decide +kernel
  have iX6 : ∀ w ∈ wsX60, w ∈ wsX1_crewsWork := by decide +kernel
  have L : ∀ (d : Nat) (k : Nat), (k ≤ c) → (c - k) < d → hV pp l ee ({ frames := 4, cells := 0, slots := 0, locals := 106 }) ss mm aa bb me cd G (va_A (haW G h n c F) ss.heap.size) 5 0 0 (MQ bb (hQc G (haW G h n c F) ss.heap.size (hR (some (.int ((cwH n c x F).2))) (haW G h n c ((cwH n c x F).1)))) aa ss 0 0 (va_A (haW G h n c F) ss.heap.size)) (haW G h n c ((itN k (ckS n x) (F, 0)).1)) 4 [(3, .int (nI k)), (2, .int ((itN k (ckS n x) (F, 0)).2)), (0, .ref (h 0)), (1, .int x)] [] := by
    intro d
    induction d with
    | zero =>
      intro k hk hd0
      exact absurd hd0 (Nat.not_lt_zero _)
    | succ d ih =>
      intro k hk hd0
      refine hiload_n X dX1_crewsWork_4 rfl ?_
      refine haload_n X dX1_crewsWork_5 rfl ?_
      refine hget1 X (T := TX1) (N := 7) iX1 0 rfl rfl 3 (by decide) (by decide +kernel) rfl dX1_crewsWork_6 ?_
      refine hgetN X (T := TX0) (N := 7) iX0 14 rfl rfl 0 (by decide) (by decide +kernel) rfl dX1_crewsWork_9 ?_
      refine hicmp_ge (tgt := 136) X dX1_crewsWork_12 (by decide) (fun c1 => ?_) (fun c1 => ?_)
      · have ek := i_ge hk (by omega) c1
        refine hiload_n X dX1_crewsWork_136 rfl ?_
        refine hiret X dX1_crewsWork_137 ⟨congrArg (fun z => some (Value.int z)) (?_ : ((itN k (ckS n x) (F, 0)).2) = (cwH n c x F).2), ?_⟩
        · simp [cwH, ek]
        refine congrArg (haW G h n c) (?_ : ((itN k (ckS n x) (F, 0)).1 : hF) = (cwH n c x F).1)
        simp [cwH, ek]
      · have hk1 := i_lt hk (by omega) c1
        refine haload_n X dX1_crewsWork_15 rfl ?_
        refine hget1 X (T := TX1) (N := 7) iX1 0 rfl rfl 3 (by decide) (by decide +kernel) rfl dX1_crewsWork_16 ?_
        refine hgetN X (T := TX0) (N := 7) iX0 14 rfl rfl 3 (by decide) (by decide +kernel) rfl dX1_crewsWork_19 ?_
        refine hiload_n X dX1_crewsWork_22 rfl ?_
        refine hiald (n := 6) (f := ((itN k (ckS n x) (F, 0)).1) 12) X 17 rfl k rfl (by omega) (by decide) dX1_crewsWork_23 ?_
        refine histore (lv' := [(4, .int (((itN k (ckS n x) (F, 0)).1) 12 k)), (3, .int (nI k)), (2, .int ((itN k (ckS n x) (F, 0)).2)), (0, .ref (h 0)), (1, .int x)]) X dX1_crewsWork_24 (by decide) rfl ?_
        refine haload_n X dX1_crewsWork_26 rfl ?_
        refine hget1 X (T := TX1) (N := 7) iX1 0 rfl rfl 2 (by decide) (by decide +kernel) rfl dX1_crewsWork_27 ?_
        refine hiload X dX1_crewsWork_30 rfl ?_
        refine hV_perm (ws' := stW G h n ((itN k (ckS n x) (F, 0)).1) ++ hrS G h c ((itN k (ckS n x) (F, 0)).1)) (pmS G h _ _ _) ?_
        refine hcallVr (C := RX6) (T := TX6) (N := 11) (As := [.int (((itN k (ckS n x) (F, 0)).1) 12 k)]) (rest := []) (st' := [.int (bI (hhas n (((itN k (ckS n x) (F, 0)).1) 12 k)))]) (w := stW G h n ((itN k (ckS n x) (F, 0)).1)) X (q0 := 0) (kX6_has l G h ((itN k (ckS n x) (F, 0)).1) n (((itN k (ckS n x) (F, 0)).1) 12 k)) gX1_crewsWork_X6_has rfl (n := 1) (by decide +kernel) (by decide) rfl rfl rfl rfl (Nat.le_of_ble_eq_true rfl) dX1_crewsWork_32 rfl rfl (by decide) rfl ?_
        refine hV_perm (ws' := haW G h n c ((itN k (ckS n x) (F, 0)).1)) (pmS G h _ _ _).symm ?_
        refine hif_neB (tgt := 41) X dX1_crewsWork_35 (by decide) (fun c2 => ?_) (fun c2 => ?_)
        · obtain ⟨s, hs, hx⟩ := has_in (by omega) c2
          refine haload_n X dX1_crewsWork_41 rfl ?_
          refine hget1 X (T := TX1) (N := 7) iX1 0 rfl rfl 3 (by decide) (by decide +kernel) rfl dX1_crewsWork_42 ?_
          refine hgetN X (T := TX0) (N := 7) iX0 14 rfl rfl 4 (by decide) (by decide +kernel) rfl dX1_crewsWork_45 ?_
          refine hiload_n X dX1_crewsWork_48 rfl ?_
          refine hdup2 X dX1_crewsWork_49 rfl rfl ?_
          refine hiald (n := 6) (f := ((itN k (ckS n x) (F, 0)).1) 13) X 18 rfl k rfl (by omega) (by decide) dX1_crewsWork_50 ?_
          refine hiload_n X dX1_crewsWork_51 rfl ?_
          refine hiadd X dX1_crewsWork_52 ?_
          refine hiast (n := 6) (f := ((itN k (ckS n x) (F, 0)).1) 13) X 18 rfl k rfl (by omega) (by decide) dX1_crewsWork_53 (ws' := haW G h n c (fs ((itN k (ckS n x) (F, 0)).1) 13 k ((((itN k (ckS n x) (F, 0)).1) 13 k) + x))) (haWs13 G h _ _ _ _ _) ?_
          refine haload_n X dX1_crewsWork_54 rfl ?_
          refine hget1 X (T := TX1) (N := 7) iX1 0 rfl rfl 2 (by decide) (by decide +kernel) rfl dX1_crewsWork_55 ?_
          refine hgetN X (T := TX6) (N := 11) iX6 3 rfl rfl 9 (by decide) (by decide +kernel) rfl dX1_crewsWork_58 ?_
          refine hiload X dX1_crewsWork_61 rfl ?_
          refine hdup2 X dX1_crewsWork_63 rfl rfl ?_
          refine hV_st (st' := [.int (nI s), .ref (h 12), .int (((itN k (ckS n x) (F, 0)).1) 12 k), .ref (h 12)]) (congrArg (fun z => ([Value.int z, .ref (h 12), .int (((itN k (ckS n x) (F, 0)).1) 12 k), .ref (h 12)] : List Value)) (hx)) ?_
          refine hiald (n := 20) (f := (fs ((itN k (ckS n x) (F, 0)).1) 13 k ((((itN k (ckS n x) (F, 0)).1) 13 k) + x)) 8) X 12 rfl s rfl (by omega) (by decide) dX1_crewsWork_64 ?_
          have r3 : ((fs ((itN k (ckS n x) (F, 0)).1) 13 k ((((itN k (ckS n x) (F, 0)).1) 13 k) + x)) 8 s : Int32) = ((itN k (ckS n x) (F, 0)).1) 8 s := by rw [fs_ne _ _ _ (by decide)]
          refine hV_st (st' := [.int (((itN k (ckS n x) (F, 0)).1) 8 s), .int (((itN k (ckS n x) (F, 0)).1) 12 k), .ref (h 12)]) (congrArg (fun z => Value.int z :: [.int (((itN k (ckS n x) (F, 0)).1) 12 k), .ref (h 12)]) r3) ?_
          refine hiload_n X dX1_crewsWork_65 rfl ?_
          refine hiadd X dX1_crewsWork_66 ?_
          refine hV_st (st' := [.int ((((itN k (ckS n x) (F, 0)).1) 8 s) + x), .int (nI s), .ref (h 12)]) (congrArg (fun z => ([.int ((((itN k (ckS n x) (F, 0)).1) 8 s) + x), Value.int z, .ref (h 12)] : List Value)) (hx)) ?_
          refine hiast (n := 20) (f := (fs ((itN k (ckS n x) (F, 0)).1) 13 k ((((itN k (ckS n x) (F, 0)).1) 13 k) + x)) 8) X 12 rfl s rfl (by omega) (by decide) dX1_crewsWork_67 (ws' := haW G h n c (fs (fs ((itN k (ckS n x) (F, 0)).1) 13 k ((((itN k (ckS n x) (F, 0)).1) 13 k) + x)) 8 s ((((itN k (ckS n x) (F, 0)).1) 8 s) + x))) (haWs8 G h _ _ _ _ _) ?_
          refine haload_n X dX1_crewsWork_68 rfl ?_
          refine hget1 X (T := TX1) (N := 7) iX1 0 rfl rfl 2 (by decide) (by decide +kernel) rfl dX1_crewsWork_69 ?_
          refine hgetN X (T := TX6) (N := 11) iX6 3 rfl rfl 6 (by decide) (by decide +kernel) rfl dX1_crewsWork_72 ?_
          refine hiload X dX1_crewsWork_75 rfl ?_
          refine hiconst (v := 0) X dX1_crewsWork_77 rfl ?_
          refine haload_n X dX1_crewsWork_78 rfl ?_
          refine hget1 X (T := TX1) (N := 7) iX1 0 rfl rfl 2 (by decide) (by decide +kernel) rfl dX1_crewsWork_79 ?_
          refine hgetN X (T := TX6) (N := 11) iX6 3 rfl rfl 6 (by decide) (by decide +kernel) rfl dX1_crewsWork_82 ?_
          refine hiload X dX1_crewsWork_85 rfl ?_
          refine hV_st (st' := [.int (nI s), .ref (h 9), .int 0, .int (((itN k (ckS n x) (F, 0)).1) 12 k), .ref (h 9)]) (congrArg (fun z => ([Value.int z, .ref (h 9), .int 0, .int (((itN k (ckS n x) (F, 0)).1) 12 k), .ref (h 9)] : List Value)) (hx)) ?_
          refine hiald (n := 20) (f := (fs (fs ((itN k (ckS n x) (F, 0)).1) 13 k ((((itN k (ckS n x) (F, 0)).1) 13 k) + x)) 8 s ((((itN k (ckS n x) (F, 0)).1) 8 s) + x)) 5) X 9 rfl s rfl (by omega) (by decide) dX1_crewsWork_87 ?_
          have r4 : ((fs (fs ((itN k (ckS n x) (F, 0)).1) 13 k ((((itN k (ckS n x) (F, 0)).1) 13 k) + x)) 8 s ((((itN k (ckS n x) (F, 0)).1) 8 s) + x)) 5 s : Int32) = ((itN k (ckS n x) (F, 0)).1) 5 s := by rw [fs_ne _ _ _ (by decide), fs_ne _ _ _ (by decide)]
          refine hV_st (st' := [.int (((itN k (ckS n x) (F, 0)).1) 5 s), .int 0, .int (((itN k (ckS n x) (F, 0)).1) 12 k), .ref (h 9)]) (congrArg (fun z => Value.int z :: [.int 0, .int (((itN k (ckS n x) (F, 0)).1) 12 k), .ref (h 9)]) r4) ?_
          refine hiload_n X dX1_crewsWork_88 rfl ?_
          refine haload_n X dX1_crewsWork_89 rfl ?_
          refine hget1 X (T := TX1) (N := 7) iX1 0 rfl rfl 3 (by decide) (by decide +kernel) rfl dX1_crewsWork_90 ?_
          refine hgetN X (T := TX0) (N := 7) iX0 14 rfl rfl 1 (by decide) (by decide +kernel) rfl dX1_crewsWork_93 ?_
          refine hiload_n X dX1_crewsWork_96 rfl ?_
          refine hiald (n := 6) (f := (fs (fs ((itN k (ckS n x) (F, 0)).1) 13 k ((((itN k (ckS n x) (F, 0)).1) 13 k) + x)) 8 s ((((itN k (ckS n x) (F, 0)).1) 8 s) + x)) 10) X 15 rfl k rfl (by omega) (by decide) dX1_crewsWork_97 ?_
          have r5 : ((fs (fs ((itN k (ckS n x) (F, 0)).1) 13 k ((((itN k (ckS n x) (F, 0)).1) 13 k) + x)) 8 s ((((itN k (ckS n x) (F, 0)).1) 8 s) + x)) 10 k : Int32) = ((itN k (ckS n x) (F, 0)).1) 10 k := by rw [fs_ne _ _ _ (by decide), fs_ne _ _ _ (by decide)]
          refine hV_st (st' := [.int (((itN k (ckS n x) (F, 0)).1) 10 k), .int x, .int (((itN k (ckS n x) (F, 0)).1) 5 s), .int 0, .int (((itN k (ckS n x) (F, 0)).1) 12 k), .ref (h 9)]) (congrArg (fun z => Value.int z :: [.int x, .int (((itN k (ckS n x) (F, 0)).1) 5 s), .int 0, .int (((itN k (ckS n x) (F, 0)).1) 12 k), .ref (h 9)]) r5) ?_
          refine himul X dX1_crewsWork_98 ?_
          refine hisub X dX1_crewsWork_99 ?_
          refine hmmax X (by decide +kernel) (by decide +kernel) (by decide +kernel) (by decide +kernel) (by decide) (Nat.le_of_ble_eq_true rfl) (by decide) (by decide) dX1_crewsWork_100 ?_
          refine hV_st (st' := [.int (mx0 ((((itN k (ckS n x) (F, 0)).1) 5 s) - (x * (((itN k (ckS n x) (F, 0)).1) 10 k)))), .int (((itN k (ckS n x) (F, 0)).1) 12 k), .ref (h 9)]) (congrArg (fun z => ([Value.int z, .int (((itN k (ckS n x) (F, 0)).1) 12 k), .ref (h 9)] : List Value)) (rfl)) ?_
          refine hV_st (st' := [.int (mx0 ((((itN k (ckS n x) (F, 0)).1) 5 s) - (x * (((itN k (ckS n x) (F, 0)).1) 10 k)))), .int (nI s), .ref (h 9)]) (congrArg (fun z => ([.int (mx0 ((((itN k (ckS n x) (F, 0)).1) 5 s) - (x * (((itN k (ckS n x) (F, 0)).1) 10 k)))), Value.int z, .ref (h 9)] : List Value)) (hx)) ?_
          refine hiast (n := 20) (f := (fs (fs ((itN k (ckS n x) (F, 0)).1) 13 k ((((itN k (ckS n x) (F, 0)).1) 13 k) + x)) 8 s ((((itN k (ckS n x) (F, 0)).1) 8 s) + x)) 5) X 9 rfl s rfl (by omega) (by decide) dX1_crewsWork_103 (ws' := haW G h n c (fs (fs (fs ((itN k (ckS n x) (F, 0)).1) 13 k ((((itN k (ckS n x) (F, 0)).1) 13 k) + x)) 8 s ((((itN k (ckS n x) (F, 0)).1) 8 s) + x)) 5 s (mx0 ((((itN k (ckS n x) (F, 0)).1) 5 s) - (x * (((itN k (ckS n x) (F, 0)).1) 10 k)))))) (haWs5 G h _ _ _ _ _) ?_
          refine haload_n X dX1_crewsWork_104 rfl ?_
          refine hget1 X (T := TX1) (N := 7) iX1 0 rfl rfl 2 (by decide) (by decide +kernel) rfl dX1_crewsWork_105 ?_
          refine hgetN X (T := TX6) (N := 11) iX6 3 rfl rfl 6 (by decide) (by decide +kernel) rfl dX1_crewsWork_108 ?_
          refine hiload X dX1_crewsWork_111 rfl ?_
          refine hV_st (st' := [.int (nI s), .ref (h 9)]) (congrArg (fun z => ([Value.int z, .ref (h 9)] : List Value)) (hx)) ?_
          refine hiald (n := 20) (f := (fs (fs (fs ((itN k (ckS n x) (F, 0)).1) 13 k ((((itN k (ckS n x) (F, 0)).1) 13 k) + x)) 8 s ((((itN k (ckS n x) (F, 0)).1) 8 s) + x)) 5 s (mx0 ((((itN k (ckS n x) (F, 0)).1) 5 s) - (x * (((itN k (ckS n x) (F, 0)).1) 10 k))))) 5) X 9 rfl s rfl (by omega) (by decide) dX1_crewsWork_113 ?_
          have r6 : ((fs (fs (fs ((itN k (ckS n x) (F, 0)).1) 13 k ((((itN k (ckS n x) (F, 0)).1) 13 k) + x)) 8 s ((((itN k (ckS n x) (F, 0)).1) 8 s) + x)) 5 s (mx0 ((((itN k (ckS n x) (F, 0)).1) 5 s) - (x * (((itN k (ckS n x) (F, 0)).1) 10 k))))) 5 s : Int32) = mx0 ((((itN k (ckS n x) (F, 0)).1) 5 s) - (x * (((itN k (ckS n x) (F, 0)).1) 10 k))) := by rw [fs_same]
          refine hV_st (st' := [.int (mx0 ((((itN k (ckS n x) (F, 0)).1) 5 s) - (x * (((itN k (ckS n x) (F, 0)).1) 10 k))))]) (congrArg (fun z => Value.int z :: []) r6) ?_
          refine hif_le (tgt := 120) X dX1_crewsWork_114 (by decide) (fun c7 => ?_) (fun c7 => ?_)
          · refine haload_n X dX1_crewsWork_120 rfl ?_
            refine hiload_n X dX1_crewsWork_121 rfl ?_
            refine hiload X dX1_crewsWork_122 rfl ?_
            refine hV_st (st' := [.int (nI s), .int (nI k), .ref (h 0)]) (congrArg (fun z => ([Value.int z, .int (nI k), .ref (h 0)] : List Value)) (hx)) ?_
            refine hcallV0 (C := RX1) (T := TX1) (N := 7) (As := [.int (nI k), .int (nI s)]) (rest := []) (st' := []) (w := haW G h n c (fiH (fs (fs (fs ((itN k (ckS n x) (F, 0)).1) 13 k ((((itN k (ckS n x) (F, 0)).1) 13 k) + x)) 8 s ((((itN k (ckS n x) (F, 0)).1) 8 s) + x)) 5 s (mx0 ((((itN k (ckS n x) (F, 0)).1) 5 s) - (x * (((itN k (ckS n x) (F, 0)).1) 10 k))))) k s)) X (q0 := 0) (kX1_finish l G h (fs (fs (fs ((itN k (ckS n x) (F, 0)).1) 13 k ((((itN k (ckS n x) (F, 0)).1) 13 k) + x)) 8 s ((((itN k (ckS n x) (F, 0)).1) 8 s) + x)) 5 s (mx0 ((((itN k (ckS n x) (F, 0)).1) 5 s) - (x * (((itN k (ckS n x) (F, 0)).1) 10 k))))) n c (by first | assumption | omega | simp [fs_at, *]) (by first | assumption | omega | simp [fs_at, *]) k s (by first | assumption | omega | simp [fs_at, *]) (by first | assumption | omega | simp [fs_at, *])) gX1_crewsWork_X1_finish rfl (n := 2) (by decide +kernel) (by decide) rfl rfl rfl rfl (Nat.le_of_ble_eq_true rfl) dX1_crewsWork_124 rfl rfl (by decide) rfl ?_
            refine hiinc (v := (itN k (ckS n x) (F, 0)).2 + 1) (lv' := [(2, .int ((itN k (ckS n x) (F, 0)).2 + 1)), (4, .int (((itN k (ckS n x) (F, 0)).1) 12 k)), (3, .int (nI k)), (0, .ref (h 0)), (1, .int x)]) X dX1_crewsWork_127 rfl rfl (by decide) rfl ?_
            refine hiinc (v := nI (k + 1)) (lv' := [(3, .int (nI (k + 1))), (2, .int ((itN k (ckS n x) (F, 0)).2 + 1)), (4, .int (((itN k (ckS n x) (F, 0)).1) 12 k)), (0, .ref (h 0)), (1, .int x)]) X dX1_crewsWork_130 rfl (nI_1 _) (by decide) rfl ?_
            refine hgoto (tgt := 4) X dX1_crewsWork_133 (by decide) ?_
            refine hV_lv (lv' := [(3, .int (nI (k + 1))), (2, .int ((itN k (ckS n x) (F, 0)).2 + 1)), (0, .ref (h 0)), (1, .int x)]) [0, 1, 3, 4] rfl ?_
            have e8 : ((itN k (ckS n x) (F, 0)).2 + 1 : Int32) = (itN (k + 1) (ckS n x) (F, 0)).2 := by
              simp only [itN, ckS]
              rw [if_pos c2]
              simp only [hx, nI_clamp (show s < 2 ^ 31 by omega)]
              rw [if_pos c7]
              first | done | rfl
            have w9 : (fiH (fs (fs (fs ((itN k (ckS n x) (F, 0)).1) 13 k ((((itN k (ckS n x) (F, 0)).1) 13 k) + x)) 8 s ((((itN k (ckS n x) (F, 0)).1) 8 s) + x)) 5 s (mx0 ((((itN k (ckS n x) (F, 0)).1) 5 s) - (x * (((itN k (ckS n x) (F, 0)).1) 10 k))))) k s : hF) = (itN (k + 1) (ckS n x) (F, 0)).1 := by
              simp only [itN, ckS]
              rw [if_pos c2]
              simp only [hx, nI_clamp (show s < 2 ^ 31 by omega)]
              rw [if_pos c7]
              first | done | rfl
            exact hV_to (ws' := haW G h n c ((itN (k + 1) (ckS n x) (F, 0)).1)) (lv' := [(3, .int (nI (k + 1))), (2, .int ((itN (k + 1) (ckS n x) (F, 0)).2)), (0, .ref (h 0)), (1, .int x)]) (st' := []) (congrArg (haW G h n c) w9) (congrArg (fun z => ([(3, .int (nI (k + 1))), (2, .int z), (0, .ref (h 0)), (1, .int x)] : List (Nat × Value))) e8) rfl (ih (k + 1) (by omega) (by omega))
          · refine hgoto (tgt := 130) X dX1_crewsWork_117 (by decide) ?_
            refine hiinc (v := nI (k + 1)) (lv' := [(3, .int (nI (k + 1))), (4, .int (((itN k (ckS n x) (F, 0)).1) 12 k)), (2, .int ((itN k (ckS n x) (F, 0)).2)), (0, .ref (h 0)), (1, .int x)]) X dX1_crewsWork_130 rfl (nI_1 _) (by decide) rfl ?_
            refine hgoto (tgt := 4) X dX1_crewsWork_133 (by decide) ?_
            refine hV_lv (lv' := [(3, .int (nI (k + 1))), (2, .int ((itN k (ckS n x) (F, 0)).2)), (0, .ref (h 0)), (1, .int x)]) [0, 2, 3, 4] rfl ?_
            have e10 : ((itN k (ckS n x) (F, 0)).2 : Int32) = (itN (k + 1) (ckS n x) (F, 0)).2 := by
              simp only [itN, ckS]
              rw [if_pos c2]
              simp only [hx, nI_clamp (show s < 2 ^ 31 by omega)]
              rw [if_neg c7]
              first | done | rfl
            have w11 : (fs (fs (fs ((itN k (ckS n x) (F, 0)).1) 13 k ((((itN k (ckS n x) (F, 0)).1) 13 k) + x)) 8 s ((((itN k (ckS n x) (F, 0)).1) 8 s) + x)) 5 s (mx0 ((((itN k (ckS n x) (F, 0)).1) 5 s) - (x * (((itN k (ckS n x) (F, 0)).1) 10 k)))) : hF) = (itN (k + 1) (ckS n x) (F, 0)).1 := by
              simp only [itN, ckS]
              rw [if_pos c2]
              simp only [hx, nI_clamp (show s < 2 ^ 31 by omega)]
              rw [if_neg c7]
              first | done | rfl
            exact hV_to (ws' := haW G h n c ((itN (k + 1) (ckS n x) (F, 0)).1)) (lv' := [(3, .int (nI (k + 1))), (2, .int ((itN (k + 1) (ckS n x) (F, 0)).2)), (0, .ref (h 0)), (1, .int x)]) (st' := []) (congrArg (haW G h n c) w11) (congrArg (fun z => ([(3, .int (nI (k + 1))), (2, .int z), (0, .ref (h 0)), (1, .int x)] : List (Nat × Value))) e10) rfl (ih (k + 1) (by omega) (by omega))
        · refine hgoto (tgt := 130) X dX1_crewsWork_38 (by decide) ?_
          refine hiinc (v := nI (k + 1)) (lv' := [(3, .int (nI (k + 1))), (4, .int (((itN k (ckS n x) (F, 0)).1) 12 k)), (2, .int ((itN k (ckS n x) (F, 0)).2)), (0, .ref (h 0)), (1, .int x)]) X dX1_crewsWork_130 rfl (nI_1 _) (by decide) rfl ?_
          refine hgoto (tgt := 4) X dX1_crewsWork_133 (by decide) ?_
          refine hV_lv (lv' := [(3, .int (nI (k + 1))), (2, .int ((itN k (ckS n x) (F, 0)).2)), (0, .ref (h 0)), (1, .int x)]) [0, 2, 3, 4] rfl ?_
          have e12 : ((itN k (ckS n x) (F, 0)).2 : Int32) = (itN (k + 1) (ckS n x) (F, 0)).2 := by
            simp only [itN, ckS]
            rw [if_neg c2]
          have w13 : ((itN k (ckS n x) (F, 0)).1 : hF) = (itN (k + 1) (ckS n x) (F, 0)).1 := by
            simp only [itN, ckS]
            rw [if_neg c2]
          exact hV_to (ws' := haW G h n c ((itN (k + 1) (ckS n x) (F, 0)).1)) (lv' := [(3, .int (nI (k + 1))), (2, .int ((itN (k + 1) (ckS n x) (F, 0)).2)), (0, .ref (h 0)), (1, .int x)]) (st' := []) (congrArg (haW G h n c) w13) (congrArg (fun z => ([(3, .int (nI (k + 1))), (2, .int z), (0, .ref (h 0)), (1, .int x)] : List (Nat × Value))) e12) rfl (ih (k + 1) (by omega) (by omega))
  refine hiconst (v := 0) X dX1_crewsWork_0 rfl ?_
  refine histore_n (lv' := [(2, .int 0), (0, .ref (h 0)), (1, .int x)]) X dX1_crewsWork_1 (by decide) rfl ?_
  refine hiconst (v := 0) X dX1_crewsWork_2 rfl ?_
  refine histore_n (lv' := [(3, .int 0), (2, .int 0), (0, .ref (h 0)), (1, .int x)]) X dX1_crewsWork_3 (by decide) rfl ?_
  have e14 : (0 : Int32) = (itN 0 (ckS n x) (F, 0)).2 := by
    rfl
  have w15 : (F : hF) = (itN 0 (ckS n x) (F, 0)).1 := by
    rfl
  exact hV_to (ws' := haW G h n c ((itN 0 (ckS n x) (F, 0)).1)) (lv' := [(3, .int 0), (2, .int ((itN 0 (ckS n x) (F, 0)).2)), (0, .ref (h 0)), (1, .int x)]) (st' := []) (congrArg (haW G h n c) w15) (congrArg (fun z => ([(3, .int 0), (2, .int z), (0, .ref (h 0)), (1, .int x)] : List (Nat × Value))) e14) rfl (L _ 0 (by omega) (Nat.lt_succ_self _))

set_option maxHeartbeats 4000000 in
set_option maxRecDepth 100000 in
theorem kX1_lorriesLeave (l : Launch) (G : hG) (h : Nat → Nat) (F : hF) (n c : Nat) (hn : n ≤ 20) (hc : c ≤ 6) : hM l G yX1_lorriesLeave wsX1_lorriesLeave ({ frames := 1, cells := 0, slots := 0, locals := 40 }) (haW G h n c F) [.ref (h 0)] (hR none (haW G h n c (itN n llS F))) := by
  refine hM_of (cc := cX1_lorriesLeave) (maxL := 2) (ret := none) (by decide) rfl (Nat.le_of_ble_eq_true rfl) ?_
  intro pp ee ss mm aa bb me cd X hin
  have iX1 : ∀ w ∈ wsX10, w ∈ wsX1_lorriesLeave := by decide +kernel
  have iX6 : ∀ w ∈ wsX60, w ∈ wsX1_lorriesLeave := by decide +kernel
  have L : ∀ (d : Nat) (k : Nat), (k ≤ n) → (n - k) < d → hV pp l ee ({ frames := 1, cells := 0, slots := 0, locals := 40 }) ss mm aa bb me cd G (va_A (haW G h n c F) ss.heap.size) 2 0 0 (MQ bb (hQc G (haW G h n c F) ss.heap.size (hR none (haW G h n c (itN n llS F)))) aa ss 0 0 (va_A (haW G h n c F) ss.heap.size)) (haW G h n c (itN k llS F)) 2 [(1, .int (nI k)), (0, .ref (h 0))] [] := by
    intro d
    induction d with
    | zero =>
      intro k hk hd0
      exact absurd hd0 (Nat.not_lt_zero _)
    | succ d ih =>
      intro k hk hd0
      refine hiload_n X dX1_lorriesLeave_2 rfl ?_
      refine haload_n X dX1_lorriesLeave_3 rfl ?_
      refine hget1 X (T := TX1) (N := 7) iX1 0 rfl rfl 2 (by decide) (by decide +kernel) rfl dX1_lorriesLeave_4 ?_
      refine hgetN X (T := TX6) (N := 11) iX6 3 rfl rfl 0 (by decide) (by decide +kernel) rfl dX1_lorriesLeave_7 ?_
      refine hicmp_ge (tgt := 58) X dX1_lorriesLeave_10 (by decide) (fun c1 => ?_) (fun c1 => ?_)
      · have ek := i_ge hk (by omega) c1
        refine hvret X dX1_lorriesLeave_58 ⟨rfl, ?_⟩
        refine congrArg (haW G h n c) (?_ : (itN k llS F : hF) = itN n llS F)
        simp [ek]
      · have hk1 := i_lt hk (by omega) c1
        refine haload_n X dX1_lorriesLeave_13 rfl ?_
        refine hget1 X (T := TX1) (N := 7) iX1 0 rfl rfl 2 (by decide) (by decide +kernel) rfl dX1_lorriesLeave_14 ?_
        refine hgetN X (T := TX6) (N := 11) iX6 3 rfl rfl 5 (by decide) (by decide +kernel) rfl dX1_lorriesLeave_17 ?_
        refine hiload_n X dX1_lorriesLeave_20 rfl ?_
        refine hiald (n := 20) (f := (itN k llS F) 4) X 8 rfl k rfl (by omega) (by decide) dX1_lorriesLeave_21 ?_
        refine hiconst (v := 1) X dX1_lorriesLeave_22 rfl ?_
        refine hicmp_ne (tgt := 52) X dX1_lorriesLeave_23 (by decide) (fun c2 => ?_) (fun c2 => ?_)
        · refine hiinc (v := nI (k + 1)) (lv' := [(1, .int (nI (k + 1))), (0, .ref (h 0))]) X dX1_lorriesLeave_52 rfl (nI_1 _) (by decide) rfl ?_
          refine hgoto (tgt := 2) X dX1_lorriesLeave_55 (by decide) ?_
          have w3 : (itN k llS F : hF) = itN (k + 1) llS F := by
            simp [itN, llS, c1, c2]
          exact hV_to (ws' := haW G h n c (itN (k + 1) llS F)) (lv' := [(1, .int (nI (k + 1))), (0, .ref (h 0))]) (st' := []) (congrArg (haW G h n c) w3) rfl rfl (ih (k + 1) (by omega) (by omega))
        · refine haload_n X dX1_lorriesLeave_26 rfl ?_
          refine hget1 X (T := TX1) (N := 7) iX1 0 rfl rfl 2 (by decide) (by decide +kernel) rfl dX1_lorriesLeave_27 ?_
          refine hgetN X (T := TX6) (N := 11) iX6 3 rfl rfl 10 (by decide) (by decide +kernel) rfl dX1_lorriesLeave_30 ?_
          refine hiload_n X dX1_lorriesLeave_33 rfl ?_
          refine hiald (n := 20) (f := (itN k llS F) 9) X 13 rfl k rfl (by omega) (by decide) dX1_lorriesLeave_34 ?_
          refine haload_n X dX1_lorriesLeave_35 rfl ?_
          refine hget1 X (T := TX1) (N := 7) iX1 0 rfl rfl 4 (by decide) (by decide +kernel) rfl dX1_lorriesLeave_36 ?_
          refine hicmp_gt (tgt := 52) X dX1_lorriesLeave_39 (by decide) (fun c4 => ?_) (fun c4 => ?_)
          · refine hiinc (v := nI (k + 1)) (lv' := [(1, .int (nI (k + 1))), (0, .ref (h 0))]) X dX1_lorriesLeave_52 rfl (nI_1 _) (by decide) rfl ?_
            refine hgoto (tgt := 2) X dX1_lorriesLeave_55 (by decide) ?_
            have w5 : (itN k llS F : hF) = itN (k + 1) llS F := by
              simp [itN, llS, c1, c2, c4]
            exact hV_to (ws' := haW G h n c (itN (k + 1) llS F)) (lv' := [(1, .int (nI (k + 1))), (0, .ref (h 0))]) (st' := []) (congrArg (haW G h n c) w5) rfl rfl (ih (k + 1) (by omega) (by omega))
          · refine haload_n X dX1_lorriesLeave_42 rfl ?_
            refine hget1 X (T := TX1) (N := 7) iX1 0 rfl rfl 2 (by decide) (by decide +kernel) rfl dX1_lorriesLeave_43 ?_
            refine hgetN X (T := TX6) (N := 11) iX6 3 rfl rfl 5 (by decide) (by decide +kernel) rfl dX1_lorriesLeave_46 ?_
            refine hiload_n X dX1_lorriesLeave_49 rfl ?_
            refine hiconst (v := 2) X dX1_lorriesLeave_50 rfl ?_
            refine hiast (n := 20) (f := (itN k llS F) 4) X 8 rfl k rfl (by omega) (by decide) dX1_lorriesLeave_51 (ws' := haW G h n c (fs (itN k llS F) 4 k 2)) (haWs4 G h _ _ _ _ _) ?_
            refine hiinc (v := nI (k + 1)) (lv' := [(1, .int (nI (k + 1))), (0, .ref (h 0))]) X dX1_lorriesLeave_52 rfl (nI_1 _) (by decide) rfl ?_
            refine hgoto (tgt := 2) X dX1_lorriesLeave_55 (by decide) ?_
            have w6 : (fs (itN k llS F) 4 k 2 : hF) = itN (k + 1) llS F := by
              simp [itN, llS, c1, c2, c4]
            exact hV_to (ws' := haW G h n c (itN (k + 1) llS F)) (lv' := [(1, .int (nI (k + 1))), (0, .ref (h 0))]) (st' := []) (congrArg (haW G h n c) w6) rfl rfl (ih (k + 1) (by omega) (by omega))
  refine hiconst (v := 0) X dX1_lorriesLeave_0 rfl ?_
  refine histore_n (lv' := [(1, .int 0), (0, .ref (h 0))]) X dX1_lorriesLeave_1 (by decide) rfl ?_
  have w7 : (F : hF) = itN 0 llS F := by
    rfl
  exact hV_to (ws' := haW G h n c (itN 0 llS F)) (lv' := [(1, .int 0), (0, .ref (h 0))]) (st' := []) (congrArg (haW G h n c) w7) rfl rfl (L _ 0 (by omega) (Nat.lt_succ_self _))

set_option maxHeartbeats 4000000 in
set_option maxRecDepth 100000 in
theorem kX1_lorriesCome (l : Launch) (G : hG) (h : Nat → Nat) (F : hF) (n c : Nat) (hn : n ≤ 20) (hc : c ≤ 6) : hM l G yX1_lorriesCome wsX1_lorriesCome ({ frames := 2, cells := 0, slots := 0, locals := 62 }) (haW G h n c F) [.ref (h 0)] (hR none (haW G h n c (lcN n 0 (hmet n F) F))) := by
  refine hM_of (cc := cX1_lorriesCome) (maxL := 3) (ret := none) (by decide) rfl (Nat.le_of_ble_eq_true rfl) ?_
  intro pp ee ss mm aa bb me cd X hin
  have iX1 : ∀ w ∈ wsX10, w ∈ wsX1_lorriesCome := by decide +kernel
  have iX6 : ∀ w ∈ wsX60, w ∈ wsX1_lorriesCome := by decide +kernel
  have L : ∀ (d : Nat) (k : Nat) (m : Int32) (F' : hF), (k ≤ n) → (lcN (n - k) k m F' = lcN n 0 (hmet n F) F) → (n - k) < d → hV pp l ee ({ frames := 2, cells := 0, slots := 0, locals := 62 }) ss mm aa bb me cd G (va_A (haW G h n c F) ss.heap.size) 3 0 0 (MQ bb (hQc G (haW G h n c F) ss.heap.size (hR none (haW G h n c (lcN n 0 (hmet n F) F)))) aa ss 0 0 (va_A (haW G h n c F) ss.heap.size)) (haW G h n c F') 10 [(2, .int (nI k)), (1, .int m), (0, .ref (h 0))] [] := by
    intro d
    induction d with
    | zero =>
      intro k m F' hk hE hd0
      exact absurd hd0 (Nat.not_lt_zero _)
    | succ d ih =>
      intro k m F' hk hE hd0
      refine hiload_n X dX1_lorriesCome_10 rfl ?_
      refine haload_n X dX1_lorriesCome_11 rfl ?_
      refine hget1 X (T := TX1) (N := 7) iX1 0 rfl rfl 2 (by decide) (by decide +kernel) rfl dX1_lorriesCome_12 ?_
      refine hgetN X (T := TX6) (N := 11) iX6 3 rfl rfl 0 (by decide) (by decide +kernel) rfl dX1_lorriesCome_15 ?_
      refine hicmp_ge (tgt := 95) X dX1_lorriesCome_18 (by decide) (fun c1 => ?_) (fun c1 => ?_)
      · have ek := i_ge hk (by omega) c1
        refine hvret X dX1_lorriesCome_95 ⟨rfl, ?_⟩
        refine congrArg (haW G h n c) (?_ : (F' : hF) = lcN n 0 (hmet n F) F)
        first | (rw [← hE, ek, Nat.sub_self]; rfl) | (rw [← hE, show n - k = (n - (k + 1)) + 1 by omega]; simp [lcN, c1]; done)
      · have hk1 := i_lt hk (by omega) c1
        refine haload_n X dX1_lorriesCome_21 rfl ?_
        refine hget1 X (T := TX1) (N := 7) iX1 0 rfl rfl 2 (by decide) (by decide +kernel) rfl dX1_lorriesCome_22 ?_
        refine hgetN X (T := TX6) (N := 11) iX6 3 rfl rfl 5 (by decide) (by decide +kernel) rfl dX1_lorriesCome_25 ?_
        refine hiload_n X dX1_lorriesCome_28 rfl ?_
        refine hiald (n := 20) (f := F' 4) X 8 rfl k rfl (by omega) (by decide) dX1_lorriesCome_29 ?_
        refine hif_eq (tgt := 36) X dX1_lorriesCome_30 (by decide) (fun c2 => ?_) (fun c2 => ?_)
        · refine hiload_n X dX1_lorriesCome_36 rfl ?_
          refine haload_n X dX1_lorriesCome_37 rfl ?_
          refine hget1 X (T := TX1) (N := 7) iX1 0 rfl rfl 2 (by decide) (by decide +kernel) rfl dX1_lorriesCome_38 ?_
          refine hgetN X (T := TX6) (N := 11) iX6 3 rfl rfl 2 (by decide) (by decide +kernel) rfl dX1_lorriesCome_41 ?_
          refine hiload_n X dX1_lorriesCome_44 rfl ?_
          refine hiald (n := 20) (f := F' 1) X 5 rfl k rfl (by omega) (by decide) dX1_lorriesCome_45 ?_
          refine hiadd X dX1_lorriesCome_46 ?_
          refine histore_n (lv' := [(1, .int (m + (F' 1 k))), (2, .int (nI k)), (0, .ref (h 0))]) X dX1_lorriesCome_47 (by decide) rfl ?_
          refine hiload_n X dX1_lorriesCome_48 rfl ?_
          refine haload_n X dX1_lorriesCome_49 rfl ?_
          refine hget1 X (T := TX1) (N := 7) iX1 0 rfl rfl 0 (by decide) (by decide +kernel) rfl dX1_lorriesCome_50 ?_
          refine hiconst (v := 0) X dX1_lorriesCome_53 rfl ?_
          refine hiald (n := 3) (f := F' 16) X 1 rfl 0 rfl (by omega) (by decide) dX1_lorriesCome_54 ?_
          refine hicmp_le (tgt := 59) X dX1_lorriesCome_55 (by decide) (fun c3 => ?_) (fun c3 => ?_)
          · refine haload_n X dX1_lorriesCome_59 rfl ?_
            refine hget1 X (T := TX1) (N := 7) iX1 0 rfl rfl 2 (by decide) (by decide +kernel) rfl dX1_lorriesCome_60 ?_
            refine hgetN X (T := TX6) (N := 11) iX6 3 rfl rfl 5 (by decide) (by decide +kernel) rfl dX1_lorriesCome_63 ?_
            refine hiload_n X dX1_lorriesCome_66 rfl ?_
            refine hiconst (v := 1) X dX1_lorriesCome_67 rfl ?_
            refine hiast (n := 20) (f := F' 4) X 8 rfl k rfl (by omega) (by decide) dX1_lorriesCome_68 (ws' := haW G h n c (fs F' 4 k 1)) (haWs4 G h _ _ _ _ _) ?_
            refine haload_n X dX1_lorriesCome_69 rfl ?_
            refine hget1 X (T := TX1) (N := 7) iX1 0 rfl rfl 2 (by decide) (by decide +kernel) rfl dX1_lorriesCome_70 ?_
            refine hgetN X (T := TX6) (N := 11) iX6 3 rfl rfl 10 (by decide) (by decide +kernel) rfl dX1_lorriesCome_73 ?_
            refine hiload_n X dX1_lorriesCome_76 rfl ?_
            refine haload_n X dX1_lorriesCome_77 rfl ?_
            refine hget1 X (T := TX1) (N := 7) iX1 0 rfl rfl 4 (by decide) (by decide +kernel) rfl dX1_lorriesCome_78 ?_
            have r4 : ((fs F' 4 k 1) 18 0 : Int32) = F' 18 0 := by rw [fs_ne _ _ _ (by decide)]
            refine hV_st (st' := [.int (F' 18 0), .int (nI k), .ref (h 13)]) (congrArg (fun z => Value.int z :: [.int (nI k), .ref (h 13)]) r4) ?_
            refine haload_n X dX1_lorriesCome_81 rfl ?_
            refine hget1 X (T := TX1) (N := 7) iX1 0 rfl rfl 0 (by decide) (by decide +kernel) rfl dX1_lorriesCome_82 ?_
            refine hiconst (v := 1) X dX1_lorriesCome_85 rfl ?_
            refine hiald (n := 3) (f := (fs F' 4 k 1) 16) X 1 rfl 1 rfl (by omega) (by decide) dX1_lorriesCome_86 ?_
            have r5 : ((fs F' 4 k 1) 16 1 : Int32) = F' 16 1 := by rw [fs_ne _ _ _ (by decide)]
            refine hV_st (st' := [.int (F' 16 1), .int (F' 18 0), .int (nI k), .ref (h 13)]) (congrArg (fun z => Value.int z :: [.int (F' 18 0), .int (nI k), .ref (h 13)]) r5) ?_
            refine hiadd X dX1_lorriesCome_87 ?_
            refine hiast (n := 20) (f := (fs F' 4 k 1) 9) X 13 rfl k rfl (by omega) (by decide) dX1_lorriesCome_88 (ws' := haW G h n c (fs (fs F' 4 k 1) 9 k ((F' 18 0) + (F' 16 1)))) (haWs9 G h _ _ _ _ _) ?_
            refine hiinc (v := nI (k + 1)) (lv' := [(2, .int (nI (k + 1))), (1, .int (m + (F' 1 k))), (0, .ref (h 0))]) X dX1_lorriesCome_89 rfl (nI_1 _) (by decide) rfl ?_
            refine hgoto (tgt := 10) X dX1_lorriesCome_92 (by decide) ?_
            exact hV_to (ws' := haW G h n c (fs (fs F' 4 k 1) 9 k ((F' 18 0) + (F' 16 1)))) (lv' := [(2, .int (nI (k + 1))), (1, .int (m + (F' 1 k))), (0, .ref (h 0))]) (st' := []) rfl rfl rfl (ih (k + 1) (m + (F' 1 k)) (fs (fs F' 4 k 1) 9 k ((F' 18 0) + (F' 16 1))) (by omega) (by rw [← hE, show n - k = (n - (k + 1)) + 1 by omega]; simp [lcN, c1, c2, c3]) (by omega))
          · refine hvret X dX1_lorriesCome_58 ⟨rfl, ?_⟩
            refine congrArg (haW G h n c) (?_ : (F' : hF) = lcN n 0 (hmet n F) F)
            first | (rw [← hE, ek, Nat.sub_self]; rfl) | (rw [← hE, show n - k = (n - (k + 1)) + 1 by omega]; simp [lcN, c1, c2, c3]; done)
        · refine hgoto (tgt := 89) X dX1_lorriesCome_33 (by decide) ?_
          refine hiinc (v := nI (k + 1)) (lv' := [(2, .int (nI (k + 1))), (1, .int m), (0, .ref (h 0))]) X dX1_lorriesCome_89 rfl (nI_1 _) (by decide) rfl ?_
          refine hgoto (tgt := 10) X dX1_lorriesCome_92 (by decide) ?_
          exact hV_to (ws' := haW G h n c F') (lv' := [(2, .int (nI (k + 1))), (1, .int m), (0, .ref (h 0))]) (st' := []) rfl rfl rfl (ih (k + 1) m F' (by omega) (by rw [← hE, show n - k = (n - (k + 1)) + 1 by omega]; simp [lcN, c1, c2]) (by omega))
  refine haload_n X dX1_lorriesCome_0 rfl ?_
  refine hget1 X (T := TX1) (N := 7) iX1 0 rfl rfl 2 (by decide) (by decide +kernel) rfl dX1_lorriesCome_1 ?_
  refine hV_perm (ws' := stW G h n F ++ hrS G h c F) (pmS G h _ _ _) ?_
  refine hcallVr (C := RX6) (T := TX6) (N := 11) (As := []) (rest := []) (st' := [.int (hmet n F)]) (w := stW G h n F) X (q0 := 0) (kX6_metersAtDock l G h F n (by first | assumption | omega | simp [fs_at, *])) gX1_lorriesCome_X6_metersAtDock rfl (n := 0) (by decide +kernel) (by decide) rfl rfl rfl rfl (Nat.le_of_ble_eq_true rfl) dX1_lorriesCome_4 rfl rfl (by decide) rfl ?_
  refine hV_perm (ws' := haW G h n c F) (pmS G h _ _ _).symm ?_
  refine histore_n (lv' := [(1, .int (hmet n F)), (0, .ref (h 0))]) X dX1_lorriesCome_7 (by decide) rfl ?_
  refine hiconst (v := 0) X dX1_lorriesCome_8 rfl ?_
  refine histore_n (lv' := [(2, .int 0), (1, .int (hmet n F)), (0, .ref (h 0))]) X dX1_lorriesCome_9 (by decide) rfl ?_
  exact hV_to (ws' := haW G h n c F) (lv' := [(2, .int 0), (1, .int (hmet n F)), (0, .ref (h 0))]) (st' := []) rfl rfl rfl (L _ 0 (hmet n F) F (Nat.zero_le _) rfl (Nat.lt_succ_self _))

