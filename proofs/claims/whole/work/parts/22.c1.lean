set_option maxHeartbeats 4000000 in
set_option maxRecDepth 100000 in
theorem kX7_isWithin (l : Launch) (G : hG) (v a b : Int32) : hM l G yX7_isWithin wsX7_isWithin ({ frames := 1, cells := 0, slots := 0, locals := 40 }) ([]) [.int v, .int a, .int b] (hR (some (.int (bI (wI v a b)))) ([])) := by
  refine hM_of (cc := cX7_isWithin) (maxL := 3) (ret := (some .boolean)) (by decide) rfl (Nat.le_of_ble_eq_true rfl) ?_
  intro pp ee ss mm aa bb me cd X hin
  refine hiload_n X dX7_isWithin_0 rfl ?_
  refine hiload_n X dX7_isWithin_1 rfl ?_
  refine hicmp_lt (tgt := 14) X dX7_isWithin_2 (by decide) (fun c1 => ?_) (fun c1 => ?_)
  · refine hiconst (v := 0) X dX7_isWithin_14 rfl ?_
    refine hzret X rfl dX7_isWithin_15 ⟨congrArg (fun z => some (Value.int z)) (?_ : 0 = bI (wI v a b)), ?_⟩
    · simp [bI, wI, c1]
    rfl
  · refine hiload_n X dX7_isWithin_5 rfl ?_
    refine hiload_n X dX7_isWithin_6 rfl ?_
    refine hicmp_gt (tgt := 14) X dX7_isWithin_7 (by decide) (fun c2 => ?_) (fun c2 => ?_)
    · refine hiconst (v := 0) X dX7_isWithin_14 rfl ?_
      refine hzret X rfl dX7_isWithin_15 ⟨congrArg (fun z => some (Value.int z)) (?_ : 0 = bI (wI v a b)), ?_⟩
      · simp [bI, wI, c1, c2]
      rfl
    · refine hiconst (v := 1) X dX7_isWithin_10 rfl ?_
      refine hgoto (tgt := 15) X dX7_isWithin_11 (by decide) ?_
      refine hzret X rfl dX7_isWithin_15 ⟨congrArg (fun z => some (Value.int z)) (?_ : 1 = bI (wI v a b)), ?_⟩
      · simp [bI, wI, c1, c2]
      rfl

set_option maxHeartbeats 4000000 in
set_option maxRecDepth 100000 in
theorem kX6_has (l : Launch) (G : hG) (h : Nat → Nat) (F : hF) (n : Nat) (x : Int32) : hM l G yX6_has wsX6_has ({ frames := 1, cells := 0, slots := 0, locals := 40 }) (stW G h n F) [.ref (h 3), .int x] (hR (some (.int (bI (hhas n x)))) (stW G h n F)) := by
  refine hM_of (cc := cX6_has) (maxL := 2) (ret := (some .boolean)) (by decide) rfl (Nat.le_of_ble_eq_true rfl) ?_
  intro pp ee ss mm aa bb me cd X hin
  have iX6 : ∀ w ∈ wsX60, w ∈ wsX6_has := by decide +kernel
  refine hiload_n X dX6_has_0 rfl ?_
  refine hif_lt (tgt := 16) X dX6_has_1 (by decide) (fun c1 => ?_) (fun c1 => ?_)
  · refine hiconst (v := 0) X dX6_has_16 rfl ?_
    refine hzret X rfl dX6_has_17 ⟨congrArg (fun z => some (Value.int z)) (?_ : 0 = bI (hhas n x)), ?_⟩
    · simp [bI, hhas, c1]
    rfl
  · refine hiload_n X dX6_has_4 rfl ?_
    refine haload_n X dX6_has_5 rfl ?_
    refine hget1 X (T := TX6) (N := 11) iX6 0 rfl rfl 0 (by decide) (by decide +kernel) rfl dX6_has_6 ?_
    refine hicmp_ge (tgt := 16) X dX6_has_9 (by decide) (fun c2 => ?_) (fun c2 => ?_)
    · refine hiconst (v := 0) X dX6_has_16 rfl ?_
      refine hzret X rfl dX6_has_17 ⟨congrArg (fun z => some (Value.int z)) (?_ : 0 = bI (hhas n x)), ?_⟩
      · simp [bI, hhas, c1, c2]
      rfl
    · refine hiconst (v := 1) X dX6_has_12 rfl ?_
      refine hgoto (tgt := 17) X dX6_has_13 (by decide) ?_
      refine hzret X rfl dX6_has_17 ⟨congrArg (fun z => some (Value.int z)) (?_ : 1 = bI (hhas n x)), ?_⟩
      · simp [bI, hhas, c1, c2]
      rfl

set_option maxHeartbeats 4000000 in
set_option maxRecDepth 100000 in
theorem kX6_isGone (l : Launch) (G : hG) (h : Nat → Nat) (F : hF) (n : Nat) (x : Int32) (hn : n ≤ 20) : hM l G yX6_isGone wsX6_isGone ({ frames := 2, cells := 0, slots := 0, locals := 61 }) (stW G h n F) [.ref (h 3), .int x] (hR (some (.int (bI (hhas n x ∧ F 4 x.toNatClampNeg = 6)))) (stW G h n F)) := by
  refine hM_of (cc := cX6_isGone) (maxL := 2) (ret := (some .boolean)) (by decide) rfl (Nat.le_of_ble_eq_true rfl) ?_
  intro pp ee ss mm aa bb me cd X hin
  have iX6 : ∀ w ∈ wsX60, w ∈ wsX6_isGone := by decide +kernel
  refine haload_n X dX6_isGone_0 rfl ?_
  refine hiload_n X dX6_isGone_1 rfl ?_
  refine hcallV0 (C := RX6) (T := TX6) (N := 11) (As := [.int x]) (rest := []) (st' := [.int (bI (hhas n x))]) (w := stW G h n F) X (q0 := 0) (kX6_has l G h F n x) gX6_isGone_X6_has rfl (n := 1) (by decide +kernel) (by decide) rfl rfl rfl rfl (Nat.le_of_ble_eq_true rfl) dX6_isGone_2 rfl rfl (by decide) rfl ?_
  refine hif_eqB (tgt := 23) X dX6_isGone_5 (by decide) (fun c1 => ?_) (fun c1 => ?_)
  · refine hiconst (v := 0) X dX6_isGone_23 rfl ?_
    refine hzret X rfl dX6_isGone_24 ⟨congrArg (fun z => some (Value.int z)) (?_ : 0 = bI (hhas n x ∧ F 4 x.toNatClampNeg = 6)), ?_⟩
    · exact (bI_f (fun q => c1 q.1)).symm
    rfl
  · obtain ⟨j, hj, hx⟩ := has_in (by omega) c1
    refine haload_n X dX6_isGone_8 rfl ?_
    refine hget1 X (T := TX6) (N := 11) iX6 0 rfl rfl 5 (by decide) (by decide +kernel) rfl dX6_isGone_9 ?_
    refine hiload_n X dX6_isGone_12 rfl ?_
    refine hV_st (st' := [.int (nI j), .ref (h 8)]) (congrArg (fun z => ([Value.int z, .ref (h 8)] : List Value)) (hx)) ?_
    refine hiald (n := 20) (f := F 4) X 5 rfl j rfl (by omega) (by decide) dX6_isGone_13 ?_
    refine hbipush (v := 6) X dX6_isGone_14 rfl ?_
    refine hicmp_ne (tgt := 23) X dX6_isGone_16 (by decide) (fun c2 => ?_) (fun c2 => ?_)
    · refine hiconst (v := 0) X dX6_isGone_23 rfl ?_
      refine hzret X rfl dX6_isGone_24 ⟨congrArg (fun z => some (Value.int z)) (?_ : 0 = bI (hhas n x ∧ F 4 x.toNatClampNeg = 6)), ?_⟩
      · have ej := nI_clamp (show j < 2 ^ 31 by omega)
        subst hx
        exact (bI_f (fun q => c2 (by have q2 := q.2; rw [ej] at q2; exact q2))).symm
      rfl
    · refine hiconst (v := 1) X dX6_isGone_19 rfl ?_
      refine hgoto (tgt := 24) X dX6_isGone_20 (by decide) ?_
      refine hzret X rfl dX6_isGone_24 ⟨congrArg (fun z => some (Value.int z)) (?_ : 1 = bI (hhas n x ∧ F 4 x.toNatClampNeg = 6)), ?_⟩
      · have ej := nI_clamp (show j < 2 ^ 31 by omega)
        subst hx
        exact (bI_t ⟨c1, by rw [ej]; exact c2⟩).symm
      rfl

set_option maxHeartbeats 4000000 in
set_option maxRecDepth 100000 in
theorem kX6_append (l : Launch) (G : hG) (h : Nat → Nat) (F : hF) (n : Nat) (hn : n < 20) (w1 w2 w3 w4 : Int32) : hM l G yX6_append wsX6_append ({ frames := 1, cells := 0, slots := 0, locals := 40 }) (stW G h n F) [.ref (h 3), .int w1, .int w2, .int w3, .int w4] (hR (some (.int (nI n))) (stW G h (n + 1) (apS F n w1 w2 w3 w4))) := by
  refine hM_of (cc := cX6_append) (maxL := 6) (ret := (some .int)) (by decide) rfl (Nat.le_of_ble_eq_true rfl) ?_
  intro pp ee ss mm aa bb me cd X hin
  have iX6 : ∀ w ∈ wsX60, w ∈ wsX6_append := by decide +kernel
  refine haload_n X dX6_append_0 rfl ?_
  refine hget1 X (T := TX6) (N := 11) iX6 0 rfl rfl 0 (by decide) (by decide +kernel) rfl dX6_append_1 ?_
  refine histore (lv' := [(5, .int (nI n)), (0, .ref (h 3)), (1, .int w1), (2, .int w2), (3, .int w3), (4, .int w4)]) X dX6_append_4 (by decide) rfl ?_
  refine hiload X dX6_append_6 rfl ?_
  refine hbipush (v := 20) X dX6_append_8 rfl ?_
  refine hicmp_lt (tgt := 16) X dX6_append_10 (by decide) (fun c1 => ?_) (fun c1 => ?_)
  · refine haload_n X dX6_append_16 rfl ?_
    refine hget1 X (T := TX6) (N := 11) iX6 0 rfl rfl 1 (by decide) (by decide +kernel) rfl dX6_append_17 ?_
    refine hiload X dX6_append_20 rfl ?_
    refine hiload_n X dX6_append_22 rfl ?_
    refine hiast (n := 20) (f := F 0) X 1 rfl n rfl (by omega) (by decide) dX6_append_23 (ws' := stW G h n (fs F 0 n w1)) (stWs0 G h _ _ _ _) ?_
    refine haload_n X dX6_append_24 rfl ?_
    refine hget1 X (T := TX6) (N := 11) iX6 0 rfl rfl 2 (by decide) (by decide +kernel) rfl dX6_append_25 ?_
    refine hiload X dX6_append_28 rfl ?_
    refine hiload_n X dX6_append_30 rfl ?_
    refine hiast (n := 20) (f := (fs F 0 n w1) 1) X 2 rfl n rfl (by omega) (by decide) dX6_append_31 (ws' := stW G h n (fs (fs F 0 n w1) 1 n w2)) (stWs1 G h _ _ _ _) ?_
    refine haload_n X dX6_append_32 rfl ?_
    refine hget1 X (T := TX6) (N := 11) iX6 0 rfl rfl 3 (by decide) (by decide +kernel) rfl dX6_append_33 ?_
    refine hiload X dX6_append_36 rfl ?_
    refine hiload_n X dX6_append_38 rfl ?_
    refine hiast (n := 20) (f := (fs (fs F 0 n w1) 1 n w2) 2) X 3 rfl n rfl (by omega) (by decide) dX6_append_39 (ws' := stW G h n (fs (fs (fs F 0 n w1) 1 n w2) 2 n w3)) (stWs2 G h _ _ _ _) ?_
    refine haload_n X dX6_append_40 rfl ?_
    refine hget1 X (T := TX6) (N := 11) iX6 0 rfl rfl 4 (by decide) (by decide +kernel) rfl dX6_append_41 ?_
    refine hiload X dX6_append_44 rfl ?_
    refine hiload X dX6_append_46 rfl ?_
    refine hiast (n := 20) (f := (fs (fs (fs F 0 n w1) 1 n w2) 2 n w3) 3) X 4 rfl n rfl (by omega) (by decide) dX6_append_48 (ws' := stW G h n (fs (fs (fs (fs F 0 n w1) 1 n w2) 2 n w3) 3 n w4)) (stWs3 G h _ _ _ _) ?_
    refine haload_n X dX6_append_49 rfl ?_
    refine hget1 X (T := TX6) (N := 11) iX6 0 rfl rfl 5 (by decide) (by decide +kernel) rfl dX6_append_50 ?_
    refine hiload X dX6_append_53 rfl ?_
    refine hiconst (v := 0) X dX6_append_55 rfl ?_
    refine hiast (n := 20) (f := (fs (fs (fs (fs F 0 n w1) 1 n w2) 2 n w3) 3 n w4) 4) X 5 rfl n rfl (by omega) (by decide) dX6_append_56 (ws' := stW G h n (fs (fs (fs (fs (fs F 0 n w1) 1 n w2) 2 n w3) 3 n w4) 4 n 0)) (stWs4 G h _ _ _ _) ?_
    refine haload_n X dX6_append_57 rfl ?_
    refine hget1 X (T := TX6) (N := 11) iX6 0 rfl rfl 6 (by decide) (by decide +kernel) rfl dX6_append_58 ?_
    refine hiload X dX6_append_61 rfl ?_
    refine hiload_n X dX6_append_63 rfl ?_
    refine hiast (n := 20) (f := (fs (fs (fs (fs (fs F 0 n w1) 1 n w2) 2 n w3) 3 n w4) 4 n 0) 5) X 6 rfl n rfl (by omega) (by decide) dX6_append_64 (ws' := stW G h n (fs (fs (fs (fs (fs (fs F 0 n w1) 1 n w2) 2 n w3) 3 n w4) 4 n 0) 5 n w1)) (stWs5 G h _ _ _ _) ?_
    refine haload_n X dX6_append_65 rfl ?_
    refine hget1 X (T := TX6) (N := 11) iX6 0 rfl rfl 7 (by decide) (by decide +kernel) rfl dX6_append_66 ?_
    refine hiload X dX6_append_69 rfl ?_
    refine hbipush (v := (-6)) X dX6_append_71 rfl ?_
    refine hiast (n := 20) (f := (fs (fs (fs (fs (fs (fs F 0 n w1) 1 n w2) 2 n w3) 3 n w4) 4 n 0) 5 n w1) 6) X 7 rfl n rfl (by omega) (by decide) dX6_append_73 (ws' := stW G h n (fs (fs (fs (fs (fs (fs (fs F 0 n w1) 1 n w2) 2 n w3) 3 n w4) 4 n 0) 5 n w1) 6 n (-6))) (stWs6 G h _ _ _ _) ?_
    refine haload_n X dX6_append_74 rfl ?_
    refine hget1 X (T := TX6) (N := 11) iX6 0 rfl rfl 8 (by decide) (by decide +kernel) rfl dX6_append_75 ?_
    refine hiload X dX6_append_78 rfl ?_
    refine hbipush (v := (-6)) X dX6_append_80 rfl ?_
    refine hiast (n := 20) (f := (fs (fs (fs (fs (fs (fs (fs F 0 n w1) 1 n w2) 2 n w3) 3 n w4) 4 n 0) 5 n w1) 6 n (-6)) 7) X 8 rfl n rfl (by omega) (by decide) dX6_append_82 (ws' := stW G h n (fs (fs (fs (fs (fs (fs (fs (fs F 0 n w1) 1 n w2) 2 n w3) 3 n w4) 4 n 0) 5 n w1) 6 n (-6)) 7 n (-6))) (stWs7 G h _ _ _ _) ?_
    refine haload_n X dX6_append_83 rfl ?_
    refine hget1 X (T := TX6) (N := 11) iX6 0 rfl rfl 9 (by decide) (by decide +kernel) rfl dX6_append_84 ?_
    refine hiload X dX6_append_87 rfl ?_
    refine hiconst (v := 0) X dX6_append_89 rfl ?_
    refine hiast (n := 20) (f := (fs (fs (fs (fs (fs (fs (fs (fs F 0 n w1) 1 n w2) 2 n w3) 3 n w4) 4 n 0) 5 n w1) 6 n (-6)) 7 n (-6)) 8) X 9 rfl n rfl (by omega) (by decide) dX6_append_90 (ws' := stW G h n (fs (fs (fs (fs (fs (fs (fs (fs (fs F 0 n w1) 1 n w2) 2 n w3) 3 n w4) 4 n 0) 5 n w1) 6 n (-6)) 7 n (-6)) 8 n 0)) (stWs8 G h _ _ _ _) ?_
    refine haload_n X dX6_append_91 rfl ?_
    refine hget1 X (T := TX6) (N := 11) iX6 0 rfl rfl 10 (by decide) (by decide +kernel) rfl dX6_append_92 ?_
    refine hiload X dX6_append_95 rfl ?_
    refine hiconst (v := 0) X dX6_append_97 rfl ?_
    refine hiast (n := 20) (f := (fs (fs (fs (fs (fs (fs (fs (fs (fs F 0 n w1) 1 n w2) 2 n w3) 3 n w4) 4 n 0) 5 n w1) 6 n (-6)) 7 n (-6)) 8 n 0) 9) X 10 rfl n rfl (by omega) (by decide) dX6_append_98 (ws' := stW G h n (fs (fs (fs (fs (fs (fs (fs (fs (fs (fs F 0 n w1) 1 n w2) 2 n w3) 3 n w4) 4 n 0) 5 n w1) 6 n (-6)) 7 n (-6)) 8 n 0) 9 n 0)) (stWs9 G h _ _ _ _) ?_
    refine haload_n X dX6_append_99 rfl ?_
    refine hdup X dX6_append_100 rfl ?_
    refine hget1 X (T := TX6) (N := 11) iX6 0 rfl rfl 0 (by decide) (by decide +kernel) rfl dX6_append_101 ?_
    refine hiconst (v := 1) X dX6_append_104 rfl ?_
    refine hiadd X dX6_append_105 ?_
    refine hV_st (st' := [.int (nI (n + 1)), .ref (h 3)]) (congrArg (fun z => ([Value.int z, .ref (h 3)] : List Value)) (nI_1 n)) ?_
    refine hput1 X (T := TX6) (N := 11) iX6 tyX6 tyX6_ok nmX6 0 rfl rfl 0 (by decide) (by decide +kernel) (by decide +kernel) rfl rfl (Nat.le_of_ble_eq_true rfl) dX6_append_106 (ws' := stW G h (n + 1) (fs (fs (fs (fs (fs (fs (fs (fs (fs (fs F 0 n w1) 1 n w2) 2 n w3) 3 n w4) 4 n 0) 5 n w1) 6 n (-6)) 7 n (-6)) 8 n 0) 9 n 0)) (stWf0 G h _ _ _) ?_
    refine hiload X dX6_append_109 rfl ?_
    refine hiret X dX6_append_111 ⟨rfl, ?_⟩
    refine congrArg (stW G h (n + 1)) (?_ : (fs (fs (fs (fs (fs (fs (fs (fs (fs (fs F 0 n w1) 1 n w2) 2 n w3) 3 n w4) 4 n 0) 5 n w1) 6 n (-6)) 7 n (-6)) 8 n 0) 9 n 0 : hF) = apS F n w1 w2 w3 w4)
    rfl
  · exact (c1 (nI_lt (b := 20) hn (by decide))).elim

set_option maxHeartbeats 4000000 in
set_option maxRecDepth 100000 in
theorem kX6_standingOn (l : Launch) (G : hG) (h : Nat → Nat) (F : hF) (n : Nat) (x : Int32) (hn : n ≤ 20) : hM l G yX6_standingOn wsX6_standingOn ({ frames := 1, cells := 0, slots := 0, locals := 40 }) (stW G h n F) [.ref (h 3), .int x] (hR (some (.int (hsto n F x))) (stW G h n F)) := by
  refine hM_of (cc := cX6_standingOn) (maxL := 4) (ret := (some .int)) (by decide) rfl (Nat.le_of_ble_eq_true rfl) ?_
  intro pp ee ss mm aa bb me cd X hin
  have iX6 : ∀ w ∈ wsX60, w ∈ wsX6_standingOn := by decide +kernel
  have L : ∀ (d : Nat) (k : Nat), (k ≤ n) → (n - k) < d → hV pp l ee ({ frames := 1, cells := 0, slots := 0, locals := 40 }) ss mm aa bb me cd G (va_A (stW G h n F) ss.heap.size) 4 0 0 (MQ bb (hQc G (stW G h n F) ss.heap.size (hR (some (.int (hsto n F x))) (stW G h n F))) aa ss 0 0 (va_A (stW G h n F) ss.heap.size)) (stW G h n F) 4 [(3, .int (nI k)), (2, .int (orN k (fun s => if F 3 s = x ∧ ¬ F 4 s = 6 then (1 : Int32) <<< (nI s &&& 31) else 0))), (0, .ref (h 3)), (1, .int x)] [] := by
    intro d
    induction d with
    | zero =>
      intro k hk hd0
      exact absurd hd0 (Nat.not_lt_zero _)
    | succ d ih =>
      intro k hk hd0
      refine hiload_n X dX6_standingOn_4 rfl ?_
      refine haload_n X dX6_standingOn_5 rfl ?_
      refine hget1 X (T := TX6) (N := 11) iX6 0 rfl rfl 0 (by decide) (by decide +kernel) rfl dX6_standingOn_6 ?_
      refine hicmp_ge (tgt := 45) X dX6_standingOn_9 (by decide) (fun c1 => ?_) (fun c1 => ?_)
      · have ek := i_ge hk (by omega) c1
        refine hiload_n X dX6_standingOn_45 rfl ?_
        refine hiret X dX6_standingOn_46 ⟨congrArg (fun z => some (Value.int z)) (?_ : (orN k (fun s => if F 3 s = x ∧ ¬ F 4 s = 6 then (1 : Int32) <<< (nI s &&& 31) else 0)) = hsto n F x), ?_⟩
        · simp [hsto, ek]
        rfl
      · have hk1 := i_lt hk (by omega) c1
        refine haload_n X dX6_standingOn_12 rfl ?_
        refine hget1 X (T := TX6) (N := 11) iX6 0 rfl rfl 4 (by decide) (by decide +kernel) rfl dX6_standingOn_13 ?_
        refine hiload_n X dX6_standingOn_16 rfl ?_
        refine hiald (n := 20) (f := F 3) X 4 rfl k rfl (by omega) (by decide) dX6_standingOn_17 ?_
        refine hiload_n X dX6_standingOn_18 rfl ?_
        refine hicmp_ne (tgt := 39) X dX6_standingOn_19 (by decide) (fun c2 => ?_) (fun c2 => ?_)
        · refine hiinc (v := nI (k + 1)) (lv' := [(3, .int (nI (k + 1))), (2, .int (orN k (fun s => if F 3 s = x ∧ ¬ F 4 s = 6 then (1 : Int32) <<< (nI s &&& 31) else 0))), (0, .ref (h 3)), (1, .int x)]) X dX6_standingOn_39 rfl (nI_1 _) (by decide) rfl ?_
          refine hgoto (tgt := 4) X dX6_standingOn_42 (by decide) ?_
          have e3 : (orN k (fun s => if F 3 s = x ∧ ¬ F 4 s = 6 then (1 : Int32) <<< (nI s &&& 31) else 0) : Int32) = orN (k + 1) (fun s => if F 3 s = x ∧ ¬ F 4 s = 6 then (1 : Int32) <<< (nI s &&& 31) else 0) := by
            simp [orN, c1, c2]
          exact hV_to (ws' := stW G h n F) (lv' := [(3, .int (nI (k + 1))), (2, .int (orN (k + 1) (fun s => if F 3 s = x ∧ ¬ F 4 s = 6 then (1 : Int32) <<< (nI s &&& 31) else 0))), (0, .ref (h 3)), (1, .int x)]) (st' := []) rfl (congrArg (fun z => ([(3, .int (nI (k + 1))), (2, .int z), (0, .ref (h 3)), (1, .int x)] : List (Nat × Value))) e3) rfl (ih (k + 1) (by omega) (by omega))
        · refine haload_n X dX6_standingOn_22 rfl ?_
          refine hget1 X (T := TX6) (N := 11) iX6 0 rfl rfl 5 (by decide) (by decide +kernel) rfl dX6_standingOn_23 ?_
          refine hiload_n X dX6_standingOn_26 rfl ?_
          refine hiald (n := 20) (f := F 4) X 5 rfl k rfl (by omega) (by decide) dX6_standingOn_27 ?_
          refine hbipush (v := 6) X dX6_standingOn_28 rfl ?_
          refine hicmp_eq (tgt := 39) X dX6_standingOn_30 (by decide) (fun c4 => ?_) (fun c4 => ?_)
          · refine hiinc (v := nI (k + 1)) (lv' := [(3, .int (nI (k + 1))), (2, .int (orN k (fun s => if F 3 s = x ∧ ¬ F 4 s = 6 then (1 : Int32) <<< (nI s &&& 31) else 0))), (0, .ref (h 3)), (1, .int x)]) X dX6_standingOn_39 rfl (nI_1 _) (by decide) rfl ?_
            refine hgoto (tgt := 4) X dX6_standingOn_42 (by decide) ?_
            have e5 : (orN k (fun s => if F 3 s = x ∧ ¬ F 4 s = 6 then (1 : Int32) <<< (nI s &&& 31) else 0) : Int32) = orN (k + 1) (fun s => if F 3 s = x ∧ ¬ F 4 s = 6 then (1 : Int32) <<< (nI s &&& 31) else 0) := by
              simp [orN, c1, c2, c4]
            exact hV_to (ws' := stW G h n F) (lv' := [(3, .int (nI (k + 1))), (2, .int (orN (k + 1) (fun s => if F 3 s = x ∧ ¬ F 4 s = 6 then (1 : Int32) <<< (nI s &&& 31) else 0))), (0, .ref (h 3)), (1, .int x)]) (st' := []) rfl (congrArg (fun z => ([(3, .int (nI (k + 1))), (2, .int z), (0, .ref (h 3)), (1, .int x)] : List (Nat × Value))) e5) rfl (ih (k + 1) (by omega) (by omega))
          · refine hiload_n X dX6_standingOn_33 rfl ?_
            refine hiconst (v := 1) X dX6_standingOn_34 rfl ?_
            refine hiload_n X dX6_standingOn_35 rfl ?_
            refine hishl X dX6_standingOn_36 ?_
            refine hior X dX6_standingOn_37 ?_
            refine histore_n (lv' := [(2, .int ((orN k (fun s => if F 3 s = x ∧ ¬ F 4 s = 6 then (1 : Int32) <<< (nI s &&& 31) else 0)) ||| ((1 : Int32) <<< ((nI k) &&& 31)))), (3, .int (nI k)), (0, .ref (h 3)), (1, .int x)]) X dX6_standingOn_38 (by decide) rfl ?_
            refine hiinc (v := nI (k + 1)) (lv' := [(3, .int (nI (k + 1))), (2, .int ((orN k (fun s => if F 3 s = x ∧ ¬ F 4 s = 6 then (1 : Int32) <<< (nI s &&& 31) else 0)) ||| ((1 : Int32) <<< ((nI k) &&& 31)))), (0, .ref (h 3)), (1, .int x)]) X dX6_standingOn_39 rfl (nI_1 _) (by decide) rfl ?_
            refine hgoto (tgt := 4) X dX6_standingOn_42 (by decide) ?_
            have e6 : ((orN k (fun s => if F 3 s = x ∧ ¬ F 4 s = 6 then (1 : Int32) <<< (nI s &&& 31) else 0)) ||| ((1 : Int32) <<< ((nI k) &&& 31)) : Int32) = orN (k + 1) (fun s => if F 3 s = x ∧ ¬ F 4 s = 6 then (1 : Int32) <<< (nI s &&& 31) else 0) := by
              simp [orN, c1, c2, c4]
            exact hV_to (ws' := stW G h n F) (lv' := [(3, .int (nI (k + 1))), (2, .int (orN (k + 1) (fun s => if F 3 s = x ∧ ¬ F 4 s = 6 then (1 : Int32) <<< (nI s &&& 31) else 0))), (0, .ref (h 3)), (1, .int x)]) (st' := []) rfl (congrArg (fun z => ([(3, .int (nI (k + 1))), (2, .int z), (0, .ref (h 3)), (1, .int x)] : List (Nat × Value))) e6) rfl (ih (k + 1) (by omega) (by omega))
  refine hiconst (v := 0) X dX6_standingOn_0 rfl ?_
  refine histore_n (lv' := [(2, .int 0), (0, .ref (h 3)), (1, .int x)]) X dX6_standingOn_1 (by decide) rfl ?_
  refine hiconst (v := 0) X dX6_standingOn_2 rfl ?_
  refine histore_n (lv' := [(3, .int 0), (2, .int 0), (0, .ref (h 3)), (1, .int x)]) X dX6_standingOn_3 (by decide) rfl ?_
  have e7 : (0 : Int32) = orN 0 (fun s => if F 3 s = x ∧ ¬ F 4 s = 6 then (1 : Int32) <<< (nI s &&& 31) else 0) := by
    rfl
  exact hV_to (ws' := stW G h n F) (lv' := [(3, .int 0), (2, .int (orN 0 (fun s => if F 3 s = x ∧ ¬ F 4 s = 6 then (1 : Int32) <<< (nI s &&& 31) else 0))), (0, .ref (h 3)), (1, .int x)]) (st' := []) rfl (congrArg (fun z => ([(3, .int 0), (2, .int z), (0, .ref (h 3)), (1, .int x)] : List (Nat × Value))) e7) rfl (L _ 0 (by omega) (Nat.lt_succ_self _))

set_option maxHeartbeats 4000000 in
set_option maxRecDepth 100000 in
theorem kX6_countIn (l : Launch) (G : hG) (h : Nat → Nat) (F : hF) (n : Nat) (w : Int32) (hn : n ≤ 20) : hM l G yX6_countIn wsX6_countIn ({ frames := 1, cells := 0, slots := 0, locals := 40 }) (stW G h n F) [.ref (h 3), .int w] (hR (some (.int (hcnt n F w))) (stW G h n F)) := by
  refine hM_of (cc := cX6_countIn) (maxL := 4) (ret := (some .int)) (by decide) rfl (Nat.le_of_ble_eq_true rfl) ?_
  intro pp ee ss mm aa bb me cd X hin
  have iX6 : ∀ w ∈ wsX60, w ∈ wsX6_countIn := by decide +kernel
  have L : ∀ (d : Nat) (k : Nat), (k ≤ n) → (n - k) < d → hV pp l ee ({ frames := 1, cells := 0, slots := 0, locals := 40 }) ss mm aa bb me cd G (va_A (stW G h n F) ss.heap.size) 4 0 0 (MQ bb (hQc G (stW G h n F) ss.heap.size (hR (some (.int (hcnt n F w))) (stW G h n F))) aa ss 0 0 (va_A (stW G h n F) ss.heap.size)) (stW G h n F) 4 [(3, .int (nI k)), (2, .int (sumN k (fun s => if F 4 s = w then 1 else 0))), (0, .ref (h 3)), (1, .int w)] [] := by
    intro d
    induction d with
    | zero =>
      intro k hk hd0
      exact absurd hd0 (Nat.not_lt_zero _)
    | succ d ih =>
      intro k hk hd0
      refine hiload_n X dX6_countIn_4 rfl ?_
      refine haload_n X dX6_countIn_5 rfl ?_
      refine hget1 X (T := TX6) (N := 11) iX6 0 rfl rfl 0 (by decide) (by decide +kernel) rfl dX6_countIn_6 ?_
      refine hicmp_ge (tgt := 31) X dX6_countIn_9 (by decide) (fun c1 => ?_) (fun c1 => ?_)
      · have ek := i_ge hk (by omega) c1
        refine hiload_n X dX6_countIn_31 rfl ?_
        refine hiret X dX6_countIn_32 ⟨congrArg (fun z => some (Value.int z)) (?_ : (sumN k (fun s => if F 4 s = w then 1 else 0)) = hcnt n F w), ?_⟩
        · simp [hcnt, ek]
        rfl
      · have hk1 := i_lt hk (by omega) c1
        refine haload_n X dX6_countIn_12 rfl ?_
        refine hget1 X (T := TX6) (N := 11) iX6 0 rfl rfl 5 (by decide) (by decide +kernel) rfl dX6_countIn_13 ?_
        refine hiload_n X dX6_countIn_16 rfl ?_
        refine hiald (n := 20) (f := F 4) X 5 rfl k rfl (by omega) (by decide) dX6_countIn_17 ?_
        refine hiload_n X dX6_countIn_18 rfl ?_
        refine hicmp_ne (tgt := 25) X dX6_countIn_19 (by decide) (fun c2 => ?_) (fun c2 => ?_)
        · refine hiinc (v := nI (k + 1)) (lv' := [(3, .int (nI (k + 1))), (2, .int (sumN k (fun s => if F 4 s = w then 1 else 0))), (0, .ref (h 3)), (1, .int w)]) X dX6_countIn_25 rfl (nI_1 _) (by decide) rfl ?_
          refine hgoto (tgt := 4) X dX6_countIn_28 (by decide) ?_
          have e3 : (sumN k (fun s => if F 4 s = w then 1 else 0) : Int32) = sumN (k + 1) (fun s => if F 4 s = w then 1 else 0) := by
            simp [sumN, c1, c2]
          exact hV_to (ws' := stW G h n F) (lv' := [(3, .int (nI (k + 1))), (2, .int (sumN (k + 1) (fun s => if F 4 s = w then 1 else 0))), (0, .ref (h 3)), (1, .int w)]) (st' := []) rfl (congrArg (fun z => ([(3, .int (nI (k + 1))), (2, .int z), (0, .ref (h 3)), (1, .int w)] : List (Nat × Value))) e3) rfl (ih (k + 1) (by omega) (by omega))
        · refine hiinc (v := sumN k (fun s => if F 4 s = w then 1 else 0) + 1) (lv' := [(2, .int (sumN k (fun s => if F 4 s = w then 1 else 0) + 1)), (3, .int (nI k)), (0, .ref (h 3)), (1, .int w)]) X dX6_countIn_22 rfl rfl (by decide) rfl ?_
          refine hiinc (v := nI (k + 1)) (lv' := [(3, .int (nI (k + 1))), (2, .int (sumN k (fun s => if F 4 s = w then 1 else 0) + 1)), (0, .ref (h 3)), (1, .int w)]) X dX6_countIn_25 rfl (nI_1 _) (by decide) rfl ?_
          refine hgoto (tgt := 4) X dX6_countIn_28 (by decide) ?_
          have e4 : (sumN k (fun s => if F 4 s = w then 1 else 0) + 1 : Int32) = sumN (k + 1) (fun s => if F 4 s = w then 1 else 0) := by
            simp [sumN, c1, c2]
          exact hV_to (ws' := stW G h n F) (lv' := [(3, .int (nI (k + 1))), (2, .int (sumN (k + 1) (fun s => if F 4 s = w then 1 else 0))), (0, .ref (h 3)), (1, .int w)]) (st' := []) rfl (congrArg (fun z => ([(3, .int (nI (k + 1))), (2, .int z), (0, .ref (h 3)), (1, .int w)] : List (Nat × Value))) e4) rfl (ih (k + 1) (by omega) (by omega))
  refine hiconst (v := 0) X dX6_countIn_0 rfl ?_
  refine histore_n (lv' := [(2, .int 0), (0, .ref (h 3)), (1, .int w)]) X dX6_countIn_1 (by decide) rfl ?_
  refine hiconst (v := 0) X dX6_countIn_2 rfl ?_
  refine histore_n (lv' := [(3, .int 0), (2, .int 0), (0, .ref (h 3)), (1, .int w)]) X dX6_countIn_3 (by decide) rfl ?_
  have e5 : (0 : Int32) = sumN 0 (fun s => if F 4 s = w then 1 else 0) := by
    rfl
  exact hV_to (ws' := stW G h n F) (lv' := [(3, .int 0), (2, .int (sumN 0 (fun s => if F 4 s = w then 1 else 0))), (0, .ref (h 3)), (1, .int w)]) (st' := []) rfl (congrArg (fun z => ([(3, .int 0), (2, .int z), (0, .ref (h 3)), (1, .int w)] : List (Nat × Value))) e5) rfl (L _ 0 (by omega) (Nat.lt_succ_self _))

set_option maxHeartbeats 4000000 in
set_option maxRecDepth 100000 in
theorem kX6_metersAtDock (l : Launch) (G : hG) (h : Nat → Nat) (F : hF) (n : Nat) (hn : n ≤ 20) : hM l G yX6_metersAtDock wsX6_metersAtDock ({ frames := 1, cells := 0, slots := 0, locals := 40 }) (stW G h n F) [.ref (h 3)] (hR (some (.int (hmet n F))) (stW G h n F)) := by
  refine hM_of (cc := cX6_metersAtDock) (maxL := 3) (ret := (some .int)) (by decide) rfl (Nat.le_of_ble_eq_true rfl) ?_
  intro pp ee ss mm aa bb me cd X hin
  have iX6 : ∀ w ∈ wsX60, w ∈ wsX6_metersAtDock := by decide +kernel
  have L : ∀ (d : Nat) (k : Nat), (k ≤ n) → (n - k) < d → hV pp l ee ({ frames := 1, cells := 0, slots := 0, locals := 40 }) ss mm aa bb me cd G (va_A (stW G h n F) ss.heap.size) 3 0 0 (MQ bb (hQc G (stW G h n F) ss.heap.size (hR (some (.int (hmet n F))) (stW G h n F))) aa ss 0 0 (va_A (stW G h n F) ss.heap.size)) (stW G h n F) 4 [(2, .int (nI k)), (1, .int (sumN k (fun s => if F 4 s = 1 then F 1 s else 0))), (0, .ref (h 3))] [] := by
    intro d
    induction d with
    | zero =>
      intro k hk hd0
      exact absurd hd0 (Nat.not_lt_zero _)
    | succ d ih =>
      intro k hk hd0
      refine hiload_n X dX6_metersAtDock_4 rfl ?_
      refine haload_n X dX6_metersAtDock_5 rfl ?_
      refine hget1 X (T := TX6) (N := 11) iX6 0 rfl rfl 0 (by decide) (by decide +kernel) rfl dX6_metersAtDock_6 ?_
      refine hicmp_ge (tgt := 37) X dX6_metersAtDock_9 (by decide) (fun c1 => ?_) (fun c1 => ?_)
      · have ek := i_ge hk (by omega) c1
        refine hiload_n X dX6_metersAtDock_37 rfl ?_
        refine hiret X dX6_metersAtDock_38 ⟨congrArg (fun z => some (Value.int z)) (?_ : (sumN k (fun s => if F 4 s = 1 then F 1 s else 0)) = hmet n F), ?_⟩
        · simp [hmet, ek]
        rfl
      · have hk1 := i_lt hk (by omega) c1
        refine haload_n X dX6_metersAtDock_12 rfl ?_
        refine hget1 X (T := TX6) (N := 11) iX6 0 rfl rfl 5 (by decide) (by decide +kernel) rfl dX6_metersAtDock_13 ?_
        refine hiload_n X dX6_metersAtDock_16 rfl ?_
        refine hiald (n := 20) (f := F 4) X 5 rfl k rfl (by omega) (by decide) dX6_metersAtDock_17 ?_
        refine hiconst (v := 1) X dX6_metersAtDock_18 rfl ?_
        refine hicmp_ne (tgt := 31) X dX6_metersAtDock_19 (by decide) (fun c2 => ?_) (fun c2 => ?_)
        · refine hiinc (v := nI (k + 1)) (lv' := [(2, .int (nI (k + 1))), (1, .int (sumN k (fun s => if F 4 s = 1 then F 1 s else 0))), (0, .ref (h 3))]) X dX6_metersAtDock_31 rfl (nI_1 _) (by decide) rfl ?_
          refine hgoto (tgt := 4) X dX6_metersAtDock_34 (by decide) ?_
          have e3 : (sumN k (fun s => if F 4 s = 1 then F 1 s else 0) : Int32) = sumN (k + 1) (fun s => if F 4 s = 1 then F 1 s else 0) := by
            simp [sumN, c1, c2]
          exact hV_to (ws' := stW G h n F) (lv' := [(2, .int (nI (k + 1))), (1, .int (sumN (k + 1) (fun s => if F 4 s = 1 then F 1 s else 0))), (0, .ref (h 3))]) (st' := []) rfl (congrArg (fun z => ([(2, .int (nI (k + 1))), (1, .int z), (0, .ref (h 3))] : List (Nat × Value))) e3) rfl (ih (k + 1) (by omega) (by omega))
        · refine hiload_n X dX6_metersAtDock_22 rfl ?_
          refine haload_n X dX6_metersAtDock_23 rfl ?_
          refine hget1 X (T := TX6) (N := 11) iX6 0 rfl rfl 2 (by decide) (by decide +kernel) rfl dX6_metersAtDock_24 ?_
          refine hiload_n X dX6_metersAtDock_27 rfl ?_
          refine hiald (n := 20) (f := F 1) X 2 rfl k rfl (by omega) (by decide) dX6_metersAtDock_28 ?_
          refine hiadd X dX6_metersAtDock_29 ?_
          refine histore_n (lv' := [(1, .int ((sumN k (fun s => if F 4 s = 1 then F 1 s else 0)) + (F 1 k))), (2, .int (nI k)), (0, .ref (h 3))]) X dX6_metersAtDock_30 (by decide) rfl ?_
          refine hiinc (v := nI (k + 1)) (lv' := [(2, .int (nI (k + 1))), (1, .int ((sumN k (fun s => if F 4 s = 1 then F 1 s else 0)) + (F 1 k))), (0, .ref (h 3))]) X dX6_metersAtDock_31 rfl (nI_1 _) (by decide) rfl ?_
          refine hgoto (tgt := 4) X dX6_metersAtDock_34 (by decide) ?_
          have e4 : ((sumN k (fun s => if F 4 s = 1 then F 1 s else 0)) + (F 1 k) : Int32) = sumN (k + 1) (fun s => if F 4 s = 1 then F 1 s else 0) := by
            simp [sumN, c1, c2]
          exact hV_to (ws' := stW G h n F) (lv' := [(2, .int (nI (k + 1))), (1, .int (sumN (k + 1) (fun s => if F 4 s = 1 then F 1 s else 0))), (0, .ref (h 3))]) (st' := []) rfl (congrArg (fun z => ([(2, .int (nI (k + 1))), (1, .int z), (0, .ref (h 3))] : List (Nat × Value))) e4) rfl (ih (k + 1) (by omega) (by omega))
  refine hiconst (v := 0) X dX6_metersAtDock_0 rfl ?_
  refine histore_n (lv' := [(1, .int 0), (0, .ref (h 3))]) X dX6_metersAtDock_1 (by decide) rfl ?_
  refine hiconst (v := 0) X dX6_metersAtDock_2 rfl ?_
  refine histore_n (lv' := [(2, .int 0), (1, .int 0), (0, .ref (h 3))]) X dX6_metersAtDock_3 (by decide) rfl ?_
  have e5 : (0 : Int32) = sumN 0 (fun s => if F 4 s = 1 then F 1 s else 0) := by
    rfl
  exact hV_to (ws' := stW G h n F) (lv' := [(2, .int 0), (1, .int (sumN 0 (fun s => if F 4 s = 1 then F 1 s else 0))), (0, .ref (h 3))]) (st' := []) rfl (congrArg (fun z => ([(2, .int 0), (1, .int z), (0, .ref (h 3))] : List (Nat × Value))) e5) rfl (L _ 0 (by omega) (Nat.lt_succ_self _))

set_option maxHeartbeats 4000000 in
set_option maxRecDepth 100000 in
theorem kX6_builtWithoutPower (l : Launch) (G : hG) (h : Nat → Nat) (F : hF) (n : Nat) (hn : n ≤ 20) : hM l G yX6_builtWithoutPower wsX6_builtWithoutPower ({ frames := 1, cells := 0, slots := 0, locals := 40 }) (stW G h n F) [.ref (h 3)] (hR (some (.int (hwop n F))) (stW G h n F)) := by
  refine hM_of (cc := cX6_builtWithoutPower) (maxL := 3) (ret := (some .int)) (by decide) rfl (Nat.le_of_ble_eq_true rfl) ?_
  intro pp ee ss mm aa bb me cd X hin
  have iX6 : ∀ w ∈ wsX60, w ∈ wsX6_builtWithoutPower := by decide +kernel
  have L : ∀ (d : Nat) (k : Nat), (k ≤ n) → (n - k) < d → hV pp l ee ({ frames := 1, cells := 0, slots := 0, locals := 40 }) ss mm aa bb me cd G (va_A (stW G h n F) ss.heap.size) 3 0 0 (MQ bb (hQc G (stW G h n F) ss.heap.size (hR (some (.int (hwop n F))) (stW G h n F))) aa ss 0 0 (va_A (stW G h n F) ss.heap.size)) (stW G h n F) 4 [(2, .int (nI k)), (1, .int (sumN k (fun s => if F 4 s = 4 ∧ ¬ F 2 s ≤ 0 ∧ F 6 s = -6 then 1 else 0))), (0, .ref (h 3))] [] := by
    intro d
    induction d with
    | zero =>
      intro k hk hd0
      exact absurd hd0 (Nat.not_lt_zero _)
    | succ d ih =>
      intro k hk hd0
      refine hiload_n X dX6_builtWithoutPower_4 rfl ?_
      refine haload_n X dX6_builtWithoutPower_5 rfl ?_
      refine hget1 X (T := TX6) (N := 11) iX6 0 rfl rfl 0 (by decide) (by decide +kernel) rfl dX6_builtWithoutPower_6 ?_
      refine hicmp_ge (tgt := 51) X dX6_builtWithoutPower_9 (by decide) (fun c1 => ?_) (fun c1 => ?_)
      · have ek := i_ge hk (by omega) c1
        refine hiload_n X dX6_builtWithoutPower_51 rfl ?_
        refine hiret X dX6_builtWithoutPower_52 ⟨congrArg (fun z => some (Value.int z)) (?_ : (sumN k (fun s => if F 4 s = 4 ∧ ¬ F 2 s ≤ 0 ∧ F 6 s = -6 then 1 else 0)) = hwop n F), ?_⟩
        · simp [hwop, ek]
        rfl
      · have hk1 := i_lt hk (by omega) c1
        refine haload_n X dX6_builtWithoutPower_12 rfl ?_
        refine hget1 X (T := TX6) (N := 11) iX6 0 rfl rfl 5 (by decide) (by decide +kernel) rfl dX6_builtWithoutPower_13 ?_
        refine hiload_n X dX6_builtWithoutPower_16 rfl ?_
        refine hiald (n := 20) (f := F 4) X 5 rfl k rfl (by omega) (by decide) dX6_builtWithoutPower_17 ?_
        refine hiconst (v := 4) X dX6_builtWithoutPower_18 rfl ?_
        refine hicmp_ne (tgt := 45) X dX6_builtWithoutPower_19 (by decide) (fun c2 => ?_) (fun c2 => ?_)
        · refine hiinc (v := nI (k + 1)) (lv' := [(2, .int (nI (k + 1))), (1, .int (sumN k (fun s => if F 4 s = 4 ∧ ¬ F 2 s ≤ 0 ∧ F 6 s = -6 then 1 else 0))), (0, .ref (h 3))]) X dX6_builtWithoutPower_45 rfl (nI_1 _) (by decide) rfl ?_
          refine hgoto (tgt := 4) X dX6_builtWithoutPower_48 (by decide) ?_
          have e3 : (sumN k (fun s => if F 4 s = 4 ∧ ¬ F 2 s ≤ 0 ∧ F 6 s = -6 then 1 else 0) : Int32) = sumN (k + 1) (fun s => if F 4 s = 4 ∧ ¬ F 2 s ≤ 0 ∧ F 6 s = -6 then 1 else 0) := by
            simp [sumN, c1, c2]
          exact hV_to (ws' := stW G h n F) (lv' := [(2, .int (nI (k + 1))), (1, .int (sumN (k + 1) (fun s => if F 4 s = 4 ∧ ¬ F 2 s ≤ 0 ∧ F 6 s = -6 then 1 else 0))), (0, .ref (h 3))]) (st' := []) rfl (congrArg (fun z => ([(2, .int (nI (k + 1))), (1, .int z), (0, .ref (h 3))] : List (Nat × Value))) e3) rfl (ih (k + 1) (by omega) (by omega))
        · refine haload_n X dX6_builtWithoutPower_22 rfl ?_
          refine hget1 X (T := TX6) (N := 11) iX6 0 rfl rfl 3 (by decide) (by decide +kernel) rfl dX6_builtWithoutPower_23 ?_
          refine hiload_n X dX6_builtWithoutPower_26 rfl ?_
          refine hiald (n := 20) (f := F 2) X 3 rfl k rfl (by omega) (by decide) dX6_builtWithoutPower_27 ?_
          refine hif_le (tgt := 45) X dX6_builtWithoutPower_28 (by decide) (fun c4 => ?_) (fun c4 => ?_)
          · refine hiinc (v := nI (k + 1)) (lv' := [(2, .int (nI (k + 1))), (1, .int (sumN k (fun s => if F 4 s = 4 ∧ ¬ F 2 s ≤ 0 ∧ F 6 s = -6 then 1 else 0))), (0, .ref (h 3))]) X dX6_builtWithoutPower_45 rfl (nI_1 _) (by decide) rfl ?_
            refine hgoto (tgt := 4) X dX6_builtWithoutPower_48 (by decide) ?_
            have e5 : (sumN k (fun s => if F 4 s = 4 ∧ ¬ F 2 s ≤ 0 ∧ F 6 s = -6 then 1 else 0) : Int32) = sumN (k + 1) (fun s => if F 4 s = 4 ∧ ¬ F 2 s ≤ 0 ∧ F 6 s = -6 then 1 else 0) := by
              simp [sumN, c1, c2, c4]
            exact hV_to (ws' := stW G h n F) (lv' := [(2, .int (nI (k + 1))), (1, .int (sumN (k + 1) (fun s => if F 4 s = 4 ∧ ¬ F 2 s ≤ 0 ∧ F 6 s = -6 then 1 else 0))), (0, .ref (h 3))]) (st' := []) rfl (congrArg (fun z => ([(2, .int (nI (k + 1))), (1, .int z), (0, .ref (h 3))] : List (Nat × Value))) e5) rfl (ih (k + 1) (by omega) (by omega))
          · refine haload_n X dX6_builtWithoutPower_31 rfl ?_
            refine hget1 X (T := TX6) (N := 11) iX6 0 rfl rfl 7 (by decide) (by decide +kernel) rfl dX6_builtWithoutPower_32 ?_
            refine hiload_n X dX6_builtWithoutPower_35 rfl ?_
            refine hiald (n := 20) (f := F 6) X 7 rfl k rfl (by omega) (by decide) dX6_builtWithoutPower_36 ?_
            refine hbipush (v := (-6)) X dX6_builtWithoutPower_37 rfl ?_
            refine hicmp_ne (tgt := 45) X dX6_builtWithoutPower_39 (by decide) (fun c6 => ?_) (fun c6 => ?_)
            · refine hiinc (v := nI (k + 1)) (lv' := [(2, .int (nI (k + 1))), (1, .int (sumN k (fun s => if F 4 s = 4 ∧ ¬ F 2 s ≤ 0 ∧ F 6 s = -6 then 1 else 0))), (0, .ref (h 3))]) X dX6_builtWithoutPower_45 rfl (nI_1 _) (by decide) rfl ?_
              refine hgoto (tgt := 4) X dX6_builtWithoutPower_48 (by decide) ?_
              have e7 : (sumN k (fun s => if F 4 s = 4 ∧ ¬ F 2 s ≤ 0 ∧ F 6 s = -6 then 1 else 0) : Int32) = sumN (k + 1) (fun s => if F 4 s = 4 ∧ ¬ F 2 s ≤ 0 ∧ F 6 s = -6 then 1 else 0) := by
                simp [sumN, c1, c2, c4, c6]
              exact hV_to (ws' := stW G h n F) (lv' := [(2, .int (nI (k + 1))), (1, .int (sumN (k + 1) (fun s => if F 4 s = 4 ∧ ¬ F 2 s ≤ 0 ∧ F 6 s = -6 then 1 else 0))), (0, .ref (h 3))]) (st' := []) rfl (congrArg (fun z => ([(2, .int (nI (k + 1))), (1, .int z), (0, .ref (h 3))] : List (Nat × Value))) e7) rfl (ih (k + 1) (by omega) (by omega))
            · refine hiinc (v := sumN k (fun s => if F 4 s = 4 ∧ ¬ F 2 s ≤ 0 ∧ F 6 s = -6 then 1 else 0) + 1) (lv' := [(1, .int (sumN k (fun s => if F 4 s = 4 ∧ ¬ F 2 s ≤ 0 ∧ F 6 s = -6 then 1 else 0) + 1)), (2, .int (nI k)), (0, .ref (h 3))]) X dX6_builtWithoutPower_42 rfl rfl (by decide) rfl ?_
              refine hiinc (v := nI (k + 1)) (lv' := [(2, .int (nI (k + 1))), (1, .int (sumN k (fun s => if F 4 s = 4 ∧ ¬ F 2 s ≤ 0 ∧ F 6 s = -6 then 1 else 0) + 1)), (0, .ref (h 3))]) X dX6_builtWithoutPower_45 rfl (nI_1 _) (by decide) rfl ?_
              refine hgoto (tgt := 4) X dX6_builtWithoutPower_48 (by decide) ?_
              have e8 : (sumN k (fun s => if F 4 s = 4 ∧ ¬ F 2 s ≤ 0 ∧ F 6 s = -6 then 1 else 0) + 1 : Int32) = sumN (k + 1) (fun s => if F 4 s = 4 ∧ ¬ F 2 s ≤ 0 ∧ F 6 s = -6 then 1 else 0) := by
                simp [sumN, c1, c2, c4, c6]
              exact hV_to (ws' := stW G h n F) (lv' := [(2, .int (nI (k + 1))), (1, .int (sumN (k + 1) (fun s => if F 4 s = 4 ∧ ¬ F 2 s ≤ 0 ∧ F 6 s = -6 then 1 else 0))), (0, .ref (h 3))]) (st' := []) rfl (congrArg (fun z => ([(2, .int (nI (k + 1))), (1, .int z), (0, .ref (h 3))] : List (Nat × Value))) e8) rfl (ih (k + 1) (by omega) (by omega))
  refine hiconst (v := 0) X dX6_builtWithoutPower_0 rfl ?_
  refine histore_n (lv' := [(1, .int 0), (0, .ref (h 3))]) X dX6_builtWithoutPower_1 (by decide) rfl ?_
  refine hiconst (v := 0) X dX6_builtWithoutPower_2 rfl ?_
  refine histore_n (lv' := [(2, .int 0), (1, .int 0), (0, .ref (h 3))]) X dX6_builtWithoutPower_3 (by decide) rfl ?_
  have e9 : (0 : Int32) = sumN 0 (fun s => if F 4 s = 4 ∧ ¬ F 2 s ≤ 0 ∧ F 6 s = -6 then 1 else 0) := by
    rfl
  exact hV_to (ws' := stW G h n F) (lv' := [(2, .int 0), (1, .int (sumN 0 (fun s => if F 4 s = 4 ∧ ¬ F 2 s ≤ 0 ∧ F 6 s = -6 then 1 else 0))), (0, .ref (h 3))]) (st' := []) rfl (congrArg (fun z => ([(2, .int 0), (1, .int z), (0, .ref (h 3))] : List (Nat × Value))) e9) rfl (L _ 0 (by omega) (Nat.lt_succ_self _))

set_option maxHeartbeats 4000000 in
set_option maxRecDepth 100000 in
theorem kX6_baseIsBuilt (l : Launch) (G : hG) (h : Nat → Nat) (F : hF) (n : Nat) (x : Int32) (hn : n ≤ 20) : hM l G yX6_baseIsBuilt wsX6_baseIsBuilt ({ frames := 2, cells := 0, slots := 0, locals := 61 }) (stW G h n F) [.ref (h 3), .int x] (hR (some (.int (bI (hbb n F x)))) (stW G h n F)) := by
  refine hM_of (cc := cX6_baseIsBuilt) (maxL := 3) (ret := (some .boolean)) (by decide) rfl (Nat.le_of_ble_eq_true rfl) ?_
  intro pp ee ss mm aa bb me cd X hin
  have iX6 : ∀ w ∈ wsX60, w ∈ wsX6_baseIsBuilt := by decide +kernel
  refine haload_n X dX6_baseIsBuilt_0 rfl ?_
  refine hiload_n X dX6_baseIsBuilt_1 rfl ?_
  refine hcallV0 (C := RX6) (T := TX6) (N := 11) (As := [.int x]) (rest := []) (st' := [.int (bI (hhas n x))]) (w := stW G h n F) X (q0 := 0) (kX6_has l G h F n x) gX6_baseIsBuilt_X6_has rfl (n := 1) (by decide +kernel) (by decide) rfl rfl rfl rfl (Nat.le_of_ble_eq_true rfl) dX6_baseIsBuilt_2 rfl rfl (by decide) rfl ?_
  refine hif_neB (tgt := 10) X dX6_baseIsBuilt_5 (by decide) (fun c1 => ?_) (fun c1 => ?_)
  · obtain ⟨j, hj, hx⟩ := has_in (by omega) c1
    refine haload_n X dX6_baseIsBuilt_10 rfl ?_
    refine hget1 X (T := TX6) (N := 11) iX6 0 rfl rfl 4 (by decide) (by decide +kernel) rfl dX6_baseIsBuilt_11 ?_
    refine hiload_n X dX6_baseIsBuilt_14 rfl ?_
    refine hV_st (st' := [.int (nI j), .ref (h 7)]) (congrArg (fun z => ([Value.int z, .ref (h 7)] : List Value)) (hx)) ?_
    refine hiald (n := 20) (f := F 3) X 4 rfl j rfl (by omega) (by decide) dX6_baseIsBuilt_15 ?_
    refine histore_n (lv' := [(2, .int (F 3 j)), (0, .ref (h 3)), (1, .int x)]) X dX6_baseIsBuilt_16 (by decide) rfl ?_
    refine haload_n X dX6_baseIsBuilt_17 rfl ?_
    refine hiload_n X dX6_baseIsBuilt_18 rfl ?_
    refine hcallV0 (C := RX6) (T := TX6) (N := 11) (As := [.int (F 3 j)]) (rest := []) (st' := [.int (bI (hhas n (F 3 j)))]) (w := stW G h n F) X (q0 := 0) (kX6_has l G h F n (F 3 j)) gX6_baseIsBuilt_X6_has rfl (n := 1) (by decide +kernel) (by decide) rfl rfl rfl rfl (Nat.le_of_ble_eq_true rfl) dX6_baseIsBuilt_19 rfl rfl (by decide) rfl ?_
    refine hif_eqB (tgt := 35) X dX6_baseIsBuilt_22 (by decide) (fun c2 => ?_) (fun c2 => ?_)
    · refine hiconst (v := 1) X dX6_baseIsBuilt_35 rfl ?_
      refine hgoto (tgt := 40) X dX6_baseIsBuilt_36 (by decide) ?_
      refine hzret X rfl dX6_baseIsBuilt_40 ⟨congrArg (fun z => some (Value.int z)) (?_ : 1 = bI (hbb n F x)), ?_⟩
      · have ej := nI_clamp (show j < 2 ^ 31 by omega)
        subst hx
        exact (bI_t ⟨c1, by rw [ej]; exact Or.inl c2⟩).symm
      rfl
    · obtain ⟨b, hb, hy⟩ := has_in (by omega) c2
      refine haload_n X dX6_baseIsBuilt_25 rfl ?_
      refine hget1 X (T := TX6) (N := 11) iX6 0 rfl rfl 5 (by decide) (by decide +kernel) rfl dX6_baseIsBuilt_26 ?_
      refine hiload_n X dX6_baseIsBuilt_29 rfl ?_
      refine hV_st (st' := [.int (nI b), .ref (h 8)]) (congrArg (fun z => ([Value.int z, .ref (h 8)] : List Value)) (hy)) ?_
      refine hiald (n := 20) (f := F 4) X 5 rfl b rfl (by omega) (by decide) dX6_baseIsBuilt_30 ?_
      refine hiconst (v := 4) X dX6_baseIsBuilt_31 rfl ?_
      refine hicmp_ne (tgt := 39) X dX6_baseIsBuilt_32 (by decide) (fun c3 => ?_) (fun c3 => ?_)
      · refine hiconst (v := 0) X dX6_baseIsBuilt_39 rfl ?_
        refine hzret X rfl dX6_baseIsBuilt_40 ⟨congrArg (fun z => some (Value.int z)) (?_ : 0 = bI (hbb n F x)), ?_⟩
        · have ej := nI_clamp (show j < 2 ^ 31 by omega)
          have eb := nI_clamp (show b < 2 ^ 31 by omega)
          subst hx
          exact (bI_f (fun q => by have q2 := q.2; rw [ej, hy, eb] at q2; exact q2.elim (fun z => z (hy ▸ c2)) c3)).symm
        rfl
      · refine hiconst (v := 1) X dX6_baseIsBuilt_35 rfl ?_
        refine hgoto (tgt := 40) X dX6_baseIsBuilt_36 (by decide) ?_
        refine hzret X rfl dX6_baseIsBuilt_40 ⟨congrArg (fun z => some (Value.int z)) (?_ : 1 = bI (hbb n F x)), ?_⟩
        · have ej := nI_clamp (show j < 2 ^ 31 by omega)
          have eb := nI_clamp (show b < 2 ^ 31 by omega)
          subst hx
          exact (bI_t ⟨c1, by rw [ej, hy, eb]; exact Or.inr c3⟩).symm
        rfl
  · refine hiconst (v := 0) X dX6_baseIsBuilt_8 rfl ?_
    refine hzret X rfl dX6_baseIsBuilt_9 ⟨congrArg (fun z => some (Value.int z)) (?_ : 0 = bI (hbb n F x)), ?_⟩
    · exact (bI_f (fun q => c1 q.1)).symm
    rfl

set_option maxHeartbeats 4000000 in
set_option maxRecDepth 100000 in
theorem kX6_nextToBuild (l : Launch) (G : hG) (h : Nat → Nat) (F : hF) (n : Nat) (hn : n ≤ 20) : hM l G yX6_nextToBuild wsX6_nextToBuild ({ frames := 3, cells := 0, slots := 0, locals := 83 }) (stW G h n F) [.ref (h 3)] (hR (some (.int (nbN n F n 0))) (stW G h n F)) := by
  refine hM_of (cc := cX6_nextToBuild) (maxL := 2) (ret := (some .int)) (by decide) rfl (Nat.le_of_ble_eq_true rfl) ?_
  intro pp ee ss mm aa bb me cd X hin
  have iX6 : ∀ w ∈ wsX60, w ∈ wsX6_nextToBuild := by decide +kernel
  have L : ∀ (d : Nat) (k : Nat), (k ≤ n) → (nbN n F (n - k) k = nbN n F n 0) → (n - k) < d → hV pp l ee ({ frames := 3, cells := 0, slots := 0, locals := 83 }) ss mm aa bb me cd G (va_A (stW G h n F) ss.heap.size) 2 0 0 (MQ bb (hQc G (stW G h n F) ss.heap.size (hR (some (.int (nbN n F n 0))) (stW G h n F))) aa ss 0 0 (va_A (stW G h n F) ss.heap.size)) (stW G h n F) 2 [(1, .int (nI k)), (0, .ref (h 3))] [] := by
    intro d
    induction d with
    | zero =>
      intro k hk hE hd0
      exact absurd hd0 (Nat.not_lt_zero _)
    | succ d ih =>
      intro k hk hE hd0
      refine hiload_n X dX6_nextToBuild_2 rfl ?_
      refine haload_n X dX6_nextToBuild_3 rfl ?_
      refine hget1 X (T := TX6) (N := 11) iX6 0 rfl rfl 0 (by decide) (by decide +kernel) rfl dX6_nextToBuild_4 ?_
      refine hicmp_ge (tgt := 36) X dX6_nextToBuild_7 (by decide) (fun c1 => ?_) (fun c1 => ?_)
      · have ek := i_ge hk (by omega) c1
        refine hbipush (v := (-6)) X dX6_nextToBuild_36 rfl ?_
        refine hiret X dX6_nextToBuild_38 ⟨congrArg (fun z => some (Value.int z)) (?_ : (-6) = nbN n F n 0), ?_⟩
        · rw [← hE, ek, Nat.sub_self]
          first | done | rfl
        rfl
      · have hk1 := i_lt hk (by omega) c1
        refine haload_n X dX6_nextToBuild_10 rfl ?_
        refine hget1 X (T := TX6) (N := 11) iX6 0 rfl rfl 5 (by decide) (by decide +kernel) rfl dX6_nextToBuild_11 ?_
        refine hiload_n X dX6_nextToBuild_14 rfl ?_
        refine hiald (n := 20) (f := F 4) X 5 rfl k rfl (by omega) (by decide) dX6_nextToBuild_15 ?_
        refine hiconst (v := 2) X dX6_nextToBuild_16 rfl ?_
        refine hicmp_ne (tgt := 30) X dX6_nextToBuild_17 (by decide) (fun c2 => ?_) (fun c2 => ?_)
        · refine hiinc (v := nI (k + 1)) (lv' := [(1, .int (nI (k + 1))), (0, .ref (h 3))]) X dX6_nextToBuild_30 rfl (nI_1 _) (by decide) rfl ?_
          refine hgoto (tgt := 2) X dX6_nextToBuild_33 (by decide) ?_
          exact hV_to (ws' := stW G h n F) (lv' := [(1, .int (nI (k + 1))), (0, .ref (h 3))]) (st' := []) rfl rfl rfl (ih (k + 1) (by omega) (by rw [← hE, show n - k = (n - (k + 1)) + 1 by omega, nbN, if_neg (fun q => c2 q.1)]) (by omega))
        · refine haload_n X dX6_nextToBuild_20 rfl ?_
          refine hiload_n X dX6_nextToBuild_21 rfl ?_
          refine hcallV0 (C := RX6) (T := TX6) (N := 11) (As := [.int (nI k)]) (rest := []) (st' := [.int (bI (hbb n F (nI k)))]) (w := stW G h n F) X (q0 := 0) (kX6_baseIsBuilt l G h F n (nI k) (by first | assumption | omega | simp [fs_at, *])) gX6_nextToBuild_X6_baseIsBuilt rfl (n := 1) (by decide +kernel) (by decide) rfl rfl rfl rfl (Nat.le_of_ble_eq_true rfl) dX6_nextToBuild_22 rfl rfl (by decide) rfl ?_
          refine hif_eqB (tgt := 30) X dX6_nextToBuild_25 (by decide) (fun c3 => ?_) (fun c3 => ?_)
          · refine hiinc (v := nI (k + 1)) (lv' := [(1, .int (nI (k + 1))), (0, .ref (h 3))]) X dX6_nextToBuild_30 rfl (nI_1 _) (by decide) rfl ?_
            refine hgoto (tgt := 2) X dX6_nextToBuild_33 (by decide) ?_
            exact hV_to (ws' := stW G h n F) (lv' := [(1, .int (nI (k + 1))), (0, .ref (h 3))]) (st' := []) rfl rfl rfl (ih (k + 1) (by omega) (by rw [← hE, show n - k = (n - (k + 1)) + 1 by omega, nbN, if_neg (fun q => c3 q.2)]) (by omega))
          · refine hiload_n X dX6_nextToBuild_28 rfl ?_
            refine hiret X dX6_nextToBuild_29 ⟨congrArg (fun z => some (Value.int z)) (?_ : (nI k) = nbN n F n 0), ?_⟩
            · rw [← hE, show n - k = (n - (k + 1)) + 1 by omega, nbN, if_pos ⟨c2, c3⟩]
            rfl
  refine hiconst (v := 0) X dX6_nextToBuild_0 rfl ?_
  refine histore_n (lv' := [(1, .int 0), (0, .ref (h 3))]) X dX6_nextToBuild_1 (by decide) rfl ?_
  exact hV_to (ws' := stW G h n F) (lv' := [(1, .int 0), (0, .ref (h 3))]) (st' := []) rfl rfl rfl (L _ 0 (Nat.zero_le _) rfl (Nat.lt_succ_self _))

set_option maxHeartbeats 4000000 in
set_option maxRecDepth 100000 in
theorem kX6_nextToDismantle (l : Launch) (G : hG) (h : Nat → Nat) (F : hF) (n : Nat) (hn : n ≤ 20) : hM l G yX6_nextToDismantle wsX6_nextToDismantle ({ frames := 2, cells := 0, slots := 0, locals := 63 }) (stW G h n F) [.ref (h 3)] (hR (some (.int (ndN n F n))) (stW G h n F)) := by
  refine hM_of (cc := cX6_nextToDismantle) (maxL := 2) (ret := (some .int)) (by decide) rfl (Nat.le_of_ble_eq_true rfl) ?_
  intro pp ee ss mm aa bb me cd X hin
  have iX6 : ∀ w ∈ wsX60, w ∈ wsX6_nextToDismantle := by decide +kernel
  have L : ∀ (d : Nat) (k : Nat), (k ≤ n) → (ndN n F k = ndN n F n) → (k) < d → hV pp l ee ({ frames := 2, cells := 0, slots := 0, locals := 63 }) ss mm aa bb me cd G (va_A (stW G h n F) ss.heap.size) 2 0 0 (MQ bb (hQc G (stW G h n F) ss.heap.size (hR (some (.int (ndN n F n))) (stW G h n F))) aa ss 0 0 (va_A (stW G h n F) ss.heap.size)) (stW G h n F) 7 [(1, .int (nI k - 1)), (0, .ref (h 3))] [] := by
    intro d
    induction d with
    | zero =>
      intro k hk hE hd0
      exact absurd hd0 (Nat.not_lt_zero _)
    | succ d ih =>
      intro k hk hE hd0
      refine hiload_n X dX6_nextToDismantle_7 rfl ?_
      refine hif_lt (tgt := 37) X dX6_nextToDismantle_8 (by decide) (fun c1 => ?_) (fun c1 => ?_)
      · have ek : k = 0 := by
          cases k with
          | zero => rfl
          | succ k1 => exact absurd c1 (by rw [nI_pred]; exact nI_pos (by omega))
        refine hbipush (v := (-6)) X dX6_nextToDismantle_37 rfl ?_
        refine hiret X dX6_nextToDismantle_39 ⟨congrArg (fun z => some (Value.int z)) (?_ : (-6) = ndN n F n), ?_⟩
        · rw [← hE, ek]
          first | done | rfl
        rfl
      · have hk0 : ¬ k = 0 := fun z9 => c1 (by rw [z9]; decide)
        obtain ⟨k1, hk2⟩ : ∃ k1, k = k1 + 1 := ⟨k - 1, by omega⟩
        have hk1 : nI k - 1 = nI k1 := by rw [hk2, nI_pred]
        rw [hk2] at hE
        have b2 : nI k - 1 = nI k1 := hk1
        rw [b2]
        refine haload_n X dX6_nextToDismantle_11 rfl ?_
        refine hget1 X (T := TX6) (N := 11) iX6 0 rfl rfl 5 (by decide) (by decide +kernel) rfl dX6_nextToDismantle_12 ?_
        refine hiload_n X dX6_nextToDismantle_15 rfl ?_
        refine hiald (n := 20) (f := F 4) X 5 rfl k1 rfl (by omega) (by decide) dX6_nextToDismantle_16 ?_
        refine hiconst (v := 4) X dX6_nextToDismantle_17 rfl ?_
        refine hicmp_ne (tgt := 31) X dX6_nextToDismantle_18 (by decide) (fun c3 => ?_) (fun c3 => ?_)
        · refine hiinc (v := nI k1 + (-1)) (lv' := [(1, .int (nI k1 + (-1))), (0, .ref (h 3))]) X dX6_nextToDismantle_31 rfl rfl (by decide) rfl ?_
          refine hgoto (tgt := 7) X dX6_nextToDismantle_34 (by decide) ?_
          have e4 : (nI k1 + (-1) : Int32) = nI k1 - 1 := by
            exact (Int32.sub_eq_add_neg ..).symm
          exact hV_to (ws' := stW G h n F) (lv' := [(1, .int (nI k1 - 1)), (0, .ref (h 3))]) (st' := []) rfl (congrArg (fun z => ([(1, .int z), (0, .ref (h 3))] : List (Nat × Value))) e4) rfl (ih k1 (by omega) (by rw [← hE, ndN, if_neg (fun q => c3 q.1)]) (by omega))
        · refine haload_n X dX6_nextToDismantle_21 rfl ?_
          refine hiload_n X dX6_nextToDismantle_22 rfl ?_
          refine hcallV0 (C := RX6) (T := TX6) (N := 11) (As := [.int (nI k1)]) (rest := []) (st' := [.int (hsto n F (nI k1))]) (w := stW G h n F) X (q0 := 0) (kX6_standingOn l G h F n (nI k1) (by first | assumption | omega | simp [fs_at, *])) gX6_nextToDismantle_X6_standingOn rfl (n := 1) (by decide +kernel) (by decide) rfl rfl rfl rfl (Nat.le_of_ble_eq_true rfl) dX6_nextToDismantle_23 rfl rfl (by decide) rfl ?_
          refine hif_ne (tgt := 31) X dX6_nextToDismantle_26 (by decide) (fun c5 => ?_) (fun c5 => ?_)
          · refine hiinc (v := nI k1 + (-1)) (lv' := [(1, .int (nI k1 + (-1))), (0, .ref (h 3))]) X dX6_nextToDismantle_31 rfl rfl (by decide) rfl ?_
            refine hgoto (tgt := 7) X dX6_nextToDismantle_34 (by decide) ?_
            have e6 : (nI k1 + (-1) : Int32) = nI k1 - 1 := by
              exact (Int32.sub_eq_add_neg ..).symm
            exact hV_to (ws' := stW G h n F) (lv' := [(1, .int (nI k1 - 1)), (0, .ref (h 3))]) (st' := []) rfl (congrArg (fun z => ([(1, .int z), (0, .ref (h 3))] : List (Nat × Value))) e6) rfl (ih k1 (by omega) (by rw [← hE, ndN, if_neg (fun q => c5 q.2)]) (by omega))
          · refine hiload_n X dX6_nextToDismantle_29 rfl ?_
            refine hiret X dX6_nextToDismantle_30 ⟨congrArg (fun z => some (Value.int z)) (?_ : (nI k1) = ndN n F n), ?_⟩
            · rw [← hE, ndN, if_pos ⟨c3, c5⟩]
            rfl
  refine haload_n X dX6_nextToDismantle_0 rfl ?_
  refine hget1 X (T := TX6) (N := 11) iX6 0 rfl rfl 0 (by decide) (by decide +kernel) rfl dX6_nextToDismantle_1 ?_
  refine hiconst (v := 1) X dX6_nextToDismantle_4 rfl ?_
  refine hisub X dX6_nextToDismantle_5 ?_
  refine histore_n (lv' := [(1, .int ((nI n) - 1)), (0, .ref (h 3))]) X dX6_nextToDismantle_6 (by decide) rfl ?_
  have e7 : ((nI n) - 1 : Int32) = nI n - 1 := by
    rfl
  exact hV_to (ws' := stW G h n F) (lv' := [(1, .int (nI n - 1)), (0, .ref (h 3))]) (st' := []) rfl (congrArg (fun z => ([(1, .int z), (0, .ref (h 3))] : List (Nat × Value))) e7) rfl (L _ n (Nat.le_refl _) rfl (Nat.lt_succ_self _))

set_option maxHeartbeats 4000000 in
set_option maxRecDepth 100000 in
theorem kX6_clearUnbuilt (l : Launch) (G : hG) (h : Nat → Nat) (F : hF) (n : Nat) (hn : n ≤ 20) : hM l G yX6_clearUnbuilt wsX6_clearUnbuilt ({ frames := 1, cells := 0, slots := 0, locals := 40 }) (stW G h n F) [.ref (h 3)] (hR (some (.int ((itN n clS (F, 0)).2))) (stW G h n ((itN n clS (F, 0)).1))) := by
  refine hM_of (cc := cX6_clearUnbuilt) (maxL := 3) (ret := (some .int)) (by decide) rfl (Nat.le_of_ble_eq_true rfl) ?_
  intro pp ee ss mm aa bb me cd X hin
  have iX6 : ∀ w ∈ wsX60, w ∈ wsX6_clearUnbuilt := by decide +kernel
  have L : ∀ (d : Nat) (k : Nat), (k ≤ n) → (n - k) < d → hV pp l ee ({ frames := 1, cells := 0, slots := 0, locals := 40 }) ss mm aa bb me cd G (va_A (stW G h n F) ss.heap.size) 3 0 0 (MQ bb (hQc G (stW G h n F) ss.heap.size (hR (some (.int ((itN n clS (F, 0)).2))) (stW G h n ((itN n clS (F, 0)).1)))) aa ss 0 0 (va_A (stW G h n F) ss.heap.size)) (stW G h n ((itN k clS (F, 0)).1)) 4 [(2, .int (nI k)), (1, .int ((itN k clS (F, 0)).2)), (0, .ref (h 3))] [] := by
    intro d
    induction d with
    | zero =>
      intro k hk hd0
      exact absurd hd0 (Nat.not_lt_zero _)
    | succ d ih =>
      intro k hk hd0
      refine hiload_n X dX6_clearUnbuilt_4 rfl ?_
      refine haload_n X dX6_clearUnbuilt_5 rfl ?_
      refine hget1 X (T := TX6) (N := 11) iX6 0 rfl rfl 0 (by decide) (by decide +kernel) rfl dX6_clearUnbuilt_6 ?_
      refine hicmp_ge (tgt := 54) X dX6_clearUnbuilt_9 (by decide) (fun c1 => ?_) (fun c1 => ?_)
      · have ek := i_ge hk (by omega) c1
        refine hiload_n X dX6_clearUnbuilt_54 rfl ?_
        refine hiret X dX6_clearUnbuilt_55 ⟨congrArg (fun z => some (Value.int z)) (?_ : ((itN k clS (F, 0)).2) = (itN n clS (F, 0)).2), ?_⟩
        · simp [ek]
        refine congrArg (stW G h n) (?_ : ((itN k clS (F, 0)).1 : hF) = (itN n clS (F, 0)).1)
        simp [ek]
      · have hk1 := i_lt hk (by omega) c1
        refine haload_n X dX6_clearUnbuilt_12 rfl ?_
        refine hget1 X (T := TX6) (N := 11) iX6 0 rfl rfl 5 (by decide) (by decide +kernel) rfl dX6_clearUnbuilt_13 ?_
        refine hiload_n X dX6_clearUnbuilt_16 rfl ?_
        refine hiald (n := 20) (f := ((itN k clS (F, 0)).1) 4) X 5 rfl k rfl (by omega) (by decide) dX6_clearUnbuilt_17 ?_
        refine hiconst (v := 4) X dX6_clearUnbuilt_18 rfl ?_
        refine hicmp_ge (tgt := 48) X dX6_clearUnbuilt_19 (by decide) (fun c2 => ?_) (fun c2 => ?_)
        · refine hiinc (v := nI (k + 1)) (lv' := [(2, .int (nI (k + 1))), (1, .int ((itN k clS (F, 0)).2)), (0, .ref (h 3))]) X dX6_clearUnbuilt_48 rfl (nI_1 _) (by decide) rfl ?_
          refine hgoto (tgt := 4) X dX6_clearUnbuilt_51 (by decide) ?_
          have e3 : ((itN k clS (F, 0)).2 : Int32) = (itN (k + 1) clS (F, 0)).2 := by
            simp [itN, clS, c1, c2]
          have w4 : ((itN k clS (F, 0)).1 : hF) = (itN (k + 1) clS (F, 0)).1 := by
            simp [itN, clS, c1, c2]
          exact hV_to (ws' := stW G h n ((itN (k + 1) clS (F, 0)).1)) (lv' := [(2, .int (nI (k + 1))), (1, .int ((itN (k + 1) clS (F, 0)).2)), (0, .ref (h 3))]) (st' := []) (congrArg (stW G h n) w4) (congrArg (fun z => ([(2, .int (nI (k + 1))), (1, .int z), (0, .ref (h 3))] : List (Nat × Value))) e3) rfl (ih (k + 1) (by omega) (by omega))
        · refine haload_n X dX6_clearUnbuilt_22 rfl ?_
          refine hget1 X (T := TX6) (N := 11) iX6 0 rfl rfl 5 (by decide) (by decide +kernel) rfl dX6_clearUnbuilt_23 ?_
          refine hiload_n X dX6_clearUnbuilt_26 rfl ?_
          refine hbipush (v := 6) X dX6_clearUnbuilt_27 rfl ?_
          refine hiast (n := 20) (f := ((itN k clS (F, 0)).1) 4) X 5 rfl k rfl (by omega) (by decide) dX6_clearUnbuilt_29 (ws' := stW G h n (fs ((itN k clS (F, 0)).1) 4 k 6)) (stWs4 G h _ _ _ _) ?_
          refine haload_n X dX6_clearUnbuilt_30 rfl ?_
          refine hget1 X (T := TX6) (N := 11) iX6 0 rfl rfl 6 (by decide) (by decide +kernel) rfl dX6_clearUnbuilt_31 ?_
          refine hiload_n X dX6_clearUnbuilt_34 rfl ?_
          refine hiconst (v := 0) X dX6_clearUnbuilt_35 rfl ?_
          refine hiast (n := 20) (f := (fs ((itN k clS (F, 0)).1) 4 k 6) 5) X 6 rfl k rfl (by omega) (by decide) dX6_clearUnbuilt_36 (ws' := stW G h n (fs (fs ((itN k clS (F, 0)).1) 4 k 6) 5 k 0)) (stWs5 G h _ _ _ _) ?_
          refine haload_n X dX6_clearUnbuilt_37 rfl ?_
          refine hget1 X (T := TX6) (N := 11) iX6 0 rfl rfl 8 (by decide) (by decide +kernel) rfl dX6_clearUnbuilt_38 ?_
          refine hiload_n X dX6_clearUnbuilt_41 rfl ?_
          refine hbipush (v := (-6)) X dX6_clearUnbuilt_42 rfl ?_
          refine hiast (n := 20) (f := (fs (fs ((itN k clS (F, 0)).1) 4 k 6) 5 k 0) 7) X 8 rfl k rfl (by omega) (by decide) dX6_clearUnbuilt_44 (ws' := stW G h n (fs (fs (fs ((itN k clS (F, 0)).1) 4 k 6) 5 k 0) 7 k (-6))) (stWs7 G h _ _ _ _) ?_
          refine hiinc (v := (itN k clS (F, 0)).2 + 1) (lv' := [(1, .int ((itN k clS (F, 0)).2 + 1)), (2, .int (nI k)), (0, .ref (h 3))]) X dX6_clearUnbuilt_45 rfl rfl (by decide) rfl ?_
          refine hiinc (v := nI (k + 1)) (lv' := [(2, .int (nI (k + 1))), (1, .int ((itN k clS (F, 0)).2 + 1)), (0, .ref (h 3))]) X dX6_clearUnbuilt_48 rfl (nI_1 _) (by decide) rfl ?_
          refine hgoto (tgt := 4) X dX6_clearUnbuilt_51 (by decide) ?_
          have e5 : ((itN k clS (F, 0)).2 + 1 : Int32) = (itN (k + 1) clS (F, 0)).2 := by
            simp [itN, clS, c1, c2]
          have w6 : (fs (fs (fs ((itN k clS (F, 0)).1) 4 k 6) 5 k 0) 7 k (-6) : hF) = (itN (k + 1) clS (F, 0)).1 := by
            simp [itN, clS, c1, c2]
          exact hV_to (ws' := stW G h n ((itN (k + 1) clS (F, 0)).1)) (lv' := [(2, .int (nI (k + 1))), (1, .int ((itN (k + 1) clS (F, 0)).2)), (0, .ref (h 3))]) (st' := []) (congrArg (stW G h n) w6) (congrArg (fun z => ([(2, .int (nI (k + 1))), (1, .int z), (0, .ref (h 3))] : List (Nat × Value))) e5) rfl (ih (k + 1) (by omega) (by omega))
  refine hiconst (v := 0) X dX6_clearUnbuilt_0 rfl ?_
  refine histore_n (lv' := [(1, .int 0), (0, .ref (h 3))]) X dX6_clearUnbuilt_1 (by decide) rfl ?_
  refine hiconst (v := 0) X dX6_clearUnbuilt_2 rfl ?_
  refine histore_n (lv' := [(2, .int 0), (1, .int 0), (0, .ref (h 3))]) X dX6_clearUnbuilt_3 (by decide) rfl ?_
  have e7 : (0 : Int32) = (itN 0 clS (F, 0)).2 := by
    rfl
  have w8 : (F : hF) = (itN 0 clS (F, 0)).1 := by
    rfl
  exact hV_to (ws' := stW G h n ((itN 0 clS (F, 0)).1)) (lv' := [(2, .int 0), (1, .int ((itN 0 clS (F, 0)).2)), (0, .ref (h 3))]) (st' := []) (congrArg (stW G h n) w8) (congrArg (fun z => ([(2, .int 0), (1, .int z), (0, .ref (h 3))] : List (Nat × Value))) e7) rfl (L _ 0 (by omega) (Nat.lt_succ_self _))

set_option maxHeartbeats 4000000 in
set_option maxRecDepth 100000 in
theorem kX6_tell (l : Launch) (G : hG) (h : Nat → Nat) (F : hF) (n : Nat) (x y : Int32) (hn : n ≤ 20) : hM l G yX6_tell wsX6_tell ({ frames := 2, cells := 0, slots := 0, locals := 63 }) (stW G h n F) [.ref (h 3), .int x, .int y] (hR (some (.int (telS n F x y))) (stW G h n F)) := by
  refine hM_of (cc := cX6_tell) (maxL := 3) (ret := (some .int)) (by decide) rfl (Nat.le_of_ble_eq_true rfl) ?_
  intro pp ee ss mm aa bb me cd X hin
  have iX6 : ∀ w ∈ wsX60, w ∈ wsX6_tell := by decide +kernel
  refine haload_n X dX6_tell_0 rfl ?_
  refine hiload_n X dX6_tell_1 rfl ?_
  refine hcallV0 (C := RX6) (T := TX6) (N := 11) (As := [.int x]) (rest := []) (st' := [.int (bI (hhas n x))]) (w := stW G h n F) X (q0 := 0) (kX6_has l G h F n x) gX6_tell_X6_has rfl (n := 1) (by decide +kernel) (by decide) rfl rfl rfl rfl (Nat.le_of_ble_eq_true rfl) dX6_tell_2 rfl rfl (by decide) rfl ?_
  refine hif_neB (tgt := 10) X dX6_tell_5 (by decide) (fun c1 => ?_) (fun c1 => ?_)
  · obtain ⟨j, hj, hx⟩ := has_in (by omega) c1
    refine hiload_n X dX6_tell_10 rfl ?_
    rcases sw_cases y 9 (by decide) with sx2 | ⟨kk2, hk2, sx2⟩
    · refine htableOut (tgt := 133) X dX6_tell_11 sx2 (by decide) ?_
      have sx2_0 : ¬ (y : Int32) = 0 := fun e9 => by rw [e9] at sx2; exact absurd sx2 (by decide)
      have sx2_1 : ¬ (y : Int32) = 1 := fun e9 => by rw [e9] at sx2; exact absurd sx2 (by decide)
      have sx2_2 : ¬ (y : Int32) = 2 := fun e9 => by rw [e9] at sx2; exact absurd sx2 (by decide)
      have sx2_3 : ¬ (y : Int32) = 3 := fun e9 => by rw [e9] at sx2; exact absurd sx2 (by decide)
      have sx2_4 : ¬ (y : Int32) = 4 := fun e9 => by rw [e9] at sx2; exact absurd sx2 (by decide)
      have sx2_5 : ¬ (y : Int32) = 5 := fun e9 => by rw [e9] at sx2; exact absurd sx2 (by decide)
      have sx2_6 : ¬ (y : Int32) = 6 := fun e9 => by rw [e9] at sx2; exact absurd sx2 (by decide)
      have sx2_7 : ¬ (y : Int32) = 7 := fun e9 => by rw [e9] at sx2; exact absurd sx2 (by decide)
      have sx2_8 : ¬ (y : Int32) = 8 := fun e9 => by rw [e9] at sx2; exact absurd sx2 (by decide)
      have sx2_9 : ¬ (y : Int32) = 9 := fun e9 => by rw [e9] at sx2; exact absurd sx2 (by decide)
      refine hbipush (v := (-2)) X dX6_tell_133 rfl ?_
      refine hiret X dX6_tell_135 ⟨congrArg (fun z => some (Value.int z)) (?_ : (-2) = telS n F x y), ?_⟩
      · subst hx
        unfold telS
        rw [if_pos c1]
        simp [nI_clamp (show j < 2 ^ 31 by omega), c1, sx2_0, sx2_1, sx2_2, sx2_3, sx2_4, sx2_5, sx2_6, sx2_7, sx2_8, sx2_9]
      rfl
    · rcases (show kk2 = 0 ∨ kk2 = 1 ∨ kk2 = 2 ∨ kk2 = 3 ∨ kk2 = 4 ∨ kk2 = 5 ∨ kk2 = 6 ∨ kk2 = 7 ∨ kk2 = 8 ∨ kk2 = 9 by omega) with rfl | rfl | rfl | rfl | rfl | rfl | rfl | rfl | rfl | rfl
      · refine htableIn (off := 53) (tgt := 64) X dX6_tell_11 (by rw [sx2]; decide) (by rw [sx2]; decide) (by rw [sx2]; decide) (by decide) ?_
        have sx2 : (y : Int32) = 0 := sx2
        refine hV_to (lv' := [(0, .ref (h 3)), (1, .int x), (2, .int 0)]) rfl (congrArg (fun z => ([(0, .ref (h 3)), (1, .int x), (2, .int z)] : List (Nat × Value))) sx2) rfl ?_
        refine haload_n X dX6_tell_64 rfl ?_
        refine hget1 X (T := TX6) (N := 11) iX6 0 rfl rfl 1 (by decide) (by decide +kernel) rfl dX6_tell_65 ?_
        refine hiload_n X dX6_tell_68 rfl ?_
        refine hV_st (st' := [.int (nI j), .ref (h 4)]) (congrArg (fun z => ([Value.int z, .ref (h 4)] : List Value)) (hx)) ?_
        refine hiald (n := 20) (f := F 0) X 1 rfl j rfl (by omega) (by decide) dX6_tell_69 ?_
        refine hiret X dX6_tell_70 ⟨congrArg (fun z => some (Value.int z)) (?_ : (F 0 j) = telS n F x y), ?_⟩
        · subst hx
          unfold telS
          rw [if_pos c1]
          simp [nI_clamp (show j < 2 ^ 31 by omega), c1, sx2]
        rfl
      · refine htableIn (off := 60) (tgt := 71) X dX6_tell_11 (by rw [sx2]; decide) (by rw [sx2]; decide) (by rw [sx2]; decide) (by decide) ?_
        have sx2 : (y : Int32) = 1 := sx2
        refine hV_to (lv' := [(0, .ref (h 3)), (1, .int x), (2, .int 1)]) rfl (congrArg (fun z => ([(0, .ref (h 3)), (1, .int x), (2, .int z)] : List (Nat × Value))) sx2) rfl ?_
        refine haload_n X dX6_tell_71 rfl ?_
        refine hget1 X (T := TX6) (N := 11) iX6 0 rfl rfl 2 (by decide) (by decide +kernel) rfl dX6_tell_72 ?_
        refine hiload_n X dX6_tell_75 rfl ?_
        refine hV_st (st' := [.int (nI j), .ref (h 5)]) (congrArg (fun z => ([Value.int z, .ref (h 5)] : List Value)) (hx)) ?_
        refine hiald (n := 20) (f := F 1) X 2 rfl j rfl (by omega) (by decide) dX6_tell_76 ?_
        refine hiret X dX6_tell_77 ⟨congrArg (fun z => some (Value.int z)) (?_ : (F 1 j) = telS n F x y), ?_⟩
        · subst hx
          unfold telS
          rw [if_pos c1]
          simp [nI_clamp (show j < 2 ^ 31 by omega), c1, sx2]
        rfl
      · refine htableIn (off := 67) (tgt := 78) X dX6_tell_11 (by rw [sx2]; decide) (by rw [sx2]; decide) (by rw [sx2]; decide) (by decide) ?_
        have sx2 : (y : Int32) = 2 := sx2
        refine hV_to (lv' := [(0, .ref (h 3)), (1, .int x), (2, .int 2)]) rfl (congrArg (fun z => ([(0, .ref (h 3)), (1, .int x), (2, .int z)] : List (Nat × Value))) sx2) rfl ?_
        refine haload_n X dX6_tell_78 rfl ?_
        refine hget1 X (T := TX6) (N := 11) iX6 0 rfl rfl 3 (by decide) (by decide +kernel) rfl dX6_tell_79 ?_
        refine hiload_n X dX6_tell_82 rfl ?_
        refine hV_st (st' := [.int (nI j), .ref (h 6)]) (congrArg (fun z => ([Value.int z, .ref (h 6)] : List Value)) (hx)) ?_
        refine hiald (n := 20) (f := F 2) X 3 rfl j rfl (by omega) (by decide) dX6_tell_83 ?_
        refine hiret X dX6_tell_84 ⟨congrArg (fun z => some (Value.int z)) (?_ : (F 2 j) = telS n F x y), ?_⟩
        · subst hx
          unfold telS
          rw [if_pos c1]
          simp [nI_clamp (show j < 2 ^ 31 by omega), c1, sx2]
        rfl
      · refine htableIn (off := 74) (tgt := 85) X dX6_tell_11 (by rw [sx2]; decide) (by rw [sx2]; decide) (by rw [sx2]; decide) (by decide) ?_
        have sx2 : (y : Int32) = 3 := sx2
        refine hV_to (lv' := [(0, .ref (h 3)), (1, .int x), (2, .int 3)]) rfl (congrArg (fun z => ([(0, .ref (h 3)), (1, .int x), (2, .int z)] : List (Nat × Value))) sx2) rfl ?_
        refine haload_n X dX6_tell_85 rfl ?_
        refine hget1 X (T := TX6) (N := 11) iX6 0 rfl rfl 4 (by decide) (by decide +kernel) rfl dX6_tell_86 ?_
        refine hiload_n X dX6_tell_89 rfl ?_
        refine hV_st (st' := [.int (nI j), .ref (h 7)]) (congrArg (fun z => ([Value.int z, .ref (h 7)] : List Value)) (hx)) ?_
        refine hiald (n := 20) (f := F 3) X 4 rfl j rfl (by omega) (by decide) dX6_tell_90 ?_
        refine hiret X dX6_tell_91 ⟨congrArg (fun z => some (Value.int z)) (?_ : (F 3 j) = telS n F x y), ?_⟩
        · subst hx
          unfold telS
          rw [if_pos c1]
          simp [nI_clamp (show j < 2 ^ 31 by omega), c1, sx2]
        rfl
      · refine htableIn (off := 81) (tgt := 92) X dX6_tell_11 (by rw [sx2]; decide) (by rw [sx2]; decide) (by rw [sx2]; decide) (by decide) ?_
        have sx2 : (y : Int32) = 4 := sx2
        refine hV_to (lv' := [(0, .ref (h 3)), (1, .int x), (2, .int 4)]) rfl (congrArg (fun z => ([(0, .ref (h 3)), (1, .int x), (2, .int z)] : List (Nat × Value))) sx2) rfl ?_
        refine haload_n X dX6_tell_92 rfl ?_
        refine hget1 X (T := TX6) (N := 11) iX6 0 rfl rfl 5 (by decide) (by decide +kernel) rfl dX6_tell_93 ?_
        refine hiload_n X dX6_tell_96 rfl ?_
        refine hV_st (st' := [.int (nI j), .ref (h 8)]) (congrArg (fun z => ([Value.int z, .ref (h 8)] : List Value)) (hx)) ?_
        refine hiald (n := 20) (f := F 4) X 5 rfl j rfl (by omega) (by decide) dX6_tell_97 ?_
        refine hiret X dX6_tell_98 ⟨congrArg (fun z => some (Value.int z)) (?_ : (F 4 j) = telS n F x y), ?_⟩
        · subst hx
          unfold telS
          rw [if_pos c1]
          simp [nI_clamp (show j < 2 ^ 31 by omega), c1, sx2]
        rfl
      · refine htableIn (off := 88) (tgt := 99) X dX6_tell_11 (by rw [sx2]; decide) (by rw [sx2]; decide) (by rw [sx2]; decide) (by decide) ?_
        have sx2 : (y : Int32) = 5 := sx2
        refine hV_to (lv' := [(0, .ref (h 3)), (1, .int x), (2, .int 5)]) rfl (congrArg (fun z => ([(0, .ref (h 3)), (1, .int x), (2, .int z)] : List (Nat × Value))) sx2) rfl ?_
        refine haload_n X dX6_tell_99 rfl ?_
        refine hget1 X (T := TX6) (N := 11) iX6 0 rfl rfl 6 (by decide) (by decide +kernel) rfl dX6_tell_100 ?_
        refine hiload_n X dX6_tell_103 rfl ?_
        refine hV_st (st' := [.int (nI j), .ref (h 9)]) (congrArg (fun z => ([Value.int z, .ref (h 9)] : List Value)) (hx)) ?_
        refine hiald (n := 20) (f := F 5) X 6 rfl j rfl (by omega) (by decide) dX6_tell_104 ?_
        refine hiret X dX6_tell_105 ⟨congrArg (fun z => some (Value.int z)) (?_ : (F 5 j) = telS n F x y), ?_⟩
        · subst hx
          unfold telS
          rw [if_pos c1]
          simp [nI_clamp (show j < 2 ^ 31 by omega), c1, sx2]
        rfl
      · refine htableIn (off := 95) (tgt := 106) X dX6_tell_11 (by rw [sx2]; decide) (by rw [sx2]; decide) (by rw [sx2]; decide) (by decide) ?_
        have sx2 : (y : Int32) = 6 := sx2
        refine hV_to (lv' := [(0, .ref (h 3)), (1, .int x), (2, .int 6)]) rfl (congrArg (fun z => ([(0, .ref (h 3)), (1, .int x), (2, .int z)] : List (Nat × Value))) sx2) rfl ?_
        refine haload_n X dX6_tell_106 rfl ?_
        refine hget1 X (T := TX6) (N := 11) iX6 0 rfl rfl 7 (by decide) (by decide +kernel) rfl dX6_tell_107 ?_
        refine hiload_n X dX6_tell_110 rfl ?_
        refine hV_st (st' := [.int (nI j), .ref (h 10)]) (congrArg (fun z => ([Value.int z, .ref (h 10)] : List Value)) (hx)) ?_
        refine hiald (n := 20) (f := F 6) X 7 rfl j rfl (by omega) (by decide) dX6_tell_111 ?_
        refine hiret X dX6_tell_112 ⟨congrArg (fun z => some (Value.int z)) (?_ : (F 6 j) = telS n F x y), ?_⟩
        · subst hx
          unfold telS
          rw [if_pos c1]
          simp [nI_clamp (show j < 2 ^ 31 by omega), c1, sx2]
        rfl
      · refine htableIn (off := 102) (tgt := 113) X dX6_tell_11 (by rw [sx2]; decide) (by rw [sx2]; decide) (by rw [sx2]; decide) (by decide) ?_
        have sx2 : (y : Int32) = 7 := sx2
        refine hV_to (lv' := [(0, .ref (h 3)), (1, .int x), (2, .int 7)]) rfl (congrArg (fun z => ([(0, .ref (h 3)), (1, .int x), (2, .int z)] : List (Nat × Value))) sx2) rfl ?_
        refine haload_n X dX6_tell_113 rfl ?_
        refine hget1 X (T := TX6) (N := 11) iX6 0 rfl rfl 8 (by decide) (by decide +kernel) rfl dX6_tell_114 ?_
        refine hiload_n X dX6_tell_117 rfl ?_
        refine hV_st (st' := [.int (nI j), .ref (h 11)]) (congrArg (fun z => ([Value.int z, .ref (h 11)] : List Value)) (hx)) ?_
        refine hiald (n := 20) (f := F 7) X 8 rfl j rfl (by omega) (by decide) dX6_tell_118 ?_
        refine hiret X dX6_tell_119 ⟨congrArg (fun z => some (Value.int z)) (?_ : (F 7 j) = telS n F x y), ?_⟩
        · subst hx
          unfold telS
          rw [if_pos c1]
          simp [nI_clamp (show j < 2 ^ 31 by omega), c1, sx2]
        rfl
      · refine htableIn (off := 109) (tgt := 120) X dX6_tell_11 (by rw [sx2]; decide) (by rw [sx2]; decide) (by rw [sx2]; decide) (by decide) ?_
        have sx2 : (y : Int32) = 8 := sx2
        refine hV_to (lv' := [(0, .ref (h 3)), (1, .int x), (2, .int 8)]) rfl (congrArg (fun z => ([(0, .ref (h 3)), (1, .int x), (2, .int z)] : List (Nat × Value))) sx2) rfl ?_
        refine haload_n X dX6_tell_120 rfl ?_
        refine hiload_n X dX6_tell_121 rfl ?_
        refine hcallV0 (C := RX6) (T := TX6) (N := 11) (As := [.int x]) (rest := []) (st' := [.int (hsto n F x)]) (w := stW G h n F) X (q0 := 0) (kX6_standingOn l G h F n x (by first | assumption | omega | simp [fs_at, *])) gX6_tell_X6_standingOn rfl (n := 1) (by decide +kernel) (by decide) rfl rfl rfl rfl (Nat.le_of_ble_eq_true rfl) dX6_tell_122 rfl rfl (by decide) rfl ?_
        refine hiret X dX6_tell_125 ⟨congrArg (fun z => some (Value.int z)) (?_ : (hsto n F x) = telS n F x y), ?_⟩
        · subst hx
          unfold telS
          rw [if_pos c1]
          simp [nI_clamp (show j < 2 ^ 31 by omega), c1, sx2]
        rfl
      · refine htableIn (off := 115) (tgt := 126) X dX6_tell_11 (by rw [sx2]; decide) (by rw [sx2]; decide) (by rw [sx2]; decide) (by decide) ?_
        have sx2 : (y : Int32) = 9 := sx2
        refine hV_to (lv' := [(0, .ref (h 3)), (1, .int x), (2, .int 9)]) rfl (congrArg (fun z => ([(0, .ref (h 3)), (1, .int x), (2, .int z)] : List (Nat × Value))) sx2) rfl ?_
        refine haload_n X dX6_tell_126 rfl ?_
        refine hget1 X (T := TX6) (N := 11) iX6 0 rfl rfl 9 (by decide) (by decide +kernel) rfl dX6_tell_127 ?_
        refine hiload_n X dX6_tell_130 rfl ?_
        refine hV_st (st' := [.int (nI j), .ref (h 12)]) (congrArg (fun z => ([Value.int z, .ref (h 12)] : List Value)) (hx)) ?_
        refine hiald (n := 20) (f := F 8) X 9 rfl j rfl (by omega) (by decide) dX6_tell_131 ?_
        refine hiret X dX6_tell_132 ⟨congrArg (fun z => some (Value.int z)) (?_ : (F 8 j) = telS n F x y), ?_⟩
        · subst hx
          unfold telS
          rw [if_pos c1]
          simp [nI_clamp (show j < 2 ^ 31 by omega), c1, sx2]
        rfl
  · refine hiconst (v := (-1)) X dX6_tell_8 rfl ?_
    refine hiret X dX6_tell_9 ⟨congrArg (fun z => some (Value.int z)) (?_ : (-1) = telS n F x y), ?_⟩
    · simp only [telS, if_neg c1]
    rfl

set_option maxHeartbeats 4000000 in
set_option maxRecDepth 100000 in
theorem kX0_costs (l : Launch) (G : hG) (h : Nat → Nat) (F : hF) (c : Nat) (hc : c ≤ 6) : hM l G yX0_costs wsX0_costs ({ frames := 1, cells := 0, slots := 0, locals := 40 }) (crW G h c F) [.ref (h 14)] (hR (some (.int (hcos c F))) (crW G h c F)) := by
  refine hM_of (cc := cX0_costs) (maxL := 3) (ret := (some .int)) (by decide) rfl (Nat.le_of_ble_eq_true rfl) ?_
  intro pp ee ss mm aa bb me cd X hin
  have iX0 : ∀ w ∈ wsX00, w ∈ wsX0_costs := by decide +kernel
  have L : ∀ (d : Nat) (k : Nat), (k ≤ c) → (c - k) < d → hV pp l ee ({ frames := 1, cells := 0, slots := 0, locals := 40 }) ss mm aa bb me cd G (va_A (crW G h c F) ss.heap.size) 3 0 0 (MQ bb (hQc G (crW G h c F) ss.heap.size (hR (some (.int (hcos c F))) (crW G h c F))) aa ss 0 0 (va_A (crW G h c F) ss.heap.size)) (crW G h c F) 4 [(2, .int (nI k)), (1, .int (sumN k (fun k => F 13 k * F 11 k))), (0, .ref (h 14))] [] := by
    intro d
    induction d with
    | zero =>
      intro k hk hd0
      exact absurd hd0 (Nat.not_lt_zero _)
    | succ d ih =>
      intro k hk hd0
      refine hiload_n X dX0_costs_4 rfl ?_
      refine haload_n X dX0_costs_5 rfl ?_
      refine hget1 X (T := TX0) (N := 7) iX0 0 rfl rfl 0 (by decide) (by decide +kernel) rfl dX0_costs_6 ?_
      refine hicmp_ge (tgt := 34) X dX0_costs_9 (by decide) (fun c1 => ?_) (fun c1 => ?_)
      · have ek := i_ge hk (by omega) c1
        refine hiload_n X dX0_costs_34 rfl ?_
        refine hiret X dX0_costs_35 ⟨congrArg (fun z => some (Value.int z)) (?_ : (sumN k (fun k => F 13 k * F 11 k)) = hcos c F), ?_⟩
        · simp [hcos, ek]
        rfl
      · have hk1 := i_lt hk (by omega) c1
        refine hiload_n X dX0_costs_12 rfl ?_
        refine haload_n X dX0_costs_13 rfl ?_
        refine hget1 X (T := TX0) (N := 7) iX0 0 rfl rfl 4 (by decide) (by decide +kernel) rfl dX0_costs_14 ?_
        refine hiload_n X dX0_costs_17 rfl ?_
        refine hiald (n := 6) (f := F 13) X 4 rfl k rfl (by omega) (by decide) dX0_costs_18 ?_
        refine haload_n X dX0_costs_19 rfl ?_
        refine hget1 X (T := TX0) (N := 7) iX0 0 rfl rfl 2 (by decide) (by decide +kernel) rfl dX0_costs_20 ?_
        refine hiload_n X dX0_costs_23 rfl ?_
        refine hiald (n := 6) (f := F 11) X 2 rfl k rfl (by omega) (by decide) dX0_costs_24 ?_
        refine himul X dX0_costs_25 ?_
        refine hiadd X dX0_costs_26 ?_
        refine histore_n (lv' := [(1, .int ((sumN k (fun k => F 13 k * F 11 k)) + ((F 13 k) * (F 11 k)))), (2, .int (nI k)), (0, .ref (h 14))]) X dX0_costs_27 (by decide) rfl ?_
        refine hiinc (v := nI (k + 1)) (lv' := [(2, .int (nI (k + 1))), (1, .int ((sumN k (fun k => F 13 k * F 11 k)) + ((F 13 k) * (F 11 k)))), (0, .ref (h 14))]) X dX0_costs_28 rfl (nI_1 _) (by decide) rfl ?_
        refine hgoto (tgt := 4) X dX0_costs_31 (by decide) ?_
        have e2 : ((sumN k (fun k => F 13 k * F 11 k)) + ((F 13 k) * (F 11 k)) : Int32) = sumN (k + 1) (fun k => F 13 k * F 11 k) := by
          simp [sumN, c1]
        exact hV_to (ws' := crW G h c F) (lv' := [(2, .int (nI (k + 1))), (1, .int (sumN (k + 1) (fun k => F 13 k * F 11 k))), (0, .ref (h 14))]) (st' := []) rfl (congrArg (fun z => ([(2, .int (nI (k + 1))), (1, .int z), (0, .ref (h 14))] : List (Nat × Value))) e2) rfl (ih (k + 1) (by omega) (by omega))
  refine hiconst (v := 0) X dX0_costs_0 rfl ?_
  refine histore_n (lv' := [(1, .int 0), (0, .ref (h 14))]) X dX0_costs_1 (by decide) rfl ?_
  refine hiconst (v := 0) X dX0_costs_2 rfl ?_
  refine histore_n (lv' := [(2, .int 0), (1, .int 0), (0, .ref (h 14))]) X dX0_costs_3 (by decide) rfl ?_
  have e3 : (0 : Int32) = sumN 0 (fun k => F 13 k * F 11 k) := by
    rfl
  exact hV_to (ws' := crW G h c F) (lv' := [(2, .int 0), (1, .int (sumN 0 (fun k => F 13 k * F 11 k))), (0, .ref (h 14))]) (st' := []) rfl (congrArg (fun z => ([(2, .int 0), (1, .int z), (0, .ref (h 14))] : List (Nat × Value))) e3) rfl (L _ 0 (by omega) (Nat.lt_succ_self _))

set_option maxHeartbeats 4000000 in
set_option maxRecDepth 100000 in
theorem kX0_letAllGo (l : Launch) (G : hG) (h : Nat → Nat) (F : hF) (c : Nat) (hc : c ≤ 6) : hM l G yX0_letAllGo wsX0_letAllGo ({ frames := 1, cells := 0, slots := 0, locals := 40 }) (crW G h c F) [.ref (h 14)] (hR none (crW G h c (itN c laS F))) := by
  refine hM_of (cc := cX0_letAllGo) (maxL := 2) (ret := none) (by decide) rfl (Nat.le_of_ble_eq_true rfl) ?_
  intro pp ee ss mm aa bb me cd X hin
  have iX0 : ∀ w ∈ wsX00, w ∈ wsX0_letAllGo := by decide +kernel
  have L : ∀ (d : Nat) (k : Nat), (k ≤ c) → (c - k) < d → hV pp l ee ({ frames := 1, cells := 0, slots := 0, locals := 40 }) ss mm aa bb me cd G (va_A (crW G h c F) ss.heap.size) 2 0 0 (MQ bb (hQc G (crW G h c F) ss.heap.size (hR none (crW G h c (itN c laS F)))) aa ss 0 0 (va_A (crW G h c F) ss.heap.size)) (crW G h c (itN k laS F)) 2 [(1, .int (nI k)), (0, .ref (h 14))] [] := by
    intro d
    induction d with
    | zero =>
      intro k hk hd0
      exact absurd hd0 (Nat.not_lt_zero _)
    | succ d ih =>
      intro k hk hd0
      refine hiload_n X dX0_letAllGo_2 rfl ?_
      refine haload_n X dX0_letAllGo_3 rfl ?_
      refine hget1 X (T := TX0) (N := 7) iX0 0 rfl rfl 0 (by decide) (by decide +kernel) rfl dX0_letAllGo_4 ?_
      refine hicmp_ge (tgt := 24) X dX0_letAllGo_7 (by decide) (fun c1 => ?_) (fun c1 => ?_)
      · have ek := i_ge hk (by omega) c1
        refine hvret X dX0_letAllGo_24 ⟨rfl, ?_⟩
        refine congrArg (crW G h c) (?_ : (itN k laS F : hF) = itN c laS F)
        simp [ek]
      · have hk1 := i_lt hk (by omega) c1
        refine haload_n X dX0_letAllGo_10 rfl ?_
        refine hget1 X (T := TX0) (N := 7) iX0 0 rfl rfl 3 (by decide) (by decide +kernel) rfl dX0_letAllGo_11 ?_
        refine hiload_n X dX0_letAllGo_14 rfl ?_
        refine hbipush (v := (-6)) X dX0_letAllGo_15 rfl ?_
        refine hiast (n := 6) (f := (itN k laS F) 12) X 3 rfl k rfl (by omega) (by decide) dX0_letAllGo_17 (ws' := crW G h c (fs (itN k laS F) 12 k (-6))) (crWs12 G h _ _ _ _) ?_
        refine hiinc (v := nI (k + 1)) (lv' := [(1, .int (nI (k + 1))), (0, .ref (h 14))]) X dX0_letAllGo_18 rfl (nI_1 _) (by decide) rfl ?_
        refine hgoto (tgt := 2) X dX0_letAllGo_21 (by decide) ?_
        have w2 : (fs (itN k laS F) 12 k (-6) : hF) = itN (k + 1) laS F := by
          simp [itN, laS]
        exact hV_to (ws' := crW G h c (itN (k + 1) laS F)) (lv' := [(1, .int (nI (k + 1))), (0, .ref (h 14))]) (st' := []) (congrArg (crW G h c) w2) rfl rfl (ih (k + 1) (by omega) (by omega))
  refine hiconst (v := 0) X dX0_letAllGo_0 rfl ?_
  refine histore_n (lv' := [(1, .int 0), (0, .ref (h 14))]) X dX0_letAllGo_1 (by decide) rfl ?_
  have w3 : (F : hF) = itN 0 laS F := by
    rfl
  exact hV_to (ws' := crW G h c (itN 0 laS F)) (lv' := [(1, .int 0), (0, .ref (h 14))]) (st' := []) (congrArg (crW G h c) w3) rfl rfl (L _ 0 (by omega) (Nat.lt_succ_self _))

set_option maxHeartbeats 4000000 in
set_option maxRecDepth 100000 in
theorem kX0_tell (l : Launch) (G : hG) (h : Nat → Nat) (F : hF) (c : Nat) (x y : Int32) (hc : c ≤ 6) : hM l G yX0_tell wsX0_tell ({ frames := 1, cells := 0, slots := 0, locals := 40 }) (crW G h c F) [.ref (h 14), .int x, .int y] (hR (some (.int (telC c F x y))) (crW G h c F)) := by
  refine hM_of (cc := cX0_tell) (maxL := 3) (ret := (some .int)) (by decide) rfl (Nat.le_of_ble_eq_true rfl) ?_
  intro pp ee ss mm aa bb me cd X hin
  have iX0 : ∀ w ∈ wsX00, w ∈ wsX0_tell := by decide +kernel
  refine hiload_n X dX0_tell_0 rfl ?_
  refine hif_lt (tgt := 12) X dX0_tell_1 (by decide) (fun c1 => ?_) (fun c1 => ?_)
  · have hh : ¬ hhas c x := fun q => q.1 c1
    refine hiconst (v := (-1)) X dX0_tell_12 rfl ?_
    refine hiret X dX0_tell_13 ⟨congrArg (fun z => some (Value.int z)) (?_ : (-1) = telC c F x y), ?_⟩
    · first | (simp only [telC, if_neg hh]; done) | (subst hx; unfold telC; rw [if_pos hh]; simp [nI_clamp (show j < 2 ^ 31 by omega), c1]; done)
    rfl
  · refine hiload_n X dX0_tell_4 rfl ?_
    refine haload_n X dX0_tell_5 rfl ?_
    refine hget1 X (T := TX0) (N := 7) iX0 0 rfl rfl 0 (by decide) (by decide +kernel) rfl dX0_tell_6 ?_
    refine hicmp_lt (tgt := 14) X dX0_tell_9 (by decide) (fun c2 => ?_) (fun c2 => ?_)
    · have hh : hhas c x := ⟨c1, fun z9 => i_lt_le c2 z9⟩
      obtain ⟨j, hj, hx⟩ := has_in (by omega) hh
      refine hiload_n X dX0_tell_14 rfl ?_
      rcases sw_cases y 6 (by decide) with sx3 | ⟨kk3, hk3, sx3⟩
      · refine htableOut (tgt := 112) X dX0_tell_15 sx3 (by decide) ?_
        have sx3_0 : ¬ (y : Int32) = 0 := fun e9 => by rw [e9] at sx3; exact absurd sx3 (by decide)
        have sx3_1 : ¬ (y : Int32) = 1 := fun e9 => by rw [e9] at sx3; exact absurd sx3 (by decide)
        have sx3_2 : ¬ (y : Int32) = 2 := fun e9 => by rw [e9] at sx3; exact absurd sx3 (by decide)
        have sx3_3 : ¬ (y : Int32) = 3 := fun e9 => by rw [e9] at sx3; exact absurd sx3 (by decide)
        have sx3_4 : ¬ (y : Int32) = 4 := fun e9 => by rw [e9] at sx3; exact absurd sx3 (by decide)
        have sx3_5 : ¬ (y : Int32) = 5 := fun e9 => by rw [e9] at sx3; exact absurd sx3 (by decide)
        have sx3_6 : ¬ (y : Int32) = 6 := fun e9 => by rw [e9] at sx3; exact absurd sx3 (by decide)
        refine hbipush (v := (-2)) X dX0_tell_112 rfl ?_
        refine hiret X dX0_tell_114 ⟨congrArg (fun z => some (Value.int z)) (?_ : (-2) = telC c F x y), ?_⟩
        · first | (simp only [telC, if_neg hh]; done) | (subst hx; unfold telC; rw [if_pos hh]; simp [nI_clamp (show j < 2 ^ 31 by omega), c1, c2, sx3_0, sx3_1, sx3_2, sx3_3, sx3_4, sx3_5, sx3_6]; done)
        rfl
      · rcases (show kk3 = 0 ∨ kk3 = 1 ∨ kk3 = 2 ∨ kk3 = 3 ∨ kk3 = 4 ∨ kk3 = 5 ∨ kk3 = 6 by omega) with rfl | rfl | rfl | rfl | rfl | rfl | rfl
        · refine htableIn (off := 41) (tgt := 56) X dX0_tell_15 (by rw [sx3]; decide) (by rw [sx3]; decide) (by rw [sx3]; decide) (by decide) ?_
          have sx3 : (y : Int32) = 0 := sx3
          refine hV_to (lv' := [(0, .ref (h 14)), (1, .int x), (2, .int 0)]) rfl (congrArg (fun z => ([(0, .ref (h 14)), (1, .int x), (2, .int z)] : List (Nat × Value))) sx3) rfl ?_
          refine haload_n X dX0_tell_56 rfl ?_
          refine hget1 X (T := TX0) (N := 7) iX0 0 rfl rfl 1 (by decide) (by decide +kernel) rfl dX0_tell_57 ?_
          refine hiload_n X dX0_tell_60 rfl ?_
          refine hV_st (st' := [.int (nI j), .ref (h 15)]) (congrArg (fun z => ([Value.int z, .ref (h 15)] : List Value)) (hx)) ?_
          refine hiald (n := 6) (f := F 10) X 1 rfl j rfl (by omega) (by decide) dX0_tell_61 ?_
          refine hiret X dX0_tell_62 ⟨congrArg (fun z => some (Value.int z)) (?_ : (F 10 j) = telC c F x y), ?_⟩
          · first | (simp only [telC, if_neg hh]; done) | (subst hx; unfold telC; rw [if_pos hh]; simp [nI_clamp (show j < 2 ^ 31 by omega), c1, c2, sx3]; done)
          rfl
        · refine htableIn (off := 48) (tgt := 63) X dX0_tell_15 (by rw [sx3]; decide) (by rw [sx3]; decide) (by rw [sx3]; decide) (by decide) ?_
          have sx3 : (y : Int32) = 1 := sx3
          refine hV_to (lv' := [(0, .ref (h 14)), (1, .int x), (2, .int 1)]) rfl (congrArg (fun z => ([(0, .ref (h 14)), (1, .int x), (2, .int z)] : List (Nat × Value))) sx3) rfl ?_
          refine haload_n X dX0_tell_63 rfl ?_
          refine hget1 X (T := TX0) (N := 7) iX0 0 rfl rfl 2 (by decide) (by decide +kernel) rfl dX0_tell_64 ?_
          refine hiload_n X dX0_tell_67 rfl ?_
          refine hV_st (st' := [.int (nI j), .ref (h 16)]) (congrArg (fun z => ([Value.int z, .ref (h 16)] : List Value)) (hx)) ?_
          refine hiald (n := 6) (f := F 11) X 2 rfl j rfl (by omega) (by decide) dX0_tell_68 ?_
          refine hiret X dX0_tell_69 ⟨congrArg (fun z => some (Value.int z)) (?_ : (F 11 j) = telC c F x y), ?_⟩
          · first | (simp only [telC, if_neg hh]; done) | (subst hx; unfold telC; rw [if_pos hh]; simp [nI_clamp (show j < 2 ^ 31 by omega), c1, c2, sx3]; done)
          rfl
        · refine htableIn (off := 55) (tgt := 70) X dX0_tell_15 (by rw [sx3]; decide) (by rw [sx3]; decide) (by rw [sx3]; decide) (by decide) ?_
          have sx3 : (y : Int32) = 2 := sx3
          refine hV_to (lv' := [(0, .ref (h 14)), (1, .int x), (2, .int 2)]) rfl (congrArg (fun z => ([(0, .ref (h 14)), (1, .int x), (2, .int z)] : List (Nat × Value))) sx3) rfl ?_
          refine haload_n X dX0_tell_70 rfl ?_
          refine hget1 X (T := TX0) (N := 7) iX0 0 rfl rfl 3 (by decide) (by decide +kernel) rfl dX0_tell_71 ?_
          refine hiload_n X dX0_tell_74 rfl ?_
          refine hV_st (st' := [.int (nI j), .ref (h 17)]) (congrArg (fun z => ([Value.int z, .ref (h 17)] : List Value)) (hx)) ?_
          refine hiald (n := 6) (f := F 12) X 3 rfl j rfl (by omega) (by decide) dX0_tell_75 ?_
          refine hiret X dX0_tell_76 ⟨congrArg (fun z => some (Value.int z)) (?_ : (F 12 j) = telC c F x y), ?_⟩
          · first | (simp only [telC, if_neg hh]; done) | (subst hx; unfold telC; rw [if_pos hh]; simp [nI_clamp (show j < 2 ^ 31 by omega), c1, c2, sx3]; done)
          rfl
        · refine htableIn (off := 62) (tgt := 77) X dX0_tell_15 (by rw [sx3]; decide) (by rw [sx3]; decide) (by rw [sx3]; decide) (by decide) ?_
          have sx3 : (y : Int32) = 3 := sx3
          refine hV_to (lv' := [(0, .ref (h 14)), (1, .int x), (2, .int 3)]) rfl (congrArg (fun z => ([(0, .ref (h 14)), (1, .int x), (2, .int z)] : List (Nat × Value))) sx3) rfl ?_
          refine haload_n X dX0_tell_77 rfl ?_
          refine hget1 X (T := TX0) (N := 7) iX0 0 rfl rfl 4 (by decide) (by decide +kernel) rfl dX0_tell_78 ?_
          refine hiload_n X dX0_tell_81 rfl ?_
          refine hV_st (st' := [.int (nI j), .ref (h 18)]) (congrArg (fun z => ([Value.int z, .ref (h 18)] : List Value)) (hx)) ?_
          refine hiald (n := 6) (f := F 13) X 4 rfl j rfl (by omega) (by decide) dX0_tell_82 ?_
          refine hiret X dX0_tell_83 ⟨congrArg (fun z => some (Value.int z)) (?_ : (F 13 j) = telC c F x y), ?_⟩
          · first | (simp only [telC, if_neg hh]; done) | (subst hx; unfold telC; rw [if_pos hh]; simp [nI_clamp (show j < 2 ^ 31 by omega), c1, c2, sx3]; done)
          rfl
        · refine htableIn (off := 69) (tgt := 84) X dX0_tell_15 (by rw [sx3]; decide) (by rw [sx3]; decide) (by rw [sx3]; decide) (by decide) ?_
          have sx3 : (y : Int32) = 4 := sx3
          refine hV_to (lv' := [(0, .ref (h 14)), (1, .int x), (2, .int 4)]) rfl (congrArg (fun z => ([(0, .ref (h 14)), (1, .int x), (2, .int z)] : List (Nat × Value))) sx3) rfl ?_
          refine haload_n X dX0_tell_84 rfl ?_
          refine hget1 X (T := TX0) (N := 7) iX0 0 rfl rfl 4 (by decide) (by decide +kernel) rfl dX0_tell_85 ?_
          refine hiload_n X dX0_tell_88 rfl ?_
          refine hV_st (st' := [.int (nI j), .ref (h 18)]) (congrArg (fun z => ([Value.int z, .ref (h 18)] : List Value)) (hx)) ?_
          refine hiald (n := 6) (f := F 13) X 4 rfl j rfl (by omega) (by decide) dX0_tell_89 ?_
          refine haload_n X dX0_tell_90 rfl ?_
          refine hget1 X (T := TX0) (N := 7) iX0 0 rfl rfl 2 (by decide) (by decide +kernel) rfl dX0_tell_91 ?_
          refine hiload_n X dX0_tell_94 rfl ?_
          refine hV_st (st' := [.int (nI j), .ref (h 16), .int (F 13 j)]) (congrArg (fun z => ([Value.int z, .ref (h 16), .int (F 13 j)] : List Value)) (hx)) ?_
          refine hiald (n := 6) (f := F 11) X 2 rfl j rfl (by omega) (by decide) dX0_tell_95 ?_
          refine himul X dX0_tell_96 ?_
          refine hiret X dX0_tell_97 ⟨congrArg (fun z => some (Value.int z)) (?_ : ((F 13 j) * (F 11 j)) = telC c F x y), ?_⟩
          · first | (simp only [telC, if_neg hh]; done) | (subst hx; unfold telC; rw [if_pos hh]; simp [nI_clamp (show j < 2 ^ 31 by omega), c1, c2, sx3]; done)
          rfl
        · refine htableIn (off := 83) (tgt := 98) X dX0_tell_15 (by rw [sx3]; decide) (by rw [sx3]; decide) (by rw [sx3]; decide) (by decide) ?_
          have sx3 : (y : Int32) = 5 := sx3
          refine hV_to (lv' := [(0, .ref (h 14)), (1, .int x), (2, .int 5)]) rfl (congrArg (fun z => ([(0, .ref (h 14)), (1, .int x), (2, .int z)] : List (Nat × Value))) sx3) rfl ?_
          refine haload_n X dX0_tell_98 rfl ?_
          refine hget1 X (T := TX0) (N := 7) iX0 0 rfl rfl 5 (by decide) (by decide +kernel) rfl dX0_tell_99 ?_
          refine hiload_n X dX0_tell_102 rfl ?_
          refine hV_st (st' := [.int (nI j), .ref (h 19)]) (congrArg (fun z => ([Value.int z, .ref (h 19)] : List Value)) (hx)) ?_
          refine hiald (n := 6) (f := F 14) X 5 rfl j rfl (by omega) (by decide) dX0_tell_103 ?_
          refine hiret X dX0_tell_104 ⟨congrArg (fun z => some (Value.int z)) (?_ : (F 14 j) = telC c F x y), ?_⟩
          · first | (simp only [telC, if_neg hh]; done) | (subst hx; unfold telC; rw [if_pos hh]; simp [nI_clamp (show j < 2 ^ 31 by omega), c1, c2, sx3]; done)
          rfl
        · refine htableIn (off := 90) (tgt := 105) X dX0_tell_15 (by rw [sx3]; decide) (by rw [sx3]; decide) (by rw [sx3]; decide) (by decide) ?_
          have sx3 : (y : Int32) = 6 := sx3
          refine hV_to (lv' := [(0, .ref (h 14)), (1, .int x), (2, .int 6)]) rfl (congrArg (fun z => ([(0, .ref (h 14)), (1, .int x), (2, .int z)] : List (Nat × Value))) sx3) rfl ?_
          refine haload_n X dX0_tell_105 rfl ?_
          refine hget1 X (T := TX0) (N := 7) iX0 0 rfl rfl 6 (by decide) (by decide +kernel) rfl dX0_tell_106 ?_
          refine hiload_n X dX0_tell_109 rfl ?_
          refine hV_st (st' := [.int (nI j), .ref (h 20)]) (congrArg (fun z => ([Value.int z, .ref (h 20)] : List Value)) (hx)) ?_
          refine hiald (n := 6) (f := F 15) X 6 rfl j rfl (by omega) (by decide) dX0_tell_110 ?_
          refine hiret X dX0_tell_111 ⟨congrArg (fun z => some (Value.int z)) (?_ : (F 15 j) = telC c F x y), ?_⟩
          · first | (simp only [telC, if_neg hh]; done) | (subst hx; unfold telC; rw [if_pos hh]; simp [nI_clamp (show j < 2 ^ 31 by omega), c1, c2, sx3]; done)
          rfl
    · have hh : ¬ hhas c x := fun q => q.2 (i_nlt c2)
      refine hiconst (v := (-1)) X dX0_tell_12 rfl ?_
      refine hiret X dX0_tell_13 ⟨congrArg (fun z => some (Value.int z)) (?_ : (-1) = telC c F x y), ?_⟩
      · first | (simp only [telC, if_neg hh]; done) | (subst hx; unfold telC; rw [if_pos hh]; simp [nI_clamp (show j < 2 ^ 31 by omega), c1, c2]; done)
      rfl

