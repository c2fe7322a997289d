set_option maxHeartbeats 4000000 in
set_option maxRecDepth 100000 in
theorem kX8_within (l : Launch) (G : hG) (v a b : Int32) : hM l G yX8_within wsX8_within ({ frames := 1, cells := 0, slots := 0, locals := 40 }) ([]) [.int v, .int a, .int b] (hR (some (.int (bI (wI v a b)))) ([])) := by
  refine hM_of (cc := cX8_within) (maxL := 3) (ret := (some .boolean)) (by decide) rfl (Nat.le_of_ble_eq_true rfl) ?_
  intro pp ee ss mm aa bb me cd X hin
  refine hiload_n X dX8_within_0 rfl ?_
  refine hiload_n X dX8_within_1 rfl ?_
  refine hicmp_lt (tgt := 14) X dX8_within_2 (by decide) (fun c1 => ?_) (fun c1 => ?_)
  · refine hiconst (v := 0) X dX8_within_14 rfl ?_
    refine hzret X rfl dX8_within_15 ⟨congrArg (fun z => some (Value.int z)) (?_ : 0 = bI (wI v a b)), ?_⟩
    · simp [bI, wI, *]
    rfl
  · refine hiload_n X dX8_within_5 rfl ?_
    refine hiload_n X dX8_within_6 rfl ?_
    refine hicmp_gt (tgt := 14) X dX8_within_7 (by decide) (fun c2 => ?_) (fun c2 => ?_)
    · refine hiconst (v := 0) X dX8_within_14 rfl ?_
      refine hzret X rfl dX8_within_15 ⟨congrArg (fun z => some (Value.int z)) (?_ : 0 = bI (wI v a b)), ?_⟩
      · simp [bI, wI, *]
      rfl
    · refine hiconst (v := 1) X dX8_within_10 rfl ?_
      refine hgoto (tgt := 15) X dX8_within_11 (by decide) ?_
      refine hzret X rfl dX8_within_15 ⟨congrArg (fun z => some (Value.int z)) (?_ : 1 = bI (wI v a b)), ?_⟩
      · simp [bI, wI, *]
      rfl

set_option maxHeartbeats 4000000 in
set_option maxRecDepth 100000 in
theorem kX8_part (l : Launch) (G : hG) (q : Nat → Nat) (E : hF) (s k : Nat) (hs : s < 20) (hk : k < 10) : hM l G yX8_part wsX8_part ({ frames := 1, cells := 0, slots := 0, locals := 40 }) (mW G q E) [.ref (q 0), .int (nI s), .int (nI k)] (hR (some (.int (E 0 (8 + 10 * s + k)))) (mW G q E)) := by
  refine hM_of (cc := cX8_part) (maxL := 3) (ret := (some .int)) (by decide) rfl (Nat.le_of_ble_eq_true rfl) ?_
  intro pp ee ss mm aa bb me cd X hin
  have iX8 : ∀ w ∈ wsX80, w ∈ wsX8_part := by decide +kernel
  refine haload_n X dX8_part_0 rfl ?_
  refine hget1 X (T := TX8) (N := 14) iX8 0 rfl rfl 0 (by decide) (by decide +kernel) rfl dX8_part_1 ?_
  refine hbipush (v := 8) X dX8_part_4 rfl ?_
  refine hbipush (v := 10) X dX8_part_6 rfl ?_
  refine hiload_n X dX8_part_8 rfl ?_
  refine himul X dX8_part_9 ?_
  refine hiadd X dX8_part_10 ?_
  refine hiload_n X dX8_part_11 rfl ?_
  refine hiadd X dX8_part_12 ?_
  refine hiald (n := 250) (f := E 0) X 1 rfl (8 + 10 * s + k) (nadd (nadd rfl (nmul rfl rfl)) rfl) (by omega) (by decide) dX8_part_13 ?_
  refine hiret X dX8_part_14 ⟨rfl, ?_⟩
  rfl

set_option maxHeartbeats 4000000 in
set_option maxRecDepth 100000 in
theorem kX8_setPart (l : Launch) (G : hG) (q : Nat → Nat) (E : hF) (s k : Nat) (v : Int32) (hs : s < 20) (hk : k < 10) : hM l G yX8_setPart wsX8_setPart ({ frames := 1, cells := 0, slots := 0, locals := 40 }) (mW G q E) [.ref (q 0), .int (nI s), .int (nI k), .int v] (hR none (mW G q (fs E 0 (8 + 10 * s + k) v))) := by
  refine hM_of (cc := cX8_setPart) (maxL := 4) (ret := none) (by decide) rfl (Nat.le_of_ble_eq_true rfl) ?_
  intro pp ee ss mm aa bb me cd X hin
  have iX8 : ∀ w ∈ wsX80, w ∈ wsX8_setPart := by decide +kernel
  refine haload_n X dX8_setPart_0 rfl ?_
  refine hget1 X (T := TX8) (N := 14) iX8 0 rfl rfl 0 (by decide) (by decide +kernel) rfl dX8_setPart_1 ?_
  refine hbipush (v := 8) X dX8_setPart_4 rfl ?_
  refine hbipush (v := 10) X dX8_setPart_6 rfl ?_
  refine hiload_n X dX8_setPart_8 rfl ?_
  refine himul X dX8_setPart_9 ?_
  refine hiadd X dX8_setPart_10 ?_
  refine hiload_n X dX8_setPart_11 rfl ?_
  refine hiadd X dX8_setPart_12 ?_
  refine hiload_n X dX8_setPart_13 rfl ?_
  refine hiast (n := 250) (f := E 0) X 1 rfl (8 + 10 * s + k) (nadd (nadd rfl (nmul rfl rfl)) rfl) (by omega) (by decide) dX8_setPart_14 (ws' := mW G q (fs E 0 (8 + 10 * s + k) v)) rfl ?_
  refine hvret X dX8_setPart_15 ⟨rfl, ?_⟩
  rfl

set_option maxHeartbeats 4000000 in
set_option maxRecDepth 100000 in
theorem kX8_ofCrewPart (l : Launch) (G : hG) (q : Nat → Nat) (E : hF) (s k : Nat) (hs : s < 6) (hk : k < 7) : hM l G yX8_ofCrewPart wsX8_ofCrewPart ({ frames := 1, cells := 0, slots := 0, locals := 40 }) (mW G q E) [.ref (q 0), .int (nI s), .int (nI k)] (hR (some (.int (E 0 (208 + 7 * s + k)))) (mW G q E)) := by
  refine hM_of (cc := cX8_ofCrewPart) (maxL := 3) (ret := (some .int)) (by decide) rfl (Nat.le_of_ble_eq_true rfl) ?_
  intro pp ee ss mm aa bb me cd X hin
  have iX8 : ∀ w ∈ wsX80, w ∈ wsX8_ofCrewPart := by decide +kernel
  refine haload_n X dX8_ofCrewPart_0 rfl ?_
  refine hget1 X (T := TX8) (N := 14) iX8 0 rfl rfl 0 (by decide) (by decide +kernel) rfl dX8_ofCrewPart_1 ?_
  refine hsipush (v := 208) X dX8_ofCrewPart_4 rfl ?_
  refine hbipush (v := 7) X dX8_ofCrewPart_7 rfl ?_
  refine hiload_n X dX8_ofCrewPart_9 rfl ?_
  refine himul X dX8_ofCrewPart_10 ?_
  refine hiadd X dX8_ofCrewPart_11 ?_
  refine hiload_n X dX8_ofCrewPart_12 rfl ?_
  refine hiadd X dX8_ofCrewPart_13 ?_
  refine hiald (n := 250) (f := E 0) X 1 rfl (208 + 7 * s + k) (nadd (nadd rfl (nmul rfl rfl)) rfl) (by omega) (by decide) dX8_ofCrewPart_14 ?_
  refine hiret X dX8_ofCrewPart_15 ⟨rfl, ?_⟩
  rfl

set_option maxHeartbeats 4000000 in
set_option maxRecDepth 100000 in
theorem kX8_setCrew (l : Launch) (G : hG) (q : Nat → Nat) (E : hF) (s k : Nat) (v : Int32) (hs : s < 6) (hk : k < 7) : hM l G yX8_setCrew wsX8_setCrew ({ frames := 1, cells := 0, slots := 0, locals := 40 }) (mW G q E) [.ref (q 0), .int (nI s), .int (nI k), .int v] (hR none (mW G q (fs E 0 (208 + 7 * s + k) v))) := by
  refine hM_of (cc := cX8_setCrew) (maxL := 4) (ret := none) (by decide) rfl (Nat.le_of_ble_eq_true rfl) ?_
  intro pp ee ss mm aa bb me cd X hin
  have iX8 : ∀ w ∈ wsX80, w ∈ wsX8_setCrew := by decide +kernel
  refine haload_n X dX8_setCrew_0 rfl ?_
  refine hget1 X (T := TX8) (N := 14) iX8 0 rfl rfl 0 (by decide) (by decide +kernel) rfl dX8_setCrew_1 ?_
  refine hsipush (v := 208) X dX8_setCrew_4 rfl ?_
  refine hbipush (v := 7) X dX8_setCrew_7 rfl ?_
  refine hiload_n X dX8_setCrew_9 rfl ?_
  refine himul X dX8_setCrew_10 ?_
  refine hiadd X dX8_setCrew_11 ?_
  refine hiload_n X dX8_setCrew_12 rfl ?_
  refine hiadd X dX8_setCrew_13 ?_
  refine hiload_n X dX8_setCrew_14 rfl ?_
  refine hiast (n := 250) (f := E 0) X 1 rfl (208 + 7 * s + k) (nadd (nadd rfl (nmul rfl rfl)) rfl) (by omega) (by decide) dX8_setCrew_15 (ws' := mW G q (fs E 0 (208 + 7 * s + k) v)) rfl ?_
  refine hvret X dX8_setCrew_16 ⟨rfl, ?_⟩
  rfl

set_option maxHeartbeats 4000000 in
set_option maxRecDepth 100000 in
theorem kX8_isStand (l : Launch) (G : hG) (q : Nat → Nat) (E : hF) (x : Int32) : hM l G yX8_isStand wsX8_isStand ({ frames := 2, cells := 0, slots := 0, locals := 62 }) (mW G q E) [.ref (q 0), .int x] (hR (some (.int (bI (wI x 0 (E 0 4 - 1))))) (mW G q E)) := by
  refine hM_of (cc := cX8_isStand) (maxL := 2) (ret := (some .boolean)) (by decide) rfl (Nat.le_of_ble_eq_true rfl) ?_
  intro pp ee ss mm aa bb me cd X hin
  have iX8 : ∀ w ∈ wsX80, w ∈ wsX8_isStand := by decide +kernel
  refine hiload_n X dX8_isStand_0 rfl ?_
  refine hiconst (v := 0) X dX8_isStand_1 rfl ?_
  refine haload_n X dX8_isStand_2 rfl ?_
  refine hget1 X (T := TX8) (N := 14) iX8 0 rfl rfl 0 (by decide) (by decide +kernel) rfl dX8_isStand_3 ?_
  refine hiconst (v := 4) X dX8_isStand_6 rfl ?_
  refine hiald (n := 250) (f := E 0) X 1 rfl 4 rfl (by omega) (by decide) dX8_isStand_7 ?_
  refine hiconst (v := 1) X dX8_isStand_8 rfl ?_
  refine hisub X dX8_isStand_9 ?_
  refine hcallSr (wsC := []) (wsR := mW G q E) (As := [.int x, .int 0, .int ((E 0 4) - 1)]) (rest := []) (st' := [.int (bI (wI x 0 ((E 0 4) - 1)))]) (w := []) X (kX8_within l G x 0 ((E 0 4) - 1)) gX8_isStand_X8_within rfl (n := 3) (by decide +kernel) (by decide) rfl rfl (Nat.le_of_ble_eq_true rfl) dX8_isStand_10 rfl rfl (by decide) rfl ?_
  refine hzret X bI_nar dX8_isStand_13 ⟨congrArg (fun z => some (Value.int z)) (?_ : (bI (wI x 0 ((E 0 4) - 1))) = bI (wI x 0 (E 0 4 - 1))), ?_⟩
  · simp [*]
  rfl

set_option maxHeartbeats 4000000 in
set_option maxRecDepth 100000 in
theorem kX8_isCrew (l : Launch) (G : hG) (q : Nat → Nat) (E : hF) (x : Int32) : hM l G yX8_isCrew wsX8_isCrew ({ frames := 2, cells := 0, slots := 0, locals := 62 }) (mW G q E) [.ref (q 0), .int x] (hR (some (.int (bI (wI x 0 (E 0 5 - 1))))) (mW G q E)) := by
  refine hM_of (cc := cX8_isCrew) (maxL := 2) (ret := (some .boolean)) (by decide) rfl (Nat.le_of_ble_eq_true rfl) ?_
  intro pp ee ss mm aa bb me cd X hin
  have iX8 : ∀ w ∈ wsX80, w ∈ wsX8_isCrew := by decide +kernel
  refine hiload_n X dX8_isCrew_0 rfl ?_
  refine hiconst (v := 0) X dX8_isCrew_1 rfl ?_
  refine haload_n X dX8_isCrew_2 rfl ?_
  refine hget1 X (T := TX8) (N := 14) iX8 0 rfl rfl 0 (by decide) (by decide +kernel) rfl dX8_isCrew_3 ?_
  refine hiconst (v := 5) X dX8_isCrew_6 rfl ?_
  refine hiald (n := 250) (f := E 0) X 1 rfl 5 rfl (by omega) (by decide) dX8_isCrew_7 ?_
  refine hiconst (v := 1) X dX8_isCrew_8 rfl ?_
  refine hisub X dX8_isCrew_9 ?_
  refine hcallSr (wsC := []) (wsR := mW G q E) (As := [.int x, .int 0, .int ((E 0 5) - 1)]) (rest := []) (st' := [.int (bI (wI x 0 ((E 0 5) - 1)))]) (w := []) X (kX8_within l G x 0 ((E 0 5) - 1)) gX8_isCrew_X8_within rfl (n := 3) (by decide +kernel) (by decide) rfl rfl (Nat.le_of_ble_eq_true rfl) dX8_isCrew_10 rfl rfl (by decide) rfl ?_
  refine hzret X bI_nar dX8_isCrew_13 ⟨congrArg (fun z => some (Value.int z)) (?_ : (bI (wI x 0 ((E 0 5) - 1))) = bI (wI x 0 (E 0 5 - 1))), ?_⟩
  · simp [*]
  rfl

set_option maxHeartbeats 4000000 in
set_option maxRecDepth 100000 in
theorem kX8_isHow (l : Launch) (G : hG) (q : Nat → Nat) (E : hF) (s : Nat) (w : Int32) (hs : s < 20) : hM l G yX8_isHow wsX8_isHow ({ frames := 2, cells := 0, slots := 0, locals := 62 }) (mW G q E) [.ref (q 0), .int (nI s), .int w] (hR (some (.int (bI (E 0 (8 + 10 * s + 4) = w)))) (mW G q E)) := by
  refine hM_of (cc := cX8_isHow) (maxL := 3) (ret := (some .boolean)) (by decide) rfl (Nat.le_of_ble_eq_true rfl) ?_
  intro pp ee ss mm aa bb me cd X hin
  refine haload_n X dX8_isHow_0 rfl ?_
  refine hiload_n X dX8_isHow_1 rfl ?_
  refine hiconst (v := 4) X dX8_isHow_2 rfl ?_
  refine hcallV0 (C := RX8) (T := TX8) (N := 14) (As := [.int (nI s), .int (nI 4)]) (rest := []) (st' := [.int (E 0 (8 + 10 * s + 4))]) (w := mW G q E) X (q0 := 0) (kX8_part l G q E s 4 (by first | assumption | omega | simp [fs_at, *]) (by first | assumption | omega | simp [fs_at, *])) gX8_isHow_X8_part rfl (n := 2) (by decide +kernel) (by decide) rfl rfl rfl rfl (Nat.le_of_ble_eq_true rfl) dX8_isHow_3 rfl rfl (by decide) rfl ?_
  refine hiload_n X dX8_isHow_6 rfl ?_
  refine hicmp_ne (tgt := 14) X dX8_isHow_7 (by decide) (fun c1 => ?_) (fun c1 => ?_)
  · refine hiconst (v := 0) X dX8_isHow_14 rfl ?_
    refine hzret X rfl dX8_isHow_15 ⟨congrArg (fun z => some (Value.int z)) (?_ : 0 = bI (E 0 (8 + 10 * s + 4) = w)), ?_⟩
    · simp [bI, *]
    rfl
  · refine hiconst (v := 1) X dX8_isHow_10 rfl ?_
    refine hgoto (tgt := 15) X dX8_isHow_11 (by decide) ?_
    refine hzret X rfl dX8_isHow_15 ⟨congrArg (fun z => some (Value.int z)) (?_ : 1 = bI (E 0 (8 + 10 * s + 4) = w)), ?_⟩
    · simp [bI, *]
    rfl

set_option maxHeartbeats 4000000 in
set_option maxRecDepth 100000 in
theorem kX8_withHow (l : Launch) (G : hG) (q : Nat → Nat) (E : hF) (n : Nat) (w : Int32) (hn : n ≤ 20) (h4 : E 0 4 = nI n) : hM l G yX8_withHow wsX8_withHow ({ frames := 3, cells := 0, slots := 0, locals := 84 }) (mW G q E) [.ref (q 0), .int w] (hR (some (.int (cntE n E w))) (mW G q E)) := by
  refine hM_of (cc := cX8_withHow) (maxL := 4) (ret := (some .int)) (by decide) rfl (Nat.le_of_ble_eq_true rfl) ?_
  intro pp ee ss mm aa bb me cd X hin
  have iX8 : ∀ w ∈ wsX80, w ∈ wsX8_withHow := by decide +kernel
  have L : ∀ (d : Nat) (k : Nat), (k ≤ n) → (n - k) < d → hV pp l ee ({ frames := 3, cells := 0, slots := 0, locals := 84 }) ss mm aa bb me cd G (va_A (mW G q E) ss.heap.size) 4 0 0 (MQ bb (hQc G (mW G q E) ss.heap.size (hR (some (.int (cntE n E w))) (mW G q E))) aa ss 0 0 (va_A (mW G q E) ss.heap.size)) (mW G q E) 4 [(3, .int (nI k)), (2, .int (sumN k (fun s => if E 0 (8 + 10 * s + 4) = w then 1 else 0))), (0, .ref (q 0)), (1, .int w)] [] := by
    intro d
    induction d with
    | zero =>
      intro k hk hd0
      exact absurd hd0 (Nat.not_lt_zero _)
    | succ d ih =>
      intro k hk hd0
      refine hiload_n X dX8_withHow_4 rfl ?_
      refine haload_n X dX8_withHow_5 rfl ?_
      refine hget1 X (T := TX8) (N := 14) iX8 0 rfl rfl 0 (by decide) (by decide +kernel) rfl dX8_withHow_6 ?_
      refine hiconst (v := 4) X dX8_withHow_9 rfl ?_
      refine hiald (n := 250) (f := E 0) X 1 rfl 4 rfl (by omega) (by decide) dX8_withHow_10 ?_
      refine hV_st (st' := [.int (nI n), .int (nI k)]) (congrArg (fun z => Value.int z :: [.int (nI k)]) (h4)) ?_
      refine hicmp_ge (tgt := 37) X dX8_withHow_11 (by decide) (fun c1 => ?_) (fun c1 => ?_)
      · have ek := i_ge hk (by omega) c1
        refine hiload_n X dX8_withHow_37 rfl ?_
        refine hiret X dX8_withHow_38 ⟨congrArg (fun z => some (Value.int z)) (?_ : (sumN k (fun s => if E 0 (8 + 10 * s + 4) = w then 1 else 0)) = cntE n E w), ?_⟩
        · simp [cntE, ek]
        rfl
      · have hk1 := i_lt hk (by omega) c1
        refine hiload_n X dX8_withHow_14 rfl ?_
        refine haload_n X dX8_withHow_15 rfl ?_
        refine hiload_n X dX8_withHow_16 rfl ?_
        refine hiload_n X dX8_withHow_17 rfl ?_
        refine hcallV0 (C := RX8) (T := TX8) (N := 14) (As := [.int (nI k), .int w]) (rest := [.int (sumN k (fun s => if E 0 (8 + 10 * s + 4) = w then 1 else 0))]) (st' := [.int (bI (E 0 (8 + 10 * k + 4) = w)), .int (sumN k (fun s => if E 0 (8 + 10 * s + 4) = w then 1 else 0))]) (w := mW G q E) X (q0 := 0) (kX8_isHow l G q E k w (by first | assumption | omega | simp [fs_at, *])) gX8_withHow_X8_isHow rfl (n := 2) (by decide +kernel) (by decide) rfl rfl rfl rfl (Nat.le_of_ble_eq_true rfl) dX8_withHow_18 rfl rfl (by decide) rfl ?_
        refine hif_eqB (tgt := 28) X dX8_withHow_21 (by decide) (fun c2 => ?_) (fun c2 => ?_)
        · refine hiconst (v := 0) X dX8_withHow_28 rfl ?_
          refine hiadd X dX8_withHow_29 ?_
          refine histore_n (lv' := [(2, .int ((sumN k (fun s => if E 0 (8 + 10 * s + 4) = w then 1 else 0)) + 0)), (3, .int (nI k)), (0, .ref (q 0)), (1, .int w)]) X dX8_withHow_30 (by decide) rfl ?_
          refine hiinc (v := nI (k + 1)) (lv' := [(3, .int (nI (k + 1))), (2, .int ((sumN k (fun s => if E 0 (8 + 10 * s + 4) = w then 1 else 0)) + 0)), (0, .ref (q 0)), (1, .int w)]) X dX8_withHow_31 rfl (nI_1 _) (by decide) rfl ?_
          refine hgoto (tgt := 4) X dX8_withHow_34 (by decide) ?_
          have e3 : ((sumN k (fun s => if E 0 (8 + 10 * s + 4) = w then 1 else 0)) + 0 : Int32) = sumN (k + 1) (fun s => if E 0 (8 + 10 * s + 4) = w then 1 else 0) := by
            simp [sumN, *]
          exact hV_to (ws' := mW G q E) (lv' := [(3, .int (nI (k + 1))), (2, .int (sumN (k + 1) (fun s => if E 0 (8 + 10 * s + 4) = w then 1 else 0))), (0, .ref (q 0)), (1, .int w)]) (st' := []) rfl (congrArg (fun z => ([(3, .int (nI (k + 1))), (2, .int z), (0, .ref (q 0)), (1, .int w)] : List (Nat × Value))) e3) rfl (ih (k + 1) (by omega) (by omega))
        · refine hiconst (v := 1) X dX8_withHow_24 rfl ?_
          refine hgoto (tgt := 29) X dX8_withHow_25 (by decide) ?_
          refine hiadd X dX8_withHow_29 ?_
          refine histore_n (lv' := [(2, .int ((sumN k (fun s => if E 0 (8 + 10 * s + 4) = w then 1 else 0)) + 1)), (3, .int (nI k)), (0, .ref (q 0)), (1, .int w)]) X dX8_withHow_30 (by decide) rfl ?_
          refine hiinc (v := nI (k + 1)) (lv' := [(3, .int (nI (k + 1))), (2, .int ((sumN k (fun s => if E 0 (8 + 10 * s + 4) = w then 1 else 0)) + 1)), (0, .ref (q 0)), (1, .int w)]) X dX8_withHow_31 rfl (nI_1 _) (by decide) rfl ?_
          refine hgoto (tgt := 4) X dX8_withHow_34 (by decide) ?_
          have e4 : ((sumN k (fun s => if E 0 (8 + 10 * s + 4) = w then 1 else 0)) + 1 : Int32) = sumN (k + 1) (fun s => if E 0 (8 + 10 * s + 4) = w then 1 else 0) := by
            simp [sumN, *]
          exact hV_to (ws' := mW G q E) (lv' := [(3, .int (nI (k + 1))), (2, .int (sumN (k + 1) (fun s => if E 0 (8 + 10 * s + 4) = w then 1 else 0))), (0, .ref (q 0)), (1, .int w)]) (st' := []) rfl (congrArg (fun z => ([(3, .int (nI (k + 1))), (2, .int z), (0, .ref (q 0)), (1, .int w)] : List (Nat × Value))) e4) rfl (ih (k + 1) (by omega) (by omega))
  refine hiconst (v := 0) X dX8_withHow_0 rfl ?_
  refine histore_n (lv' := [(2, .int 0), (0, .ref (q 0)), (1, .int w)]) X dX8_withHow_1 (by decide) rfl ?_
  refine hiconst (v := 0) X dX8_withHow_2 rfl ?_
  refine histore_n (lv' := [(3, .int 0), (2, .int 0), (0, .ref (q 0)), (1, .int w)]) X dX8_withHow_3 (by decide) rfl ?_
  have e5 : (0 : Int32) = sumN 0 (fun s => if E 0 (8 + 10 * s + 4) = w then 1 else 0) := by
    simp [sumN, *]
  exact hV_to (ws' := mW G q E) (lv' := [(3, .int 0), (2, .int (sumN 0 (fun s => if E 0 (8 + 10 * s + 4) = w then 1 else 0))), (0, .ref (q 0)), (1, .int w)]) (st' := []) rfl (congrArg (fun z => ([(3, .int 0), (2, .int z), (0, .ref (q 0)), (1, .int w)] : List (Nat × Value))) e5) rfl (L _ 0 (by omega) (Nat.lt_succ_self _))

set_option maxHeartbeats 4000000 in
set_option maxRecDepth 100000 in
theorem kX8_standingOn (l : Launch) (G : hG) (q : Nat → Nat) (E : hF) (n : Nat) (x : Int32) (hn : n ≤ 20) (h4 : E 0 4 = nI n) : hM l G yX8_standingOn wsX8_standingOn ({ frames := 3, cells := 0, slots := 0, locals := 84 }) (mW G q E) [.ref (q 0), .int x] (hR (some (.int (stoE n E x))) (mW G q E)) := by
  refine hM_of (cc := cX8_standingOn) (maxL := 4) (ret := (some .int)) (by decide) rfl (Nat.le_of_ble_eq_true rfl) ?_
  intro pp ee ss mm aa bb me cd X hin
  have iX8 : ∀ w ∈ wsX80, w ∈ wsX8_standingOn := by decide +kernel
  have L : ∀ (d : Nat) (k : Nat), (k ≤ n) → (n - k) < d → hV pp l ee ({ frames := 3, cells := 0, slots := 0, locals := 84 }) ss mm aa bb me cd G (va_A (mW G q E) ss.heap.size) 4 0 0 (MQ bb (hQc G (mW G q E) ss.heap.size (hR (some (.int (stoE n E x))) (mW G q E))) aa ss 0 0 (va_A (mW G q E) ss.heap.size)) (mW G q E) 4 [(3, .int (nI k)), (2, .int (orN k (fun s => if E 0 (8 + 10 * s + 3) = x ∧ ¬ E 0 (8 + 10 * s + 4) = 6 then (1 : Int32) <<< (nI s &&& 31) else 0))), (0, .ref (q 0)), (1, .int x)] [] := by
    intro d
    induction d with
    | zero =>
      intro k hk hd0
      exact absurd hd0 (Nat.not_lt_zero _)
    | succ d ih =>
      intro k hk hd0
      refine hiload_n X dX8_standingOn_4 rfl ?_
      refine haload_n X dX8_standingOn_5 rfl ?_
      refine hget1 X (T := TX8) (N := 14) iX8 0 rfl rfl 0 (by decide) (by decide +kernel) rfl dX8_standingOn_6 ?_
      refine hiconst (v := 4) X dX8_standingOn_9 rfl ?_
      refine hiald (n := 250) (f := E 0) X 1 rfl 4 rfl (by omega) (by decide) dX8_standingOn_10 ?_
      refine hV_st (st' := [.int (nI n), .int (nI k)]) (congrArg (fun z => Value.int z :: [.int (nI k)]) (h4)) ?_
      refine hicmp_ge (tgt := 50) X dX8_standingOn_11 (by decide) (fun c1 => ?_) (fun c1 => ?_)
      · have ek := i_ge hk (by omega) c1
        refine hiload_n X dX8_standingOn_50 rfl ?_
        refine hiret X dX8_standingOn_51 ⟨congrArg (fun z => some (Value.int z)) (?_ : (orN k (fun s => if E 0 (8 + 10 * s + 3) = x ∧ ¬ E 0 (8 + 10 * s + 4) = 6 then (1 : Int32) <<< (nI s &&& 31) else 0)) = stoE n E x), ?_⟩
        · simp [stoE, ek]
        rfl
      · have hk1 := i_lt hk (by omega) c1
        refine hiload_n X dX8_standingOn_14 rfl ?_
        refine haload_n X dX8_standingOn_15 rfl ?_
        refine hiload_n X dX8_standingOn_16 rfl ?_
        refine hiconst (v := 3) X dX8_standingOn_17 rfl ?_
        refine hcallV0 (C := RX8) (T := TX8) (N := 14) (As := [.int (nI k), .int (nI 3)]) (rest := [.int (orN k (fun s => if E 0 (8 + 10 * s + 3) = x ∧ ¬ E 0 (8 + 10 * s + 4) = 6 then (1 : Int32) <<< (nI s &&& 31) else 0))]) (st' := [.int (E 0 (8 + 10 * k + 3)), .int (orN k (fun s => if E 0 (8 + 10 * s + 3) = x ∧ ¬ E 0 (8 + 10 * s + 4) = 6 then (1 : Int32) <<< (nI s &&& 31) else 0))]) (w := mW G q E) X (q0 := 0) (kX8_part l G q E k 3 (by first | assumption | omega | simp [fs_at, *]) (by first | assumption | omega | simp [fs_at, *])) gX8_standingOn_X8_part rfl (n := 2) (by decide +kernel) (by decide) rfl rfl rfl rfl (Nat.le_of_ble_eq_true rfl) dX8_standingOn_18 rfl rfl (by decide) rfl ?_
        refine hiload_n X dX8_standingOn_21 rfl ?_
        refine hicmp_ne (tgt := 41) X dX8_standingOn_22 (by decide) (fun c2 => ?_) (fun c2 => ?_)
        · refine hiconst (v := 0) X dX8_standingOn_41 rfl ?_
          refine hior X dX8_standingOn_42 ?_
          refine histore_n (lv' := [(2, .int ((orN k (fun s => if E 0 (8 + 10 * s + 3) = x ∧ ¬ E 0 (8 + 10 * s + 4) = 6 then (1 : Int32) <<< (nI s &&& 31) else 0)) ||| 0)), (3, .int (nI k)), (0, .ref (q 0)), (1, .int x)]) X dX8_standingOn_43 (by decide) rfl ?_
          refine hiinc (v := nI (k + 1)) (lv' := [(3, .int (nI (k + 1))), (2, .int ((orN k (fun s => if E 0 (8 + 10 * s + 3) = x ∧ ¬ E 0 (8 + 10 * s + 4) = 6 then (1 : Int32) <<< (nI s &&& 31) else 0)) ||| 0)), (0, .ref (q 0)), (1, .int x)]) X dX8_standingOn_44 rfl (nI_1 _) (by decide) rfl ?_
          refine hgoto (tgt := 4) X dX8_standingOn_47 (by decide) ?_
          have e3 : ((orN k (fun s => if E 0 (8 + 10 * s + 3) = x ∧ ¬ E 0 (8 + 10 * s + 4) = 6 then (1 : Int32) <<< (nI s &&& 31) else 0)) ||| 0 : Int32) = orN (k + 1) (fun s => if E 0 (8 + 10 * s + 3) = x ∧ ¬ E 0 (8 + 10 * s + 4) = 6 then (1 : Int32) <<< (nI s &&& 31) else 0) := by
            simp [orN, *]
          exact hV_to (ws' := mW G q E) (lv' := [(3, .int (nI (k + 1))), (2, .int (orN (k + 1) (fun s => if E 0 (8 + 10 * s + 3) = x ∧ ¬ E 0 (8 + 10 * s + 4) = 6 then (1 : Int32) <<< (nI s &&& 31) else 0))), (0, .ref (q 0)), (1, .int x)]) (st' := []) rfl (congrArg (fun z => ([(3, .int (nI (k + 1))), (2, .int z), (0, .ref (q 0)), (1, .int x)] : List (Nat × Value))) e3) rfl (ih (k + 1) (by omega) (by omega))
        · refine haload_n X dX8_standingOn_25 rfl ?_
          refine hiload_n X dX8_standingOn_26 rfl ?_
          refine hbipush (v := 6) X dX8_standingOn_27 rfl ?_
          refine hcallV0 (C := RX8) (T := TX8) (N := 14) (As := [.int (nI k), .int 6]) (rest := [.int (orN k (fun s => if E 0 (8 + 10 * s + 3) = x ∧ ¬ E 0 (8 + 10 * s + 4) = 6 then (1 : Int32) <<< (nI s &&& 31) else 0))]) (st' := [.int (bI (E 0 (8 + 10 * k + 4) = 6)), .int (orN k (fun s => if E 0 (8 + 10 * s + 3) = x ∧ ¬ E 0 (8 + 10 * s + 4) = 6 then (1 : Int32) <<< (nI s &&& 31) else 0))]) (w := mW G q E) X (q0 := 0) (kX8_isHow l G q E k 6 (by first | assumption | omega | simp [fs_at, *])) gX8_standingOn_X8_isHow rfl (n := 2) (by decide +kernel) (by decide) rfl rfl rfl rfl (Nat.le_of_ble_eq_true rfl) dX8_standingOn_29 rfl rfl (by decide) rfl ?_
          refine hif_neB (tgt := 41) X dX8_standingOn_32 (by decide) (fun c4 => ?_) (fun c4 => ?_)
          · refine hiconst (v := 0) X dX8_standingOn_41 rfl ?_
            refine hior X dX8_standingOn_42 ?_
            refine histore_n (lv' := [(2, .int ((orN k (fun s => if E 0 (8 + 10 * s + 3) = x ∧ ¬ E 0 (8 + 10 * s + 4) = 6 then (1 : Int32) <<< (nI s &&& 31) else 0)) ||| 0)), (3, .int (nI k)), (0, .ref (q 0)), (1, .int x)]) X dX8_standingOn_43 (by decide) rfl ?_
            refine hiinc (v := nI (k + 1)) (lv' := [(3, .int (nI (k + 1))), (2, .int ((orN k (fun s => if E 0 (8 + 10 * s + 3) = x ∧ ¬ E 0 (8 + 10 * s + 4) = 6 then (1 : Int32) <<< (nI s &&& 31) else 0)) ||| 0)), (0, .ref (q 0)), (1, .int x)]) X dX8_standingOn_44 rfl (nI_1 _) (by decide) rfl ?_
            refine hgoto (tgt := 4) X dX8_standingOn_47 (by decide) ?_
            have e5 : ((orN k (fun s => if E 0 (8 + 10 * s + 3) = x ∧ ¬ E 0 (8 + 10 * s + 4) = 6 then (1 : Int32) <<< (nI s &&& 31) else 0)) ||| 0 : Int32) = orN (k + 1) (fun s => if E 0 (8 + 10 * s + 3) = x ∧ ¬ E 0 (8 + 10 * s + 4) = 6 then (1 : Int32) <<< (nI s &&& 31) else 0) := by
              simp [orN, *]
            exact hV_to (ws' := mW G q E) (lv' := [(3, .int (nI (k + 1))), (2, .int (orN (k + 1) (fun s => if E 0 (8 + 10 * s + 3) = x ∧ ¬ E 0 (8 + 10 * s + 4) = 6 then (1 : Int32) <<< (nI s &&& 31) else 0))), (0, .ref (q 0)), (1, .int x)]) (st' := []) rfl (congrArg (fun z => ([(3, .int (nI (k + 1))), (2, .int z), (0, .ref (q 0)), (1, .int x)] : List (Nat × Value))) e5) rfl (ih (k + 1) (by omega) (by omega))
          · refine hiconst (v := 1) X dX8_standingOn_35 rfl ?_
            refine hiload_n X dX8_standingOn_36 rfl ?_
            refine hishl X dX8_standingOn_37 ?_
            refine hgoto (tgt := 42) X dX8_standingOn_38 (by decide) ?_
            refine hior X dX8_standingOn_42 ?_
            refine histore_n (lv' := [(2, .int ((orN k (fun s => if E 0 (8 + 10 * s + 3) = x ∧ ¬ E 0 (8 + 10 * s + 4) = 6 then (1 : Int32) <<< (nI s &&& 31) else 0)) ||| ((1 : Int32) <<< ((nI k) &&& 31)))), (3, .int (nI k)), (0, .ref (q 0)), (1, .int x)]) X dX8_standingOn_43 (by decide) rfl ?_
            refine hiinc (v := nI (k + 1)) (lv' := [(3, .int (nI (k + 1))), (2, .int ((orN k (fun s => if E 0 (8 + 10 * s + 3) = x ∧ ¬ E 0 (8 + 10 * s + 4) = 6 then (1 : Int32) <<< (nI s &&& 31) else 0)) ||| ((1 : Int32) <<< ((nI k) &&& 31)))), (0, .ref (q 0)), (1, .int x)]) X dX8_standingOn_44 rfl (nI_1 _) (by decide) rfl ?_
            refine hgoto (tgt := 4) X dX8_standingOn_47 (by decide) ?_
            have e6 : ((orN k (fun s => if E 0 (8 + 10 * s + 3) = x ∧ ¬ E 0 (8 + 10 * s + 4) = 6 then (1 : Int32) <<< (nI s &&& 31) else 0)) ||| ((1 : Int32) <<< ((nI k) &&& 31)) : Int32) = orN (k + 1) (fun s => if E 0 (8 + 10 * s + 3) = x ∧ ¬ E 0 (8 + 10 * s + 4) = 6 then (1 : Int32) <<< (nI s &&& 31) else 0) := by
              simp [orN, *]
            exact hV_to (ws' := mW G q E) (lv' := [(3, .int (nI (k + 1))), (2, .int (orN (k + 1) (fun s => if E 0 (8 + 10 * s + 3) = x ∧ ¬ E 0 (8 + 10 * s + 4) = 6 then (1 : Int32) <<< (nI s &&& 31) else 0))), (0, .ref (q 0)), (1, .int x)]) (st' := []) rfl (congrArg (fun z => ([(3, .int (nI (k + 1))), (2, .int z), (0, .ref (q 0)), (1, .int x)] : List (Nat × Value))) e6) rfl (ih (k + 1) (by omega) (by omega))
  refine hiconst (v := 0) X dX8_standingOn_0 rfl ?_
  refine histore_n (lv' := [(2, .int 0), (0, .ref (q 0)), (1, .int x)]) X dX8_standingOn_1 (by decide) rfl ?_
  refine hiconst (v := 0) X dX8_standingOn_2 rfl ?_
  refine histore_n (lv' := [(3, .int 0), (2, .int 0), (0, .ref (q 0)), (1, .int x)]) X dX8_standingOn_3 (by decide) rfl ?_
  have e7 : (0 : Int32) = orN 0 (fun s => if E 0 (8 + 10 * s + 3) = x ∧ ¬ E 0 (8 + 10 * s + 4) = 6 then (1 : Int32) <<< (nI s &&& 31) else 0) := by
    simp [orN, *]
  exact hV_to (ws' := mW G q E) (lv' := [(3, .int 0), (2, .int (orN 0 (fun s => if E 0 (8 + 10 * s + 3) = x ∧ ¬ E 0 (8 + 10 * s + 4) = 6 then (1 : Int32) <<< (nI s &&& 31) else 0))), (0, .ref (q 0)), (1, .int x)]) (st' := []) rfl (congrArg (fun z => ([(3, .int 0), (2, .int z), (0, .ref (q 0)), (1, .int x)] : List (Nat × Value))) e7) rfl (L _ 0 (by omega) (Nat.lt_succ_self _))

set_option maxHeartbeats 4000000 in
set_option maxRecDepth 100000 in
theorem kX8_meters (l : Launch) (G : hG) (q : Nat → Nat) (E : hF) (n : Nat) (hn : n ≤ 20) (h4 : E 0 4 = nI n) : hM l G yX8_meters wsX8_meters ({ frames := 3, cells := 0, slots := 0, locals := 84 }) (mW G q E) [.ref (q 0)] (hR (some (.int (metE n E))) (mW G q E)) := by
  refine hM_of (cc := cX8_meters) (maxL := 3) (ret := (some .int)) (by decide) rfl (Nat.le_of_ble_eq_true rfl) ?_
  intro pp ee ss mm aa bb me cd X hin
  have iX8 : ∀ w ∈ wsX80, w ∈ wsX8_meters := by decide +kernel
  have L : ∀ (d : Nat) (k : Nat), (k ≤ n) → (n - k) < d → hV pp l ee ({ frames := 3, cells := 0, slots := 0, locals := 84 }) ss mm aa bb me cd G (va_A (mW G q E) ss.heap.size) 3 0 0 (MQ bb (hQc G (mW G q E) ss.heap.size (hR (some (.int (metE n E))) (mW G q E))) aa ss 0 0 (va_A (mW G q E) ss.heap.size)) (mW G q E) 4 [(2, .int (nI k)), (1, .int (sumN k (fun s => if E 0 (8 + 10 * s + 4) = 1 then E 0 (8 + 10 * s + 1) else 0))), (0, .ref (q 0))] [] := by
    intro d
    induction d with
    | zero =>
      intro k hk hd0
      exact absurd hd0 (Nat.not_lt_zero _)
    | succ d ih =>
      intro k hk hd0
      refine hiload_n X dX8_meters_4 rfl ?_
      refine haload_n X dX8_meters_5 rfl ?_
      refine hget1 X (T := TX8) (N := 14) iX8 0 rfl rfl 0 (by decide) (by decide +kernel) rfl dX8_meters_6 ?_
      refine hiconst (v := 4) X dX8_meters_9 rfl ?_
      refine hiald (n := 250) (f := E 0) X 1 rfl 4 rfl (by omega) (by decide) dX8_meters_10 ?_
      refine hV_st (st' := [.int (nI n), .int (nI k)]) (congrArg (fun z => Value.int z :: [.int (nI k)]) (h4)) ?_
      refine hicmp_ge (tgt := 42) X dX8_meters_11 (by decide) (fun c1 => ?_) (fun c1 => ?_)
      · have ek := i_ge hk (by omega) c1
        refine hiload_n X dX8_meters_42 rfl ?_
        refine hiret X dX8_meters_43 ⟨congrArg (fun z => some (Value.int z)) (?_ : (sumN k (fun s => if E 0 (8 + 10 * s + 4) = 1 then E 0 (8 + 10 * s + 1) else 0)) = metE n E), ?_⟩
        · simp [metE, ek]
        rfl
      · have hk1 := i_lt hk (by omega) c1
        refine hiload_n X dX8_meters_14 rfl ?_
        refine haload_n X dX8_meters_15 rfl ?_
        refine hiload_n X dX8_meters_16 rfl ?_
        refine hiconst (v := 1) X dX8_meters_17 rfl ?_
        refine hcallV0 (C := RX8) (T := TX8) (N := 14) (As := [.int (nI k), .int 1]) (rest := [.int (sumN k (fun s => if E 0 (8 + 10 * s + 4) = 1 then E 0 (8 + 10 * s + 1) else 0))]) (st' := [.int (bI (E 0 (8 + 10 * k + 4) = 1)), .int (sumN k (fun s => if E 0 (8 + 10 * s + 4) = 1 then E 0 (8 + 10 * s + 1) else 0))]) (w := mW G q E) X (q0 := 0) (kX8_isHow l G q E k 1 (by first | assumption | omega | simp [fs_at, *])) gX8_meters_X8_isHow rfl (n := 2) (by decide +kernel) (by decide) rfl rfl rfl rfl (Nat.le_of_ble_eq_true rfl) dX8_meters_18 rfl rfl (by decide) rfl ?_
        refine hif_eqB (tgt := 33) X dX8_meters_21 (by decide) (fun c2 => ?_) (fun c2 => ?_)
        · refine hiconst (v := 0) X dX8_meters_33 rfl ?_
          refine hiadd X dX8_meters_34 ?_
          refine histore_n (lv' := [(1, .int ((sumN k (fun s => if E 0 (8 + 10 * s + 4) = 1 then E 0 (8 + 10 * s + 1) else 0)) + 0)), (2, .int (nI k)), (0, .ref (q 0))]) X dX8_meters_35 (by decide) rfl ?_
          refine hiinc (v := nI (k + 1)) (lv' := [(2, .int (nI (k + 1))), (1, .int ((sumN k (fun s => if E 0 (8 + 10 * s + 4) = 1 then E 0 (8 + 10 * s + 1) else 0)) + 0)), (0, .ref (q 0))]) X dX8_meters_36 rfl (nI_1 _) (by decide) rfl ?_
          refine hgoto (tgt := 4) X dX8_meters_39 (by decide) ?_
          have e3 : ((sumN k (fun s => if E 0 (8 + 10 * s + 4) = 1 then E 0 (8 + 10 * s + 1) else 0)) + 0 : Int32) = sumN (k + 1) (fun s => if E 0 (8 + 10 * s + 4) = 1 then E 0 (8 + 10 * s + 1) else 0) := by
            simp [sumN, *]
          exact hV_to (ws' := mW G q E) (lv' := [(2, .int (nI (k + 1))), (1, .int (sumN (k + 1) (fun s => if E 0 (8 + 10 * s + 4) = 1 then E 0 (8 + 10 * s + 1) else 0))), (0, .ref (q 0))]) (st' := []) rfl (congrArg (fun z => ([(2, .int (nI (k + 1))), (1, .int z), (0, .ref (q 0))] : List (Nat × Value))) e3) rfl (ih (k + 1) (by omega) (by omega))
        · refine haload_n X dX8_meters_24 rfl ?_
          refine hiload_n X dX8_meters_25 rfl ?_
          refine hiconst (v := 1) X dX8_meters_26 rfl ?_
          refine hcallV0 (C := RX8) (T := TX8) (N := 14) (As := [.int (nI k), .int (nI 1)]) (rest := [.int (sumN k (fun s => if E 0 (8 + 10 * s + 4) = 1 then E 0 (8 + 10 * s + 1) else 0))]) (st' := [.int (E 0 (8 + 10 * k + 1)), .int (sumN k (fun s => if E 0 (8 + 10 * s + 4) = 1 then E 0 (8 + 10 * s + 1) else 0))]) (w := mW G q E) X (q0 := 0) (kX8_part l G q E k 1 (by first | assumption | omega | simp [fs_at, *]) (by first | assumption | omega | simp [fs_at, *])) gX8_meters_X8_part rfl (n := 2) (by decide +kernel) (by decide) rfl rfl rfl rfl (Nat.le_of_ble_eq_true rfl) dX8_meters_27 rfl rfl (by decide) rfl ?_
          refine hgoto (tgt := 34) X dX8_meters_30 (by decide) ?_
          refine hiadd X dX8_meters_34 ?_
          refine histore_n (lv' := [(1, .int ((sumN k (fun s => if E 0 (8 + 10 * s + 4) = 1 then E 0 (8 + 10 * s + 1) else 0)) + (E 0 (8 + 10 * k + 1)))), (2, .int (nI k)), (0, .ref (q 0))]) X dX8_meters_35 (by decide) rfl ?_
          refine hiinc (v := nI (k + 1)) (lv' := [(2, .int (nI (k + 1))), (1, .int ((sumN k (fun s => if E 0 (8 + 10 * s + 4) = 1 then E 0 (8 + 10 * s + 1) else 0)) + (E 0 (8 + 10 * k + 1)))), (0, .ref (q 0))]) X dX8_meters_36 rfl (nI_1 _) (by decide) rfl ?_
          refine hgoto (tgt := 4) X dX8_meters_39 (by decide) ?_
          have e4 : ((sumN k (fun s => if E 0 (8 + 10 * s + 4) = 1 then E 0 (8 + 10 * s + 1) else 0)) + (E 0 (8 + 10 * k + 1)) : Int32) = sumN (k + 1) (fun s => if E 0 (8 + 10 * s + 4) = 1 then E 0 (8 + 10 * s + 1) else 0) := by
            simp [sumN, *]
          exact hV_to (ws' := mW G q E) (lv' := [(2, .int (nI (k + 1))), (1, .int (sumN (k + 1) (fun s => if E 0 (8 + 10 * s + 4) = 1 then E 0 (8 + 10 * s + 1) else 0))), (0, .ref (q 0))]) (st' := []) rfl (congrArg (fun z => ([(2, .int (nI (k + 1))), (1, .int z), (0, .ref (q 0))] : List (Nat × Value))) e4) rfl (ih (k + 1) (by omega) (by omega))
  refine hiconst (v := 0) X dX8_meters_0 rfl ?_
  refine histore_n (lv' := [(1, .int 0), (0, .ref (q 0))]) X dX8_meters_1 (by decide) rfl ?_
  refine hiconst (v := 0) X dX8_meters_2 rfl ?_
  refine histore_n (lv' := [(2, .int 0), (1, .int 0), (0, .ref (q 0))]) X dX8_meters_3 (by decide) rfl ?_
  have e5 : (0 : Int32) = sumN 0 (fun s => if E 0 (8 + 10 * s + 4) = 1 then E 0 (8 + 10 * s + 1) else 0) := by
    simp [sumN, *]
  exact hV_to (ws' := mW G q E) (lv' := [(2, .int 0), (1, .int (sumN 0 (fun s => if E 0 (8 + 10 * s + 4) = 1 then E 0 (8 + 10 * s + 1) else 0))), (0, .ref (q 0))]) (st' := []) rfl (congrArg (fun z => ([(2, .int 0), (1, .int z), (0, .ref (q 0))] : List (Nat × Value))) e5) rfl (L _ 0 (by omega) (Nat.lt_succ_self _))

set_option maxHeartbeats 4000000 in
set_option maxRecDepth 100000 in
theorem kX8_loadOf (l : Launch) (G : hG) (q : Nat → Nat) (E : hF) (n : Nat) (x : Int32) (hn : n ≤ 20) (h4 : E 0 4 = nI n) : hM l G yX8_loadOf wsX8_loadOf ({ frames := 2, cells := 0, slots := 0, locals := 62 }) (mW G q E) [.ref (q 0), .int x] (hR (some (.int (loaE n E x))) (mW G q E)) := by
  refine hM_of (cc := cX8_loadOf) (maxL := 4) (ret := (some .int)) (by decide) rfl (Nat.le_of_ble_eq_true rfl) ?_
  intro pp ee ss mm aa bb me cd X hin
  have iX8 : ∀ w ∈ wsX80, w ∈ wsX8_loadOf := by decide +kernel
  have L : ∀ (d : Nat) (k : Nat), (k ≤ n) → (n - k) < d → hV pp l ee ({ frames := 2, cells := 0, slots := 0, locals := 62 }) ss mm aa bb me cd G (va_A (mW G q E) ss.heap.size) 4 0 0 (MQ bb (hQc G (mW G q E) ss.heap.size (hR (some (.int (loaE n E x))) (mW G q E))) aa ss 0 0 (va_A (mW G q E) ss.heap.size)) (mW G q E) 4 [(3, .int (nI k)), (2, .int (sumN k (fun s => if E 0 (8 + 10 * s + 6) = x then E 0 (8 + 10 * s + 2) else 0))), (0, .ref (q 0)), (1, .int x)] [] := by
    intro d
    induction d with
    | zero =>
      intro k hk hd0
      exact absurd hd0 (Nat.not_lt_zero _)
    | succ d ih =>
      intro k hk hd0
      refine hiload_n X dX8_loadOf_4 rfl ?_
      refine haload_n X dX8_loadOf_5 rfl ?_
      refine hget1 X (T := TX8) (N := 14) iX8 0 rfl rfl 0 (by decide) (by decide +kernel) rfl dX8_loadOf_6 ?_
      refine hiconst (v := 4) X dX8_loadOf_9 rfl ?_
      refine hiald (n := 250) (f := E 0) X 1 rfl 4 rfl (by omega) (by decide) dX8_loadOf_10 ?_
      refine hV_st (st' := [.int (nI n), .int (nI k)]) (congrArg (fun z => Value.int z :: [.int (nI k)]) (h4)) ?_
      refine hicmp_ge (tgt := 44) X dX8_loadOf_11 (by decide) (fun c1 => ?_) (fun c1 => ?_)
      · have ek := i_ge hk (by omega) c1
        refine hiload_n X dX8_loadOf_44 rfl ?_
        refine hiret X dX8_loadOf_45 ⟨congrArg (fun z => some (Value.int z)) (?_ : (sumN k (fun s => if E 0 (8 + 10 * s + 6) = x then E 0 (8 + 10 * s + 2) else 0)) = loaE n E x), ?_⟩
        · simp [loaE, ek]
        rfl
      · have hk1 := i_lt hk (by omega) c1
        refine hiload_n X dX8_loadOf_14 rfl ?_
        refine haload_n X dX8_loadOf_15 rfl ?_
        refine hiload_n X dX8_loadOf_16 rfl ?_
        refine hbipush (v := 6) X dX8_loadOf_17 rfl ?_
        refine hcallV0 (C := RX8) (T := TX8) (N := 14) (As := [.int (nI k), .int (nI 6)]) (rest := [.int (sumN k (fun s => if E 0 (8 + 10 * s + 6) = x then E 0 (8 + 10 * s + 2) else 0))]) (st' := [.int (E 0 (8 + 10 * k + 6)), .int (sumN k (fun s => if E 0 (8 + 10 * s + 6) = x then E 0 (8 + 10 * s + 2) else 0))]) (w := mW G q E) X (q0 := 0) (kX8_part l G q E k 6 (by first | assumption | omega | simp [fs_at, *]) (by first | assumption | omega | simp [fs_at, *])) gX8_loadOf_X8_part rfl (n := 2) (by decide +kernel) (by decide) rfl rfl rfl rfl (Nat.le_of_ble_eq_true rfl) dX8_loadOf_19 rfl rfl (by decide) rfl ?_
        refine hiload_n X dX8_loadOf_22 rfl ?_
        refine hicmp_ne (tgt := 35) X dX8_loadOf_23 (by decide) (fun c2 => ?_) (fun c2 => ?_)
        · refine hiconst (v := 0) X dX8_loadOf_35 rfl ?_
          refine hiadd X dX8_loadOf_36 ?_
          refine histore_n (lv' := [(2, .int ((sumN k (fun s => if E 0 (8 + 10 * s + 6) = x then E 0 (8 + 10 * s + 2) else 0)) + 0)), (3, .int (nI k)), (0, .ref (q 0)), (1, .int x)]) X dX8_loadOf_37 (by decide) rfl ?_
          refine hiinc (v := nI (k + 1)) (lv' := [(3, .int (nI (k + 1))), (2, .int ((sumN k (fun s => if E 0 (8 + 10 * s + 6) = x then E 0 (8 + 10 * s + 2) else 0)) + 0)), (0, .ref (q 0)), (1, .int x)]) X dX8_loadOf_38 rfl (nI_1 _) (by decide) rfl ?_
          refine hgoto (tgt := 4) X dX8_loadOf_41 (by decide) ?_
          have e3 : ((sumN k (fun s => if E 0 (8 + 10 * s + 6) = x then E 0 (8 + 10 * s + 2) else 0)) + 0 : Int32) = sumN (k + 1) (fun s => if E 0 (8 + 10 * s + 6) = x then E 0 (8 + 10 * s + 2) else 0) := by
            simp [sumN, *]
          exact hV_to (ws' := mW G q E) (lv' := [(3, .int (nI (k + 1))), (2, .int (sumN (k + 1) (fun s => if E 0 (8 + 10 * s + 6) = x then E 0 (8 + 10 * s + 2) else 0))), (0, .ref (q 0)), (1, .int x)]) (st' := []) rfl (congrArg (fun z => ([(3, .int (nI (k + 1))), (2, .int z), (0, .ref (q 0)), (1, .int x)] : List (Nat × Value))) e3) rfl (ih (k + 1) (by omega) (by omega))
        · refine haload_n X dX8_loadOf_26 rfl ?_
          refine hiload_n X dX8_loadOf_27 rfl ?_
          refine hiconst (v := 2) X dX8_loadOf_28 rfl ?_
          refine hcallV0 (C := RX8) (T := TX8) (N := 14) (As := [.int (nI k), .int (nI 2)]) (rest := [.int (sumN k (fun s => if E 0 (8 + 10 * s + 6) = x then E 0 (8 + 10 * s + 2) else 0))]) (st' := [.int (E 0 (8 + 10 * k + 2)), .int (sumN k (fun s => if E 0 (8 + 10 * s + 6) = x then E 0 (8 + 10 * s + 2) else 0))]) (w := mW G q E) X (q0 := 0) (kX8_part l G q E k 2 (by first | assumption | omega | simp [fs_at, *]) (by first | assumption | omega | simp [fs_at, *])) gX8_loadOf_X8_part rfl (n := 2) (by decide +kernel) (by decide) rfl rfl rfl rfl (Nat.le_of_ble_eq_true rfl) dX8_loadOf_29 rfl rfl (by decide) rfl ?_
          refine hgoto (tgt := 36) X dX8_loadOf_32 (by decide) ?_
          refine hiadd X dX8_loadOf_36 ?_
          refine histore_n (lv' := [(2, .int ((sumN k (fun s => if E 0 (8 + 10 * s + 6) = x then E 0 (8 + 10 * s + 2) else 0)) + (E 0 (8 + 10 * k + 2)))), (3, .int (nI k)), (0, .ref (q 0)), (1, .int x)]) X dX8_loadOf_37 (by decide) rfl ?_
          refine hiinc (v := nI (k + 1)) (lv' := [(3, .int (nI (k + 1))), (2, .int ((sumN k (fun s => if E 0 (8 + 10 * s + 6) = x then E 0 (8 + 10 * s + 2) else 0)) + (E 0 (8 + 10 * k + 2)))), (0, .ref (q 0)), (1, .int x)]) X dX8_loadOf_38 rfl (nI_1 _) (by decide) rfl ?_
          refine hgoto (tgt := 4) X dX8_loadOf_41 (by decide) ?_
          have e4 : ((sumN k (fun s => if E 0 (8 + 10 * s + 6) = x then E 0 (8 + 10 * s + 2) else 0)) + (E 0 (8 + 10 * k + 2)) : Int32) = sumN (k + 1) (fun s => if E 0 (8 + 10 * s + 6) = x then E 0 (8 + 10 * s + 2) else 0) := by
            simp [sumN, *]
          exact hV_to (ws' := mW G q E) (lv' := [(3, .int (nI (k + 1))), (2, .int (sumN (k + 1) (fun s => if E 0 (8 + 10 * s + 6) = x then E 0 (8 + 10 * s + 2) else 0))), (0, .ref (q 0)), (1, .int x)]) (st' := []) rfl (congrArg (fun z => ([(3, .int (nI (k + 1))), (2, .int z), (0, .ref (q 0)), (1, .int x)] : List (Nat × Value))) e4) rfl (ih (k + 1) (by omega) (by omega))
  refine hiconst (v := 0) X dX8_loadOf_0 rfl ?_
  refine histore_n (lv' := [(2, .int 0), (0, .ref (q 0)), (1, .int x)]) X dX8_loadOf_1 (by decide) rfl ?_
  refine hiconst (v := 0) X dX8_loadOf_2 rfl ?_
  refine histore_n (lv' := [(3, .int 0), (2, .int 0), (0, .ref (q 0)), (1, .int x)]) X dX8_loadOf_3 (by decide) rfl ?_
  have e5 : (0 : Int32) = sumN 0 (fun s => if E 0 (8 + 10 * s + 6) = x then E 0 (8 + 10 * s + 2) else 0) := by
    simp [sumN, *]
  exact hV_to (ws' := mW G q E) (lv' := [(3, .int 0), (2, .int (sumN 0 (fun s => if E 0 (8 + 10 * s + 6) = x then E 0 (8 + 10 * s + 2) else 0))), (0, .ref (q 0)), (1, .int x)]) (st' := []) rfl (congrArg (fun z => ([(3, .int 0), (2, .int z), (0, .ref (q 0)), (1, .int x)] : List (Nat × Value))) e5) rfl (L _ 0 (by omega) (Nat.lt_succ_self _))

