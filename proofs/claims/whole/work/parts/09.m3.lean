set_option maxHeartbeats 4000000 in
set_option maxRecDepth 100000 in
theorem kX8_leastLoaded (l : Launch) (G : hG) (q : Nat → Nat) (E : hF) (n : Nat) (hn : n ≤ 20) (h4 : E 0 4 = nI n) : hM l G yX8_leastLoaded wsX8_leastLoaded ({ frames := 3, cells := 0, slots := 0, locals := 85 }) (mW G q E) [.ref (q 0)] (hR (some (.int (nI (llE n E)))) (mW G q E)) := by
  refine hM_of (cc := cX8_leastLoaded) (maxL := 3) (ret := (some .int)) (by decide) rfl (Nat.le_of_ble_eq_true rfl) ?_
  intro pp ee ss mm aa bb me cd X hin
  refine hiconst (v := 0) X dX8_leastLoaded_0 rfl ?_
  refine histore_n (lv' := [(1, .int 0), (0, .ref (q 0))]) X dX8_leastLoaded_1 (by decide) rfl ?_
  refine hiconst (v := 1) X dX8_leastLoaded_2 rfl ?_
  refine histore_n (lv' := [(2, .int 1), (1, .int 0), (0, .ref (q 0))]) X dX8_leastLoaded_3 (by decide) rfl ?_
  refine hiload_n X dX8_leastLoaded_4 rfl ?_
  refine hiconst (v := 3) X dX8_leastLoaded_5 rfl ?_
  refine hicmp_ge (tgt := 34) X dX8_leastLoaded_6 (by decide) (fun c1 => ?_) (fun c1 => ?_)
  · exact absurd c1 (by decide)
  refine haload_n X dX8_leastLoaded_9 rfl ?_
  refine hiload_n X dX8_leastLoaded_10 rfl ?_
  refine hcallV0 (C := RX8) (T := TX8) (N := 14) (As := [.int 1]) (rest := []) (st' := [.int (loaE n E 1)]) (w := mW G q E) X (q0 := 0) (kX8_loadOf l G q E n 1 (by first | assumption | omega | simp [fs_at, *]) (by first | assumption | omega | simp [fs_at, *])) gX8_leastLoaded_X8_loadOf rfl (n := 1) (by decide +kernel) (by decide) rfl rfl rfl rfl (Nat.le_of_ble_eq_true rfl) dX8_leastLoaded_11 rfl rfl (by decide) rfl ?_
  refine haload_n X dX8_leastLoaded_14 rfl ?_
  refine hiload_n X dX8_leastLoaded_15 rfl ?_
  refine hcallV0 (C := RX8) (T := TX8) (N := 14) (As := [.int 0]) (rest := [.int (loaE n E 1)]) (st' := [.int (loaE n E 0), .int (loaE n E 1)]) (w := mW G q E) X (q0 := 0) (kX8_loadOf l G q E n 0 (by first | assumption | omega | simp [fs_at, *]) (by first | assumption | omega | simp [fs_at, *])) gX8_leastLoaded_X8_loadOf rfl (n := 1) (by decide +kernel) (by decide) rfl rfl rfl rfl (Nat.le_of_ble_eq_true rfl) dX8_leastLoaded_16 rfl rfl (by decide) rfl ?_
  refine hicmp_ge (tgt := 26) X dX8_leastLoaded_19 (by decide) (fun c2 => ?_) (fun c2 => ?_)
  · refine hiload_n X dX8_leastLoaded_26 rfl ?_
    refine histore_n (lv' := [(1, .int 0), (2, .int 1), (0, .ref (q 0))]) X dX8_leastLoaded_27 (by decide) rfl ?_
    refine hiinc (v := 2) (lv' := [(2, .int 2), (1, .int 0), (0, .ref (q 0))]) X dX8_leastLoaded_28 rfl rfl (by decide) rfl ?_
    refine hgoto (tgt := 4) X dX8_leastLoaded_31 (by decide) ?_
    refine hiload_n X dX8_leastLoaded_4 rfl ?_
    refine hiconst (v := 3) X dX8_leastLoaded_5 rfl ?_
    refine hicmp_ge (tgt := 34) X dX8_leastLoaded_6 (by decide) (fun c3 => ?_) (fun c3 => ?_)
    · exact absurd c3 (by decide)
    refine haload_n X dX8_leastLoaded_9 rfl ?_
    refine hiload_n X dX8_leastLoaded_10 rfl ?_
    refine hcallV0 (C := RX8) (T := TX8) (N := 14) (As := [.int 2]) (rest := []) (st' := [.int (loaE n E 2)]) (w := mW G q E) X (q0 := 0) (kX8_loadOf l G q E n 2 (by first | assumption | omega | simp [fs_at, *]) (by first | assumption | omega | simp [fs_at, *])) gX8_leastLoaded_X8_loadOf rfl (n := 1) (by decide +kernel) (by decide) rfl rfl rfl rfl (Nat.le_of_ble_eq_true rfl) dX8_leastLoaded_11 rfl rfl (by decide) rfl ?_
    refine haload_n X dX8_leastLoaded_14 rfl ?_
    refine hiload_n X dX8_leastLoaded_15 rfl ?_
    refine hcallV0 (C := RX8) (T := TX8) (N := 14) (As := [.int 0]) (rest := [.int (loaE n E 2)]) (st' := [.int (loaE n E 0), .int (loaE n E 2)]) (w := mW G q E) X (q0 := 0) (kX8_loadOf l G q E n 0 (by first | assumption | omega | simp [fs_at, *]) (by first | assumption | omega | simp [fs_at, *])) gX8_leastLoaded_X8_loadOf rfl (n := 1) (by decide +kernel) (by decide) rfl rfl rfl rfl (Nat.le_of_ble_eq_true rfl) dX8_leastLoaded_16 rfl rfl (by decide) rfl ?_
    refine hicmp_ge (tgt := 26) X dX8_leastLoaded_19 (by decide) (fun c4 => ?_) (fun c4 => ?_)
    · refine hiload_n X dX8_leastLoaded_26 rfl ?_
      refine histore_n (lv' := [(1, .int 0), (2, .int 2), (0, .ref (q 0))]) X dX8_leastLoaded_27 (by decide) rfl ?_
      refine hiinc (v := 3) (lv' := [(2, .int 3), (1, .int 0), (0, .ref (q 0))]) X dX8_leastLoaded_28 rfl rfl (by decide) rfl ?_
      refine hgoto (tgt := 4) X dX8_leastLoaded_31 (by decide) ?_
      refine hiload_n X dX8_leastLoaded_4 rfl ?_
      refine hiconst (v := 3) X dX8_leastLoaded_5 rfl ?_
      refine hicmp_ge (tgt := 34) X dX8_leastLoaded_6 (by decide) (fun c5 => ?_) (fun c5 => ?_)
      rotate_left
      · exact absurd (by decide) c5
      refine hiload_n X dX8_leastLoaded_34 rfl ?_
      refine hiret X dX8_leastLoaded_35 ⟨congrArg (fun z => some (Value.int z)) (?_ : 0 = nI (llE n E)), ?_⟩
      · simp [llE, nI_0, show nI 1 = 1 from rfl, show nI 2 = 2 from rfl, c2, c4]
      rfl
    · refine hiload_n X dX8_leastLoaded_22 rfl ?_
      refine hgoto (tgt := 27) X dX8_leastLoaded_23 (by decide) ?_
      refine histore_n (lv' := [(1, .int 2), (2, .int 2), (0, .ref (q 0))]) X dX8_leastLoaded_27 (by decide) rfl ?_
      refine hiinc (v := 3) (lv' := [(2, .int 3), (1, .int 2), (0, .ref (q 0))]) X dX8_leastLoaded_28 rfl rfl (by decide) rfl ?_
      refine hgoto (tgt := 4) X dX8_leastLoaded_31 (by decide) ?_
      refine hiload_n X dX8_leastLoaded_4 rfl ?_
      refine hiconst (v := 3) X dX8_leastLoaded_5 rfl ?_
      refine hicmp_ge (tgt := 34) X dX8_leastLoaded_6 (by decide) (fun c6 => ?_) (fun c6 => ?_)
      rotate_left
      · exact absurd (by decide) c6
      refine hiload_n X dX8_leastLoaded_34 rfl ?_
      refine hiret X dX8_leastLoaded_35 ⟨congrArg (fun z => some (Value.int z)) (?_ : 2 = nI (llE n E)), ?_⟩
      · simp [llE, nI_0, show nI 1 = 1 from rfl, show nI 2 = 2 from rfl, c2, c4]
      rfl
  · refine hiload_n X dX8_leastLoaded_22 rfl ?_
    refine hgoto (tgt := 27) X dX8_leastLoaded_23 (by decide) ?_
    refine histore_n (lv' := [(1, .int 1), (2, .int 1), (0, .ref (q 0))]) X dX8_leastLoaded_27 (by decide) rfl ?_
    refine hiinc (v := 2) (lv' := [(2, .int 2), (1, .int 1), (0, .ref (q 0))]) X dX8_leastLoaded_28 rfl rfl (by decide) rfl ?_
    refine hgoto (tgt := 4) X dX8_leastLoaded_31 (by decide) ?_
    refine hiload_n X dX8_leastLoaded_4 rfl ?_
    refine hiconst (v := 3) X dX8_leastLoaded_5 rfl ?_
    refine hicmp_ge (tgt := 34) X dX8_leastLoaded_6 (by decide) (fun c7 => ?_) (fun c7 => ?_)
    · exact absurd c7 (by decide)
    refine haload_n X dX8_leastLoaded_9 rfl ?_
    refine hiload_n X dX8_leastLoaded_10 rfl ?_
    refine hcallV0 (C := RX8) (T := TX8) (N := 14) (As := [.int 2]) (rest := []) (st' := [.int (loaE n E 2)]) (w := mW G q E) X (q0 := 0) (kX8_loadOf l G q E n 2 (by first | assumption | omega | simp [fs_at, *]) (by first | assumption | omega | simp [fs_at, *])) gX8_leastLoaded_X8_loadOf rfl (n := 1) (by decide +kernel) (by decide) rfl rfl rfl rfl (Nat.le_of_ble_eq_true rfl) dX8_leastLoaded_11 rfl rfl (by decide) rfl ?_
    refine haload_n X dX8_leastLoaded_14 rfl ?_
    refine hiload_n X dX8_leastLoaded_15 rfl ?_
    refine hcallV0 (C := RX8) (T := TX8) (N := 14) (As := [.int 1]) (rest := [.int (loaE n E 2)]) (st' := [.int (loaE n E 1), .int (loaE n E 2)]) (w := mW G q E) X (q0 := 0) (kX8_loadOf l G q E n 1 (by first | assumption | omega | simp [fs_at, *]) (by first | assumption | omega | simp [fs_at, *])) gX8_leastLoaded_X8_loadOf rfl (n := 1) (by decide +kernel) (by decide) rfl rfl rfl rfl (Nat.le_of_ble_eq_true rfl) dX8_leastLoaded_16 rfl rfl (by decide) rfl ?_
    refine hicmp_ge (tgt := 26) X dX8_leastLoaded_19 (by decide) (fun c8 => ?_) (fun c8 => ?_)
    · refine hiload_n X dX8_leastLoaded_26 rfl ?_
      refine histore_n (lv' := [(1, .int 1), (2, .int 2), (0, .ref (q 0))]) X dX8_leastLoaded_27 (by decide) rfl ?_
      refine hiinc (v := 3) (lv' := [(2, .int 3), (1, .int 1), (0, .ref (q 0))]) X dX8_leastLoaded_28 rfl rfl (by decide) rfl ?_
      refine hgoto (tgt := 4) X dX8_leastLoaded_31 (by decide) ?_
      refine hiload_n X dX8_leastLoaded_4 rfl ?_
      refine hiconst (v := 3) X dX8_leastLoaded_5 rfl ?_
      refine hicmp_ge (tgt := 34) X dX8_leastLoaded_6 (by decide) (fun c9 => ?_) (fun c9 => ?_)
      rotate_left
      · exact absurd (by decide) c9
      refine hiload_n X dX8_leastLoaded_34 rfl ?_
      refine hiret X dX8_leastLoaded_35 ⟨congrArg (fun z => some (Value.int z)) (?_ : 1 = nI (llE n E)), ?_⟩
      · simp [llE, nI_0, show nI 1 = 1 from rfl, show nI 2 = 2 from rfl, c2, c8]
      rfl
    · refine hiload_n X dX8_leastLoaded_22 rfl ?_
      refine hgoto (tgt := 27) X dX8_leastLoaded_23 (by decide) ?_
      refine histore_n (lv' := [(1, .int 2), (2, .int 2), (0, .ref (q 0))]) X dX8_leastLoaded_27 (by decide) rfl ?_
      refine hiinc (v := 3) (lv' := [(2, .int 3), (1, .int 2), (0, .ref (q 0))]) X dX8_leastLoaded_28 rfl rfl (by decide) rfl ?_
      refine hgoto (tgt := 4) X dX8_leastLoaded_31 (by decide) ?_
      refine hiload_n X dX8_leastLoaded_4 rfl ?_
      refine hiconst (v := 3) X dX8_leastLoaded_5 rfl ?_
      refine hicmp_ge (tgt := 34) X dX8_leastLoaded_6 (by decide) (fun c10 => ?_) (fun c10 => ?_)
      rotate_left
      · exact absurd (by decide) c10
      refine hiload_n X dX8_leastLoaded_34 rfl ?_
      refine hiret X dX8_leastLoaded_35 ⟨congrArg (fun z => some (Value.int z)) (?_ : 2 = nI (llE n E)), ?_⟩
      · simp [llE, nI_0, show nI 1 = 1 from rfl, show nI 2 = 2 from rfl, c2, c8]
      rfl

set_option maxHeartbeats 4000000 in
set_option maxRecDepth 100000 in
theorem kX8_finishes (l : Launch) (G : hG) (q : Nat → Nat) (E : hF) (n c j s : Nat) (h : mOk n c E) (hj : j < 6) (hs : s < n) : hM l G yX8_finishes wsX8_finishes ({ frames := 4, cells := 0, slots := 0, locals := 107 }) (mW G q E) [.ref (q 0), .int (nI j), .int (nI s)] (hR none (mW G q (fiE n E j s))) := by
  refine hM_of (cc := cX8_finishes) (maxL := 4) (ret := none) (by decide) rfl (Nat.le_of_ble_eq_true rfl) ?_
  intro pp ee ss mm aa bb me cd X hin
  have iX8 : ∀ w ∈ wsX80, w ∈ wsX8_finishes := by decide +kernel
  have hn := h.hn
  refine haload_n X dX8_finishes_0 rfl ?_
  refine hiload_n X dX8_finishes_1 rfl ?_
  refine hiconst (v := 2) X dX8_finishes_2 rfl ?_
  refine hbipush (v := (-6)) X dX8_finishes_3 rfl ?_
  refine hcallV0 (C := RX8) (T := TX8) (N := 14) (As := [.int (nI j), .int (nI 2), .int (-6)]) (rest := []) (st' := []) (w := mW G q (fs E 0 (208 + 7 * j + 2) (-6))) X (q0 := 0) (kX8_setCrew l G q E j 2 (-6) (by first | assumption | omega | exact h.h4 | exact (mfiA h (k := j) hs).h4 | exact ((mfiA h (k := j) hs).part _ hs (by decide) (by decide) (by decide)).h4) (by first | assumption | omega | exact h.h4 | exact (mfiA h (k := j) hs).h4 | exact ((mfiA h (k := j) hs).part _ hs (by decide) (by decide) (by decide)).h4)) gX8_finishes_X8_setCrew rfl (n := 3) (by decide +kernel) (by decide) rfl rfl rfl rfl (Nat.le_of_ble_eq_true rfl) dX8_finishes_5 rfl rfl (by decide) rfl ?_
  refine haload_n X dX8_finishes_8 rfl ?_
  refine hiload_n X dX8_finishes_9 rfl ?_
  refine hbipush (v := 7) X dX8_finishes_10 rfl ?_
  refine hbipush (v := (-6)) X dX8_finishes_12 rfl ?_
  refine hcallV0 (C := RX8) (T := TX8) (N := 14) (As := [.int (nI s), .int (nI 7), .int (-6)]) (rest := []) (st' := []) (w := mW G q (fs (fs E 0 (208 + 7 * j + 2) (-6)) 0 (8 + 10 * s + 7) (-6))) X (q0 := 0) (kX8_setPart l G q (fs E 0 (208 + 7 * j + 2) (-6)) s 7 (-6) (by first | assumption | omega | exact h.h4 | exact (mfiA h (k := j) hs).h4 | exact ((mfiA h (k := j) hs).part _ hs (by decide) (by decide) (by decide)).h4) (by first | assumption | omega | exact h.h4 | exact (mfiA h (k := j) hs).h4 | exact ((mfiA h (k := j) hs).part _ hs (by decide) (by decide) (by decide)).h4)) gX8_finishes_X8_setPart rfl (n := 3) (by decide +kernel) (by decide) rfl rfl rfl rfl (Nat.le_of_ble_eq_true rfl) dX8_finishes_14 rfl rfl (by decide) rfl ?_
  refine haload_n X dX8_finishes_17 rfl ?_
  refine hiload_n X dX8_finishes_18 rfl ?_
  refine hiconst (v := 3) X dX8_finishes_19 rfl ?_
  refine hcallV0 (C := RX8) (T := TX8) (N := 14) (As := [.int (nI s), .int 3]) (rest := []) (st' := [.int (bI ((fs (fs E 0 (208 + 7 * j + 2) (-6)) 0 (8 + 10 * s + 7) (-6)) 0 (8 + 10 * s + 4) = 3))]) (w := mW G q (fs (fs E 0 (208 + 7 * j + 2) (-6)) 0 (8 + 10 * s + 7) (-6))) X (q0 := 0) (kX8_isHow l G q (fs (fs E 0 (208 + 7 * j + 2) (-6)) 0 (8 + 10 * s + 7) (-6)) s 3 (by first | assumption | omega | exact h.h4 | exact (mfiA h (k := j) hs).h4 | exact ((mfiA h (k := j) hs).part _ hs (by decide) (by decide) (by decide)).h4)) gX8_finishes_X8_isHow rfl (n := 2) (by decide +kernel) (by decide) rfl rfl rfl rfl (Nat.le_of_ble_eq_true rfl) dX8_finishes_20 rfl rfl (by decide) rfl ?_
  have r1 : ((fs (fs E 0 (208 + 7 * j + 2) (-6)) 0 (8 + 10 * s + 7) (-6)) 0 (8 + 10 * s + 4) : Int32) = E 0 (8 + 10 * s + 4) := by rw [fs_at, if_neg (by omega), fs_at, if_neg (by omega)]
  refine hV_st (st' := [.int (bI (E 0 (8 + 10 * s + 4) = 3))]) (by rw [r1]) ?_
  refine hif_eqB (tgt := 89) X dX8_finishes_23 (by decide) (fun c2 => ?_) (fun c2 => ?_)
  · refine haload_n X dX8_finishes_89 rfl ?_
    refine hiload_n X dX8_finishes_90 rfl ?_
    refine hiconst (v := 4) X dX8_finishes_91 rfl ?_
    refine hbipush (v := 6) X dX8_finishes_92 rfl ?_
    refine hcallV0 (C := RX8) (T := TX8) (N := 14) (As := [.int (nI s), .int (nI 4), .int 6]) (rest := []) (st' := []) (w := mW G q (fs (fs (fs E 0 (208 + 7 * j + 2) (-6)) 0 (8 + 10 * s + 7) (-6)) 0 (8 + 10 * s + 4) 6)) X (q0 := 0) (kX8_setPart l G q (fs (fs E 0 (208 + 7 * j + 2) (-6)) 0 (8 + 10 * s + 7) (-6)) s 4 6 (by first | assumption | omega | exact h.h4 | exact (mfiA h (k := j) hs).h4 | exact ((mfiA h (k := j) hs).part _ hs (by decide) (by decide) (by decide)).h4) (by first | assumption | omega | exact h.h4 | exact (mfiA h (k := j) hs).h4 | exact ((mfiA h (k := j) hs).part _ hs (by decide) (by decide) (by decide)).h4)) gX8_finishes_X8_setPart rfl (n := 3) (by decide +kernel) (by decide) rfl rfl rfl rfl (Nat.le_of_ble_eq_true rfl) dX8_finishes_94 rfl rfl (by decide) rfl ?_
    refine haload_n X dX8_finishes_97 rfl ?_
    refine hiload_n X dX8_finishes_98 rfl ?_
    refine hbipush (v := 6) X dX8_finishes_99 rfl ?_
    refine haload_n X dX8_finishes_101 rfl ?_
    refine hiload_n X dX8_finishes_102 rfl ?_
    refine hbipush (v := 6) X dX8_finishes_103 rfl ?_
    refine hcallV0 (C := RX8) (T := TX8) (N := 14) (As := [.int (nI j), .int (nI 6)]) (rest := [.int 6, .int (nI j), .ref (q 0)]) (st' := [.int ((fs (fs (fs E 0 (208 + 7 * j + 2) (-6)) 0 (8 + 10 * s + 7) (-6)) 0 (8 + 10 * s + 4) 6) 0 (208 + 7 * j + 6)), .int 6, .int (nI j), .ref (q 0)]) (w := mW G q (fs (fs (fs E 0 (208 + 7 * j + 2) (-6)) 0 (8 + 10 * s + 7) (-6)) 0 (8 + 10 * s + 4) 6)) X (q0 := 0) (kX8_ofCrewPart l G q (fs (fs (fs E 0 (208 + 7 * j + 2) (-6)) 0 (8 + 10 * s + 7) (-6)) 0 (8 + 10 * s + 4) 6) j 6 (by first | assumption | omega | exact h.h4 | exact (mfiA h (k := j) hs).h4 | exact ((mfiA h (k := j) hs).part _ hs (by decide) (by decide) (by decide)).h4) (by first | assumption | omega | exact h.h4 | exact (mfiA h (k := j) hs).h4 | exact ((mfiA h (k := j) hs).part _ hs (by decide) (by decide) (by decide)).h4)) gX8_finishes_X8_ofCrewPart rfl (n := 2) (by decide +kernel) (by decide) rfl rfl rfl rfl (Nat.le_of_ble_eq_true rfl) dX8_finishes_105 rfl rfl (by decide) rfl ?_
    have r3 : ((fs (fs (fs E 0 (208 + 7 * j + 2) (-6)) 0 (8 + 10 * s + 7) (-6)) 0 (8 + 10 * s + 4) 6) 0 (208 + 7 * j + 6) : Int32) = E 0 (208 + 7 * j + 6) := by rw [fs_at, if_neg (by omega), fs_at, if_neg (by omega), fs_at, if_neg (by omega)]
    refine hV_st (st' := [.int (E 0 (208 + 7 * j + 6)), .int 6, .int (nI j), .ref (q 0)]) (congrArg (fun z => Value.int z :: [.int 6, .int (nI j), .ref (q 0)]) r3) ?_
    refine hiconst (v := 1) X dX8_finishes_108 rfl ?_
    refine hiadd X dX8_finishes_109 ?_
    refine hcallV0 (C := RX8) (T := TX8) (N := 14) (As := [.int (nI j), .int (nI 6), .int ((E 0 (208 + 7 * j + 6)) + 1)]) (rest := []) (st' := []) (w := mW G q (fs (fs (fs (fs E 0 (208 + 7 * j + 2) (-6)) 0 (8 + 10 * s + 7) (-6)) 0 (8 + 10 * s + 4) 6) 0 (208 + 7 * j + 6) ((E 0 (208 + 7 * j + 6)) + 1))) X (q0 := 0) (kX8_setCrew l G q (fs (fs (fs E 0 (208 + 7 * j + 2) (-6)) 0 (8 + 10 * s + 7) (-6)) 0 (8 + 10 * s + 4) 6) j 6 ((E 0 (208 + 7 * j + 6)) + 1) (by first | assumption | omega | exact h.h4 | exact (mfiA h (k := j) hs).h4 | exact ((mfiA h (k := j) hs).part _ hs (by decide) (by decide) (by decide)).h4) (by first | assumption | omega | exact h.h4 | exact (mfiA h (k := j) hs).h4 | exact ((mfiA h (k := j) hs).part _ hs (by decide) (by decide) (by decide)).h4)) gX8_finishes_X8_setCrew rfl (n := 3) (by decide +kernel) (by decide) rfl rfl rfl rfl (Nat.le_of_ble_eq_true rfl) dX8_finishes_110 rfl rfl (by decide) rfl ?_
    refine haload_n X dX8_finishes_113 rfl ?_
    refine hget1 X (T := TX8) (N := 14) iX8 0 rfl rfl 0 (by decide) (by decide +kernel) rfl dX8_finishes_114 ?_
    refine hbipush (v := 7) X dX8_finishes_117 rfl ?_
    refine hdup2 X dX8_finishes_119 rfl rfl ?_
    refine hiald (n := 250) (f := (fs (fs (fs (fs E 0 (208 + 7 * j + 2) (-6)) 0 (8 + 10 * s + 7) (-6)) 0 (8 + 10 * s + 4) 6) 0 (208 + 7 * j + 6) ((E 0 (208 + 7 * j + 6)) + 1)) 0) X 1 rfl 7 rfl (by omega) (by decide) dX8_finishes_120 ?_
    have r4 : ((fs (fs (fs (fs E 0 (208 + 7 * j + 2) (-6)) 0 (8 + 10 * s + 7) (-6)) 0 (8 + 10 * s + 4) 6) 0 (208 + 7 * j + 6) ((E 0 (208 + 7 * j + 6)) + 1)) 0 7 : Int32) = E 0 7 := by rw [fs_at, if_neg (by omega), fs_at, if_neg (by omega), fs_at, if_neg (by omega), fs_at, if_neg (by omega)]
    refine hV_st (st' := [.int (E 0 7), .int 7, .ref (q 1)]) (congrArg (fun z => Value.int z :: [.int 7, .ref (q 1)]) r4) ?_
    refine hiload_n X dX8_finishes_121 rfl ?_
    refine haload_n X dX8_finishes_122 rfl ?_
    refine hget1 X (T := TX8) (N := 14) iX8 0 rfl rfl 0 (by decide) (by decide +kernel) rfl dX8_finishes_123 ?_
    refine hiconst (v := 3) X dX8_finishes_126 rfl ?_
    refine hiald (n := 250) (f := (fs (fs (fs (fs E 0 (208 + 7 * j + 2) (-6)) 0 (8 + 10 * s + 7) (-6)) 0 (8 + 10 * s + 4) 6) 0 (208 + 7 * j + 6) ((E 0 (208 + 7 * j + 6)) + 1)) 0) X 1 rfl 3 rfl (by omega) (by decide) dX8_finishes_127 ?_
    have r5 : ((fs (fs (fs (fs E 0 (208 + 7 * j + 2) (-6)) 0 (8 + 10 * s + 7) (-6)) 0 (8 + 10 * s + 4) 6) 0 (208 + 7 * j + 6) ((E 0 (208 + 7 * j + 6)) + 1)) 0 3 : Int32) = E 0 3 := by rw [fs_at, if_neg (by omega), fs_at, if_neg (by omega), fs_at, if_neg (by omega), fs_at, if_neg (by omega)]
    refine hV_st (st' := [.int (E 0 3), .int (nI s), .int (E 0 7), .int 7, .ref (q 1)]) (congrArg (fun z => Value.int z :: [.int (nI s), .int (E 0 7), .int 7, .ref (q 1)]) r5) ?_
    refine hiadd X dX8_finishes_128 ?_
    refine hiconst (v := 4) X dX8_finishes_129 rfl ?_
    refine hirem X dX8_finishes_130 (by decide) ?_
    refine hif_ne (tgt := 138) X dX8_finishes_131 (by decide) (fun c6 => ?_) (fun c6 => ?_)
    · refine hiconst (v := 0) X dX8_finishes_138 rfl ?_
      refine hiadd X dX8_finishes_139 ?_
      refine hiast (n := 250) (f := (fs (fs (fs (fs E 0 (208 + 7 * j + 2) (-6)) 0 (8 + 10 * s + 7) (-6)) 0 (8 + 10 * s + 4) 6) 0 (208 + 7 * j + 6) ((E 0 (208 + 7 * j + 6)) + 1)) 0) X 1 rfl 7 rfl (by omega) (by decide) dX8_finishes_140 (ws' := mW G q (fs (fs (fs (fs (fs E 0 (208 + 7 * j + 2) (-6)) 0 (8 + 10 * s + 7) (-6)) 0 (8 + 10 * s + 4) 6) 0 (208 + 7 * j + 6) ((E 0 (208 + 7 * j + 6)) + 1)) 0 7 ((E 0 7) + 0))) rfl ?_
      refine hvret X dX8_finishes_141 ⟨rfl, ?_⟩
      refine congrArg (mW G q) (?_ : (fs (fs (fs (fs (fs E 0 (208 + 7 * j + 2) (-6)) 0 (8 + 10 * s + 7) (-6)) 0 (8 + 10 * s + 4) 6) 0 (208 + 7 * j + 6) ((E 0 (208 + 7 * j + 6)) + 1)) 0 7 ((E 0 7) + 0) : hF) = fiE n E j s)
      simp [fiE, fiA, fiB, c2, c6]
    · refine hiconst (v := 1) X dX8_finishes_134 rfl ?_
      refine hgoto (tgt := 139) X dX8_finishes_135 (by decide) ?_
      refine hiadd X dX8_finishes_139 ?_
      refine hiast (n := 250) (f := (fs (fs (fs (fs E 0 (208 + 7 * j + 2) (-6)) 0 (8 + 10 * s + 7) (-6)) 0 (8 + 10 * s + 4) 6) 0 (208 + 7 * j + 6) ((E 0 (208 + 7 * j + 6)) + 1)) 0) X 1 rfl 7 rfl (by omega) (by decide) dX8_finishes_140 (ws' := mW G q (fs (fs (fs (fs (fs E 0 (208 + 7 * j + 2) (-6)) 0 (8 + 10 * s + 7) (-6)) 0 (8 + 10 * s + 4) 6) 0 (208 + 7 * j + 6) ((E 0 (208 + 7 * j + 6)) + 1)) 0 7 ((E 0 7) + 1))) rfl ?_
      refine hvret X dX8_finishes_141 ⟨rfl, ?_⟩
      refine congrArg (mW G q) (?_ : (fs (fs (fs (fs (fs E 0 (208 + 7 * j + 2) (-6)) 0 (8 + 10 * s + 7) (-6)) 0 (8 + 10 * s + 4) 6) 0 (208 + 7 * j + 6) ((E 0 (208 + 7 * j + 6)) + 1)) 0 7 ((E 0 7) + 1) : hF) = fiE n E j s)
      simp [fiE, fiA, fiB, c2, c6]
  · refine haload_n X dX8_finishes_26 rfl ?_
    refine hcallV0 (C := RX8) (T := TX8) (N := 14) (As := []) (rest := []) (st' := [.int (nI (llE n (fs (fs E 0 (208 + 7 * j + 2) (-6)) 0 (8 + 10 * s + 7) (-6))))]) (w := mW G q (fs (fs E 0 (208 + 7 * j + 2) (-6)) 0 (8 + 10 * s + 7) (-6))) X (q0 := 0) (kX8_leastLoaded l G q (fs (fs E 0 (208 + 7 * j + 2) (-6)) 0 (8 + 10 * s + 7) (-6)) n (by first | assumption | omega | exact h.h4 | exact (mfiA h (k := j) hs).h4 | exact ((mfiA h (k := j) hs).part _ hs (by decide) (by decide) (by decide)).h4) (by first | assumption | omega | exact h.h4 | exact (mfiA h (k := j) hs).h4 | exact ((mfiA h (k := j) hs).part _ hs (by decide) (by decide) (by decide)).h4)) gX8_finishes_X8_leastLoaded rfl (n := 0) (by decide +kernel) (by decide) rfl rfl rfl rfl (Nat.le_of_ble_eq_true rfl) dX8_finishes_27 rfl rfl (by decide) rfl ?_
    refine histore_n (lv' := [(3, .int (nI (llE n (fs (fs E 0 (208 + 7 * j + 2) (-6)) 0 (8 + 10 * s + 7) (-6))))), (0, .ref (q 0)), (1, .int (nI j)), (2, .int (nI s))]) X dX8_finishes_30 (by decide) rfl ?_
    refine haload_n X dX8_finishes_31 rfl ?_
    refine hiload_n X dX8_finishes_32 rfl ?_
    refine hiconst (v := 4) X dX8_finishes_33 rfl ?_
    refine hiconst (v := 4) X dX8_finishes_34 rfl ?_
    refine hcallV0 (C := RX8) (T := TX8) (N := 14) (As := [.int (nI s), .int (nI 4), .int 4]) (rest := []) (st' := []) (w := mW G q (fs (fs (fs E 0 (208 + 7 * j + 2) (-6)) 0 (8 + 10 * s + 7) (-6)) 0 (8 + 10 * s + 4) 4)) X (q0 := 0) (kX8_setPart l G q (fs (fs E 0 (208 + 7 * j + 2) (-6)) 0 (8 + 10 * s + 7) (-6)) s 4 4 (by first | assumption | omega | exact h.h4 | exact (mfiA h (k := j) hs).h4 | exact ((mfiA h (k := j) hs).part _ hs (by decide) (by decide) (by decide)).h4) (by first | assumption | omega | exact h.h4 | exact (mfiA h (k := j) hs).h4 | exact ((mfiA h (k := j) hs).part _ hs (by decide) (by decide) (by decide)).h4)) gX8_finishes_X8_setPart rfl (n := 3) (by decide +kernel) (by decide) rfl rfl rfl rfl (Nat.le_of_ble_eq_true rfl) dX8_finishes_35 rfl rfl (by decide) rfl ?_
    refine haload_n X dX8_finishes_38 rfl ?_
    refine hiload_n X dX8_finishes_39 rfl ?_
    refine hbipush (v := 6) X dX8_finishes_40 rfl ?_
    refine haload_n X dX8_finishes_42 rfl ?_
    refine hiload_n X dX8_finishes_43 rfl ?_
    refine hcallV0 (C := RX8) (T := TX8) (N := 14) (As := [.int (nI (llE n (fs (fs E 0 (208 + 7 * j + 2) (-6)) 0 (8 + 10 * s + 7) (-6))))]) (rest := [.int 6, .int (nI s), .ref (q 0)]) (st' := [.int (loaE n (fs (fs (fs E 0 (208 + 7 * j + 2) (-6)) 0 (8 + 10 * s + 7) (-6)) 0 (8 + 10 * s + 4) 4) (nI (llE n (fs (fs E 0 (208 + 7 * j + 2) (-6)) 0 (8 + 10 * s + 7) (-6))))), .int 6, .int (nI s), .ref (q 0)]) (w := mW G q (fs (fs (fs E 0 (208 + 7 * j + 2) (-6)) 0 (8 + 10 * s + 7) (-6)) 0 (8 + 10 * s + 4) 4)) X (q0 := 0) (kX8_loadOf l G q (fs (fs (fs E 0 (208 + 7 * j + 2) (-6)) 0 (8 + 10 * s + 7) (-6)) 0 (8 + 10 * s + 4) 4) n (nI (llE n (fs (fs E 0 (208 + 7 * j + 2) (-6)) 0 (8 + 10 * s + 7) (-6)))) (by first | assumption | omega | exact h.h4 | exact (mfiA h (k := j) hs).h4 | exact ((mfiA h (k := j) hs).part _ hs (by decide) (by decide) (by decide)).h4) (by first | assumption | omega | exact h.h4 | exact (mfiA h (k := j) hs).h4 | exact ((mfiA h (k := j) hs).part _ hs (by decide) (by decide) (by decide)).h4)) gX8_finishes_X8_loadOf rfl (n := 1) (by decide +kernel) (by decide) rfl rfl rfl rfl (Nat.le_of_ble_eq_true rfl) dX8_finishes_44 rfl rfl (by decide) rfl ?_
    refine haload_n X dX8_finishes_47 rfl ?_
    refine hiload_n X dX8_finishes_48 rfl ?_
    refine hiconst (v := 2) X dX8_finishes_49 rfl ?_
    refine hcallV0 (C := RX8) (T := TX8) (N := 14) (As := [.int (nI s), .int (nI 2)]) (rest := [.int (loaE n (fs (fs (fs E 0 (208 + 7 * j + 2) (-6)) 0 (8 + 10 * s + 7) (-6)) 0 (8 + 10 * s + 4) 4) (nI (llE n (fs (fs E 0 (208 + 7 * j + 2) (-6)) 0 (8 + 10 * s + 7) (-6))))), .int 6, .int (nI s), .ref (q 0)]) (st' := [.int ((fs (fs (fs E 0 (208 + 7 * j + 2) (-6)) 0 (8 + 10 * s + 7) (-6)) 0 (8 + 10 * s + 4) 4) 0 (8 + 10 * s + 2)), .int (loaE n (fs (fs (fs E 0 (208 + 7 * j + 2) (-6)) 0 (8 + 10 * s + 7) (-6)) 0 (8 + 10 * s + 4) 4) (nI (llE n (fs (fs E 0 (208 + 7 * j + 2) (-6)) 0 (8 + 10 * s + 7) (-6))))), .int 6, .int (nI s), .ref (q 0)]) (w := mW G q (fs (fs (fs E 0 (208 + 7 * j + 2) (-6)) 0 (8 + 10 * s + 7) (-6)) 0 (8 + 10 * s + 4) 4)) X (q0 := 0) (kX8_part l G q (fs (fs (fs E 0 (208 + 7 * j + 2) (-6)) 0 (8 + 10 * s + 7) (-6)) 0 (8 + 10 * s + 4) 4) s 2 (by first | assumption | omega | exact h.h4 | exact (mfiA h (k := j) hs).h4 | exact ((mfiA h (k := j) hs).part _ hs (by decide) (by decide) (by decide)).h4) (by first | assumption | omega | exact h.h4 | exact (mfiA h (k := j) hs).h4 | exact ((mfiA h (k := j) hs).part _ hs (by decide) (by decide) (by decide)).h4)) gX8_finishes_X8_part rfl (n := 2) (by decide +kernel) (by decide) rfl rfl rfl rfl (Nat.le_of_ble_eq_true rfl) dX8_finishes_50 rfl rfl (by decide) rfl ?_
    have r7 : ((fs (fs (fs E 0 (208 + 7 * j + 2) (-6)) 0 (8 + 10 * s + 7) (-6)) 0 (8 + 10 * s + 4) 4) 0 (8 + 10 * s + 2) : Int32) = E 0 (8 + 10 * s + 2) := by rw [fs_at, if_neg (by omega), fs_at, if_neg (by omega), fs_at, if_neg (by omega)]
    refine hV_st (st' := [.int (E 0 (8 + 10 * s + 2)), .int (loaE n (fs (fs (fs E 0 (208 + 7 * j + 2) (-6)) 0 (8 + 10 * s + 7) (-6)) 0 (8 + 10 * s + 4) 4) (nI (llE n (fs (fs E 0 (208 + 7 * j + 2) (-6)) 0 (8 + 10 * s + 7) (-6))))), .int 6, .int (nI s), .ref (q 0)]) (congrArg (fun z => Value.int z :: [.int (loaE n (fs (fs (fs E 0 (208 + 7 * j + 2) (-6)) 0 (8 + 10 * s + 7) (-6)) 0 (8 + 10 * s + 4) 4) (nI (llE n (fs (fs E 0 (208 + 7 * j + 2) (-6)) 0 (8 + 10 * s + 7) (-6))))), .int 6, .int (nI s), .ref (q 0)]) r7) ?_
    refine hiadd X dX8_finishes_53 ?_
    refine haload_n X dX8_finishes_54 rfl ?_
    refine hget1 X (T := TX8) (N := 14) iX8 0 rfl rfl 0 (by decide) (by decide +kernel) rfl dX8_finishes_55 ?_
    refine hiconst (v := 2) X dX8_finishes_58 rfl ?_
    refine hiald (n := 250) (f := (fs (fs (fs E 0 (208 + 7 * j + 2) (-6)) 0 (8 + 10 * s + 7) (-6)) 0 (8 + 10 * s + 4) 4) 0) X 1 rfl 2 rfl (by omega) (by decide) dX8_finishes_59 ?_
    have r8 : ((fs (fs (fs E 0 (208 + 7 * j + 2) (-6)) 0 (8 + 10 * s + 7) (-6)) 0 (8 + 10 * s + 4) 4) 0 2 : Int32) = E 0 2 := by rw [fs_at, if_neg (by omega), fs_at, if_neg (by omega), fs_at, if_neg (by omega)]
    refine hV_st (st' := [.int (E 0 2), .int ((loaE n (fs (fs (fs E 0 (208 + 7 * j + 2) (-6)) 0 (8 + 10 * s + 7) (-6)) 0 (8 + 10 * s + 4) 4) (nI (llE n (fs (fs E 0 (208 + 7 * j + 2) (-6)) 0 (8 + 10 * s + 7) (-6))))) + (E 0 (8 + 10 * s + 2))), .int 6, .int (nI s), .ref (q 0)]) (congrArg (fun z => Value.int z :: [.int ((loaE n (fs (fs (fs E 0 (208 + 7 * j + 2) (-6)) 0 (8 + 10 * s + 7) (-6)) 0 (8 + 10 * s + 4) 4) (nI (llE n (fs (fs E 0 (208 + 7 * j + 2) (-6)) 0 (8 + 10 * s + 7) (-6))))) + (E 0 (8 + 10 * s + 2))), .int 6, .int (nI s), .ref (q 0)]) r8) ?_
    refine hicmp_gt (tgt := 67) X dX8_finishes_60 (by decide) (fun c9 => ?_) (fun c9 => ?_)
    · refine hbipush (v := (-6)) X dX8_finishes_67 rfl ?_
      refine hcallV0 (C := RX8) (T := TX8) (N := 14) (As := [.int (nI s), .int (nI 6), .int (-6)]) (rest := []) (st' := []) (w := mW G q (fs (fs (fs (fs E 0 (208 + 7 * j + 2) (-6)) 0 (8 + 10 * s + 7) (-6)) 0 (8 + 10 * s + 4) 4) 0 (8 + 10 * s + 6) (-6))) X (q0 := 0) (kX8_setPart l G q (fs (fs (fs E 0 (208 + 7 * j + 2) (-6)) 0 (8 + 10 * s + 7) (-6)) 0 (8 + 10 * s + 4) 4) s 6 (-6) (by first | assumption | omega | exact h.h4 | exact (mfiA h (k := j) hs).h4 | exact ((mfiA h (k := j) hs).part _ hs (by decide) (by decide) (by decide)).h4) (by first | assumption | omega | exact h.h4 | exact (mfiA h (k := j) hs).h4 | exact ((mfiA h (k := j) hs).part _ hs (by decide) (by decide) (by decide)).h4)) gX8_finishes_X8_setPart rfl (n := 3) (by decide +kernel) (by decide) rfl rfl rfl rfl (Nat.le_of_ble_eq_true rfl) dX8_finishes_69 rfl rfl (by decide) rfl ?_
      refine haload_n X dX8_finishes_72 rfl ?_
      refine hiload_n X dX8_finishes_73 rfl ?_
      refine hiconst (v := 5) X dX8_finishes_74 rfl ?_
      refine haload_n X dX8_finishes_75 rfl ?_
      refine hiload_n X dX8_finishes_76 rfl ?_
      refine hiconst (v := 5) X dX8_finishes_77 rfl ?_
      refine hcallV0 (C := RX8) (T := TX8) (N := 14) (As := [.int (nI j), .int (nI 5)]) (rest := [.int 5, .int (nI j), .ref (q 0)]) (st' := [.int ((fs (fs (fs (fs E 0 (208 + 7 * j + 2) (-6)) 0 (8 + 10 * s + 7) (-6)) 0 (8 + 10 * s + 4) 4) 0 (8 + 10 * s + 6) (-6)) 0 (208 + 7 * j + 5)), .int 5, .int (nI j), .ref (q 0)]) (w := mW G q (fs (fs (fs (fs E 0 (208 + 7 * j + 2) (-6)) 0 (8 + 10 * s + 7) (-6)) 0 (8 + 10 * s + 4) 4) 0 (8 + 10 * s + 6) (-6))) X (q0 := 0) (kX8_ofCrewPart l G q (fs (fs (fs (fs E 0 (208 + 7 * j + 2) (-6)) 0 (8 + 10 * s + 7) (-6)) 0 (8 + 10 * s + 4) 4) 0 (8 + 10 * s + 6) (-6)) j 5 (by first | assumption | omega | exact h.h4 | exact (mfiA h (k := j) hs).h4 | exact ((mfiA h (k := j) hs).part _ hs (by decide) (by decide) (by decide)).h4) (by first | assumption | omega | exact h.h4 | exact (mfiA h (k := j) hs).h4 | exact ((mfiA h (k := j) hs).part _ hs (by decide) (by decide) (by decide)).h4)) gX8_finishes_X8_ofCrewPart rfl (n := 2) (by decide +kernel) (by decide) rfl rfl rfl rfl (Nat.le_of_ble_eq_true rfl) dX8_finishes_78 rfl rfl (by decide) rfl ?_
      have r10 : ((fs (fs (fs (fs E 0 (208 + 7 * j + 2) (-6)) 0 (8 + 10 * s + 7) (-6)) 0 (8 + 10 * s + 4) 4) 0 (8 + 10 * s + 6) (-6)) 0 (208 + 7 * j + 5) : Int32) = E 0 (208 + 7 * j + 5) := by rw [fs_at, if_neg (by omega), fs_at, if_neg (by omega), fs_at, if_neg (by omega), fs_at, if_neg (by omega)]
      refine hV_st (st' := [.int (E 0 (208 + 7 * j + 5)), .int 5, .int (nI j), .ref (q 0)]) (congrArg (fun z => Value.int z :: [.int 5, .int (nI j), .ref (q 0)]) r10) ?_
      refine hiconst (v := 1) X dX8_finishes_81 rfl ?_
      refine hiadd X dX8_finishes_82 ?_
      refine hcallV0 (C := RX8) (T := TX8) (N := 14) (As := [.int (nI j), .int (nI 5), .int ((E 0 (208 + 7 * j + 5)) + 1)]) (rest := []) (st' := []) (w := mW G q (fs (fs (fs (fs (fs E 0 (208 + 7 * j + 2) (-6)) 0 (8 + 10 * s + 7) (-6)) 0 (8 + 10 * s + 4) 4) 0 (8 + 10 * s + 6) (-6)) 0 (208 + 7 * j + 5) ((E 0 (208 + 7 * j + 5)) + 1))) X (q0 := 0) (kX8_setCrew l G q (fs (fs (fs (fs E 0 (208 + 7 * j + 2) (-6)) 0 (8 + 10 * s + 7) (-6)) 0 (8 + 10 * s + 4) 4) 0 (8 + 10 * s + 6) (-6)) j 5 ((E 0 (208 + 7 * j + 5)) + 1) (by first | assumption | omega | exact h.h4 | exact (mfiA h (k := j) hs).h4 | exact ((mfiA h (k := j) hs).part _ hs (by decide) (by decide) (by decide)).h4) (by first | assumption | omega | exact h.h4 | exact (mfiA h (k := j) hs).h4 | exact ((mfiA h (k := j) hs).part _ hs (by decide) (by decide) (by decide)).h4)) gX8_finishes_X8_setCrew rfl (n := 3) (by decide +kernel) (by decide) rfl rfl rfl rfl (Nat.le_of_ble_eq_true rfl) dX8_finishes_83 rfl rfl (by decide) rfl ?_
      refine hgoto (tgt := 141) X dX8_finishes_86 (by decide) ?_
      refine hvret X dX8_finishes_141 ⟨rfl, ?_⟩
      refine congrArg (mW G q) (?_ : (fs (fs (fs (fs (fs E 0 (208 + 7 * j + 2) (-6)) 0 (8 + 10 * s + 7) (-6)) 0 (8 + 10 * s + 4) 4) 0 (8 + 10 * s + 6) (-6)) 0 (208 + 7 * j + 5) ((E 0 (208 + 7 * j + 5)) + 1) : hF) = fiE n E j s)
      simp [fiE, fiA, fiB, c2, c9]
    · refine hiload_n X dX8_finishes_63 rfl ?_
      refine hgoto (tgt := 69) X dX8_finishes_64 (by decide) ?_
      refine hcallV0 (C := RX8) (T := TX8) (N := 14) (As := [.int (nI s), .int (nI 6), .int (nI (llE n (fs (fs E 0 (208 + 7 * j + 2) (-6)) 0 (8 + 10 * s + 7) (-6))))]) (rest := []) (st' := []) (w := mW G q (fs (fs (fs (fs E 0 (208 + 7 * j + 2) (-6)) 0 (8 + 10 * s + 7) (-6)) 0 (8 + 10 * s + 4) 4) 0 (8 + 10 * s + 6) (nI (llE n (fs (fs E 0 (208 + 7 * j + 2) (-6)) 0 (8 + 10 * s + 7) (-6)))))) X (q0 := 0) (kX8_setPart l G q (fs (fs (fs E 0 (208 + 7 * j + 2) (-6)) 0 (8 + 10 * s + 7) (-6)) 0 (8 + 10 * s + 4) 4) s 6 (nI (llE n (fs (fs E 0 (208 + 7 * j + 2) (-6)) 0 (8 + 10 * s + 7) (-6)))) (by first | assumption | omega | exact h.h4 | exact (mfiA h (k := j) hs).h4 | exact ((mfiA h (k := j) hs).part _ hs (by decide) (by decide) (by decide)).h4) (by first | assumption | omega | exact h.h4 | exact (mfiA h (k := j) hs).h4 | exact ((mfiA h (k := j) hs).part _ hs (by decide) (by decide) (by decide)).h4)) gX8_finishes_X8_setPart rfl (n := 3) (by decide +kernel) (by decide) rfl rfl rfl rfl (Nat.le_of_ble_eq_true rfl) dX8_finishes_69 rfl rfl (by decide) rfl ?_
      refine haload_n X dX8_finishes_72 rfl ?_
      refine hiload_n X dX8_finishes_73 rfl ?_
      refine hiconst (v := 5) X dX8_finishes_74 rfl ?_
      refine haload_n X dX8_finishes_75 rfl ?_
      refine hiload_n X dX8_finishes_76 rfl ?_
      refine hiconst (v := 5) X dX8_finishes_77 rfl ?_
      refine hcallV0 (C := RX8) (T := TX8) (N := 14) (As := [.int (nI j), .int (nI 5)]) (rest := [.int 5, .int (nI j), .ref (q 0)]) (st' := [.int ((fs (fs (fs (fs E 0 (208 + 7 * j + 2) (-6)) 0 (8 + 10 * s + 7) (-6)) 0 (8 + 10 * s + 4) 4) 0 (8 + 10 * s + 6) (nI (llE n (fs (fs E 0 (208 + 7 * j + 2) (-6)) 0 (8 + 10 * s + 7) (-6))))) 0 (208 + 7 * j + 5)), .int 5, .int (nI j), .ref (q 0)]) (w := mW G q (fs (fs (fs (fs E 0 (208 + 7 * j + 2) (-6)) 0 (8 + 10 * s + 7) (-6)) 0 (8 + 10 * s + 4) 4) 0 (8 + 10 * s + 6) (nI (llE n (fs (fs E 0 (208 + 7 * j + 2) (-6)) 0 (8 + 10 * s + 7) (-6)))))) X (q0 := 0) (kX8_ofCrewPart l G q (fs (fs (fs (fs E 0 (208 + 7 * j + 2) (-6)) 0 (8 + 10 * s + 7) (-6)) 0 (8 + 10 * s + 4) 4) 0 (8 + 10 * s + 6) (nI (llE n (fs (fs E 0 (208 + 7 * j + 2) (-6)) 0 (8 + 10 * s + 7) (-6))))) j 5 (by first | assumption | omega | exact h.h4 | exact (mfiA h (k := j) hs).h4 | exact ((mfiA h (k := j) hs).part _ hs (by decide) (by decide) (by decide)).h4) (by first | assumption | omega | exact h.h4 | exact (mfiA h (k := j) hs).h4 | exact ((mfiA h (k := j) hs).part _ hs (by decide) (by decide) (by decide)).h4)) gX8_finishes_X8_ofCrewPart rfl (n := 2) (by decide +kernel) (by decide) rfl rfl rfl rfl (Nat.le_of_ble_eq_true rfl) dX8_finishes_78 rfl rfl (by decide) rfl ?_
      have r11 : ((fs (fs (fs (fs E 0 (208 + 7 * j + 2) (-6)) 0 (8 + 10 * s + 7) (-6)) 0 (8 + 10 * s + 4) 4) 0 (8 + 10 * s + 6) (nI (llE n (fs (fs E 0 (208 + 7 * j + 2) (-6)) 0 (8 + 10 * s + 7) (-6))))) 0 (208 + 7 * j + 5) : Int32) = E 0 (208 + 7 * j + 5) := by rw [fs_at, if_neg (by omega), fs_at, if_neg (by omega), fs_at, if_neg (by omega), fs_at, if_neg (by omega)]
      refine hV_st (st' := [.int (E 0 (208 + 7 * j + 5)), .int 5, .int (nI j), .ref (q 0)]) (congrArg (fun z => Value.int z :: [.int 5, .int (nI j), .ref (q 0)]) r11) ?_
      refine hiconst (v := 1) X dX8_finishes_81 rfl ?_
      refine hiadd X dX8_finishes_82 ?_
      refine hcallV0 (C := RX8) (T := TX8) (N := 14) (As := [.int (nI j), .int (nI 5), .int ((E 0 (208 + 7 * j + 5)) + 1)]) (rest := []) (st' := []) (w := mW G q (fs (fs (fs (fs (fs E 0 (208 + 7 * j + 2) (-6)) 0 (8 + 10 * s + 7) (-6)) 0 (8 + 10 * s + 4) 4) 0 (8 + 10 * s + 6) (nI (llE n (fs (fs E 0 (208 + 7 * j + 2) (-6)) 0 (8 + 10 * s + 7) (-6))))) 0 (208 + 7 * j + 5) ((E 0 (208 + 7 * j + 5)) + 1))) X (q0 := 0) (kX8_setCrew l G q (fs (fs (fs (fs E 0 (208 + 7 * j + 2) (-6)) 0 (8 + 10 * s + 7) (-6)) 0 (8 + 10 * s + 4) 4) 0 (8 + 10 * s + 6) (nI (llE n (fs (fs E 0 (208 + 7 * j + 2) (-6)) 0 (8 + 10 * s + 7) (-6))))) j 5 ((E 0 (208 + 7 * j + 5)) + 1) (by first | assumption | omega | exact h.h4 | exact (mfiA h (k := j) hs).h4 | exact ((mfiA h (k := j) hs).part _ hs (by decide) (by decide) (by decide)).h4) (by first | assumption | omega | exact h.h4 | exact (mfiA h (k := j) hs).h4 | exact ((mfiA h (k := j) hs).part _ hs (by decide) (by decide) (by decide)).h4)) gX8_finishes_X8_setCrew rfl (n := 3) (by decide +kernel) (by decide) rfl rfl rfl rfl (Nat.le_of_ble_eq_true rfl) dX8_finishes_83 rfl rfl (by decide) rfl ?_
      refine hgoto (tgt := 141) X dX8_finishes_86 (by decide) ?_
      refine hvret X dX8_finishes_141 ⟨rfl, ?_⟩
      refine congrArg (mW G q) (?_ : (fs (fs (fs (fs (fs E 0 (208 + 7 * j + 2) (-6)) 0 (8 + 10 * s + 7) (-6)) 0 (8 + 10 * s + 4) 4) 0 (8 + 10 * s + 6) (nI (llE n (fs (fs E 0 (208 + 7 * j + 2) (-6)) 0 (8 + 10 * s + 7) (-6))))) 0 (208 + 7 * j + 5) ((E 0 (208 + 7 * j + 5)) + 1) : hF) = fiE n E j s)
      simp [fiE, fiA, fiB, c2, c9]

set_option maxHeartbeats 4000000 in
set_option maxRecDepth 100000 in
theorem kX8_works (l : Launch) (G : hG) (q : Nat → Nat) (E : hF) (n c j s : Nat) (h : mOk n c E) (hj : j < c) (hs : s < n) (hh : E 0 (208 + 7 * j + 2) = nI s) : hM l G yX8_works wsX8_works ({ frames := 5, cells := 0, slots := 0, locals := 130 }) (mW G q E) [.ref (q 0), .int (nI j)] (hR (some (.int (bI (woL E j s ≤ 0)))) (mW G q (woE n E j s))) := by
  refine hM_of (cc := cX8_works) (maxL := 4) (ret := (some .boolean)) (by decide) rfl (Nat.le_of_ble_eq_true rfl) ?_
  intro pp ee ss mm aa bb me cd X hin
  have hn := h.hn
  have hc := h.hc
  refine haload_n X dX8_works_0 rfl ?_
  refine hiload_n X dX8_works_1 rfl ?_
  refine hiconst (v := 2) X dX8_works_2 rfl ?_
  refine hcallV0 (C := RX8) (T := TX8) (N := 14) (As := [.int (nI j), .int (nI 2)]) (rest := []) (st' := [.int (E 0 (208 + 7 * j + 2))]) (w := mW G q E) X (q0 := 0) (kX8_ofCrewPart l G q E j 2 (by first | assumption | omega | exact mwoA h _ hs) (by first | assumption | omega | exact mwoA h _ hs)) gX8_works_X8_ofCrewPart rfl (n := 2) (by decide +kernel) (by decide) rfl rfl rfl rfl (Nat.le_of_ble_eq_true rfl) dX8_works_3 rfl rfl (by decide) rfl ?_
  refine hV_st (st' := [.int (nI s)]) (congrArg (fun z => ([Value.int z] : List Value)) (hh)) ?_
  refine histore_n (lv' := [(2, .int (nI s)), (0, .ref (q 0)), (1, .int (nI j))]) X dX8_works_6 (by decide) rfl ?_
  refine haload_n X dX8_works_7 rfl ?_
  refine hiload_n X dX8_works_8 rfl ?_
  refine hiconst (v := 5) X dX8_works_9 rfl ?_
  refine hcallV0 (C := RX8) (T := TX8) (N := 14) (As := [.int (nI s), .int (nI 5)]) (rest := []) (st' := [.int (E 0 (8 + 10 * s + 5))]) (w := mW G q E) X (q0 := 0) (kX8_part l G q E s 5 (by first | assumption | omega | exact mwoA h _ hs) (by first | assumption | omega | exact mwoA h _ hs)) gX8_works_X8_part rfl (n := 2) (by decide +kernel) (by decide) rfl rfl rfl rfl (Nat.le_of_ble_eq_true rfl) dX8_works_10 rfl rfl (by decide) rfl ?_
  refine haload_n X dX8_works_13 rfl ?_
  refine hiload_n X dX8_works_14 rfl ?_
  refine hiconst (v := 0) X dX8_works_15 rfl ?_
  refine hcallV0 (C := RX8) (T := TX8) (N := 14) (As := [.int (nI j), .int (nI 0)]) (rest := [.int (E 0 (8 + 10 * s + 5))]) (st' := [.int (E 0 (208 + 7 * j + 0)), .int (E 0 (8 + 10 * s + 5))]) (w := mW G q E) X (q0 := 0) (kX8_ofCrewPart l G q E j 0 (by first | assumption | omega | exact mwoA h _ hs) (by first | assumption | omega | exact mwoA h _ hs)) gX8_works_X8_ofCrewPart rfl (n := 2) (by decide +kernel) (by decide) rfl rfl rfl rfl (Nat.le_of_ble_eq_true rfl) dX8_works_16 rfl rfl (by decide) rfl ?_
  refine hisub X dX8_works_19 ?_
  refine hV_st (st' := [.int (woL E j s)]) (congrArg (fun z => ([Value.int z] : List Value)) (rfl)) ?_
  refine histore_n (lv' := [(3, .int (woL E j s)), (2, .int (nI s)), (0, .ref (q 0)), (1, .int (nI j))]) X dX8_works_20 (by decide) rfl ?_
  refine haload_n X dX8_works_21 rfl ?_
  refine hiload_n X dX8_works_22 rfl ?_
  refine hiconst (v := 5) X dX8_works_23 rfl ?_
  refine hiload_n X dX8_works_24 rfl ?_
  refine hif_ge (tgt := 32) X dX8_works_25 (by decide) (fun c1 => ?_) (fun c1 => ?_)
  · refine hiload_n X dX8_works_32 rfl ?_
    refine hcallV0 (C := RX8) (T := TX8) (N := 14) (As := [.int (nI s), .int (nI 5), .int (woL E j s)]) (rest := []) (st' := []) (w := mW G q (fs E 0 (8 + 10 * s + 5) (woL E j s))) X (q0 := 0) (kX8_setPart l G q E s 5 (woL E j s) (by first | assumption | omega | exact mwoA h _ hs) (by first | assumption | omega | exact mwoA h _ hs)) gX8_works_X8_setPart rfl (n := 3) (by decide +kernel) (by decide) rfl rfl rfl rfl (Nat.le_of_ble_eq_true rfl) dX8_works_33 rfl rfl (by decide) rfl ?_
    refine haload_n X dX8_works_36 rfl ?_
    refine hiload_n X dX8_works_37 rfl ?_
    refine hbipush (v := 9) X dX8_works_38 rfl ?_
    refine haload_n X dX8_works_40 rfl ?_
    refine hiload_n X dX8_works_41 rfl ?_
    refine hbipush (v := 9) X dX8_works_42 rfl ?_
    refine hcallV0 (C := RX8) (T := TX8) (N := 14) (As := [.int (nI s), .int (nI 9)]) (rest := [.int 9, .int (nI s), .ref (q 0)]) (st' := [.int ((fs E 0 (8 + 10 * s + 5) (woL E j s)) 0 (8 + 10 * s + 9)), .int 9, .int (nI s), .ref (q 0)]) (w := mW G q (fs E 0 (8 + 10 * s + 5) (woL E j s))) X (q0 := 0) (kX8_part l G q (fs E 0 (8 + 10 * s + 5) (woL E j s)) s 9 (by first | assumption | omega | exact mwoA h _ hs) (by first | assumption | omega | exact mwoA h _ hs)) gX8_works_X8_part rfl (n := 2) (by decide +kernel) (by decide) rfl rfl rfl rfl (Nat.le_of_ble_eq_true rfl) dX8_works_44 rfl rfl (by decide) rfl ?_
    have r2 : ((fs E 0 (8 + 10 * s + 5) (woL E j s)) 0 (8 + 10 * s + 9) : Int32) = E 0 (8 + 10 * s + 9) := by rw [fs_at, if_neg (by omega)]
    refine hV_st (st' := [.int (E 0 (8 + 10 * s + 9)), .int 9, .int (nI s), .ref (q 0)]) (congrArg (fun z => Value.int z :: [.int 9, .int (nI s), .ref (q 0)]) r2) ?_
    refine hiconst (v := 1) X dX8_works_47 rfl ?_
    refine hiadd X dX8_works_48 ?_
    refine hcallV0 (C := RX8) (T := TX8) (N := 14) (As := [.int (nI s), .int (nI 9), .int ((E 0 (8 + 10 * s + 9)) + 1)]) (rest := []) (st' := []) (w := mW G q (fs (fs E 0 (8 + 10 * s + 5) (woL E j s)) 0 (8 + 10 * s + 9) ((E 0 (8 + 10 * s + 9)) + 1))) X (q0 := 0) (kX8_setPart l G q (fs E 0 (8 + 10 * s + 5) (woL E j s)) s 9 ((E 0 (8 + 10 * s + 9)) + 1) (by first | assumption | omega | exact mwoA h _ hs) (by first | assumption | omega | exact mwoA h _ hs)) gX8_works_X8_setPart rfl (n := 3) (by decide +kernel) (by decide) rfl rfl rfl rfl (Nat.le_of_ble_eq_true rfl) dX8_works_49 rfl rfl (by decide) rfl ?_
    refine haload_n X dX8_works_52 rfl ?_
    refine hiload_n X dX8_works_53 rfl ?_
    refine hiconst (v := 3) X dX8_works_54 rfl ?_
    refine haload_n X dX8_works_55 rfl ?_
    refine hiload_n X dX8_works_56 rfl ?_
    refine hiconst (v := 3) X dX8_works_57 rfl ?_
    refine hcallV0 (C := RX8) (T := TX8) (N := 14) (As := [.int (nI j), .int (nI 3)]) (rest := [.int 3, .int (nI j), .ref (q 0)]) (st' := [.int ((fs (fs E 0 (8 + 10 * s + 5) (woL E j s)) 0 (8 + 10 * s + 9) ((E 0 (8 + 10 * s + 9)) + 1)) 0 (208 + 7 * j + 3)), .int 3, .int (nI j), .ref (q 0)]) (w := mW G q (fs (fs E 0 (8 + 10 * s + 5) (woL E j s)) 0 (8 + 10 * s + 9) ((E 0 (8 + 10 * s + 9)) + 1))) X (q0 := 0) (kX8_ofCrewPart l G q (fs (fs E 0 (8 + 10 * s + 5) (woL E j s)) 0 (8 + 10 * s + 9) ((E 0 (8 + 10 * s + 9)) + 1)) j 3 (by first | assumption | omega | exact mwoA h _ hs) (by first | assumption | omega | exact mwoA h _ hs)) gX8_works_X8_ofCrewPart rfl (n := 2) (by decide +kernel) (by decide) rfl rfl rfl rfl (Nat.le_of_ble_eq_true rfl) dX8_works_58 rfl rfl (by decide) rfl ?_
    have r3 : ((fs (fs E 0 (8 + 10 * s + 5) (woL E j s)) 0 (8 + 10 * s + 9) ((E 0 (8 + 10 * s + 9)) + 1)) 0 (208 + 7 * j + 3) : Int32) = E 0 (208 + 7 * j + 3) := by rw [fs_at, if_neg (by omega), fs_at, if_neg (by omega)]
    refine hV_st (st' := [.int (E 0 (208 + 7 * j + 3)), .int 3, .int (nI j), .ref (q 0)]) (congrArg (fun z => Value.int z :: [.int 3, .int (nI j), .ref (q 0)]) r3) ?_
    refine hiconst (v := 1) X dX8_works_61 rfl ?_
    refine hiadd X dX8_works_62 ?_
    refine hcallV0 (C := RX8) (T := TX8) (N := 14) (As := [.int (nI j), .int (nI 3), .int ((E 0 (208 + 7 * j + 3)) + 1)]) (rest := []) (st' := []) (w := mW G q (fs (fs (fs E 0 (8 + 10 * s + 5) (woL E j s)) 0 (8 + 10 * s + 9) ((E 0 (8 + 10 * s + 9)) + 1)) 0 (208 + 7 * j + 3) ((E 0 (208 + 7 * j + 3)) + 1))) X (q0 := 0) (kX8_setCrew l G q (fs (fs E 0 (8 + 10 * s + 5) (woL E j s)) 0 (8 + 10 * s + 9) ((E 0 (8 + 10 * s + 9)) + 1)) j 3 ((E 0 (208 + 7 * j + 3)) + 1) (by first | assumption | omega | exact mwoA h _ hs) (by first | assumption | omega | exact mwoA h _ hs)) gX8_works_X8_setCrew rfl (n := 3) (by decide +kernel) (by decide) rfl rfl rfl rfl (Nat.le_of_ble_eq_true rfl) dX8_works_63 rfl rfl (by decide) rfl ?_
    refine haload_n X dX8_works_66 rfl ?_
    refine hiload_n X dX8_works_67 rfl ?_
    refine hiconst (v := 4) X dX8_works_68 rfl ?_
    refine haload_n X dX8_works_69 rfl ?_
    refine hiload_n X dX8_works_70 rfl ?_
    refine hiconst (v := 4) X dX8_works_71 rfl ?_
    refine hcallV0 (C := RX8) (T := TX8) (N := 14) (As := [.int (nI j), .int (nI 4)]) (rest := [.int 4, .int (nI j), .ref (q 0)]) (st' := [.int ((fs (fs (fs E 0 (8 + 10 * s + 5) (woL E j s)) 0 (8 + 10 * s + 9) ((E 0 (8 + 10 * s + 9)) + 1)) 0 (208 + 7 * j + 3) ((E 0 (208 + 7 * j + 3)) + 1)) 0 (208 + 7 * j + 4)), .int 4, .int (nI j), .ref (q 0)]) (w := mW G q (fs (fs (fs E 0 (8 + 10 * s + 5) (woL E j s)) 0 (8 + 10 * s + 9) ((E 0 (8 + 10 * s + 9)) + 1)) 0 (208 + 7 * j + 3) ((E 0 (208 + 7 * j + 3)) + 1))) X (q0 := 0) (kX8_ofCrewPart l G q (fs (fs (fs E 0 (8 + 10 * s + 5) (woL E j s)) 0 (8 + 10 * s + 9) ((E 0 (8 + 10 * s + 9)) + 1)) 0 (208 + 7 * j + 3) ((E 0 (208 + 7 * j + 3)) + 1)) j 4 (by first | assumption | omega | exact mwoA h _ hs) (by first | assumption | omega | exact mwoA h _ hs)) gX8_works_X8_ofCrewPart rfl (n := 2) (by decide +kernel) (by decide) rfl rfl rfl rfl (Nat.le_of_ble_eq_true rfl) dX8_works_72 rfl rfl (by decide) rfl ?_
    have r4 : ((fs (fs (fs E 0 (8 + 10 * s + 5) (woL E j s)) 0 (8 + 10 * s + 9) ((E 0 (8 + 10 * s + 9)) + 1)) 0 (208 + 7 * j + 3) ((E 0 (208 + 7 * j + 3)) + 1)) 0 (208 + 7 * j + 4) : Int32) = E 0 (208 + 7 * j + 4) := by rw [fs_at, if_neg (by omega), fs_at, if_neg (by omega), fs_at, if_neg (by omega)]
    refine hV_st (st' := [.int (E 0 (208 + 7 * j + 4)), .int 4, .int (nI j), .ref (q 0)]) (congrArg (fun z => Value.int z :: [.int 4, .int (nI j), .ref (q 0)]) r4) ?_
    refine haload_n X dX8_works_75 rfl ?_
    refine hiload_n X dX8_works_76 rfl ?_
    refine hiconst (v := 1) X dX8_works_77 rfl ?_
    refine hcallV0 (C := RX8) (T := TX8) (N := 14) (As := [.int (nI j), .int (nI 1)]) (rest := [.int (E 0 (208 + 7 * j + 4)), .int 4, .int (nI j), .ref (q 0)]) (st' := [.int ((fs (fs (fs E 0 (8 + 10 * s + 5) (woL E j s)) 0 (8 + 10 * s + 9) ((E 0 (8 + 10 * s + 9)) + 1)) 0 (208 + 7 * j + 3) ((E 0 (208 + 7 * j + 3)) + 1)) 0 (208 + 7 * j + 1)), .int (E 0 (208 + 7 * j + 4)), .int 4, .int (nI j), .ref (q 0)]) (w := mW G q (fs (fs (fs E 0 (8 + 10 * s + 5) (woL E j s)) 0 (8 + 10 * s + 9) ((E 0 (8 + 10 * s + 9)) + 1)) 0 (208 + 7 * j + 3) ((E 0 (208 + 7 * j + 3)) + 1))) X (q0 := 0) (kX8_ofCrewPart l G q (fs (fs (fs E 0 (8 + 10 * s + 5) (woL E j s)) 0 (8 + 10 * s + 9) ((E 0 (8 + 10 * s + 9)) + 1)) 0 (208 + 7 * j + 3) ((E 0 (208 + 7 * j + 3)) + 1)) j 1 (by first | assumption | omega | exact mwoA h _ hs) (by first | assumption | omega | exact mwoA h _ hs)) gX8_works_X8_ofCrewPart rfl (n := 2) (by decide +kernel) (by decide) rfl rfl rfl rfl (Nat.le_of_ble_eq_true rfl) dX8_works_78 rfl rfl (by decide) rfl ?_
    have r5 : ((fs (fs (fs E 0 (8 + 10 * s + 5) (woL E j s)) 0 (8 + 10 * s + 9) ((E 0 (8 + 10 * s + 9)) + 1)) 0 (208 + 7 * j + 3) ((E 0 (208 + 7 * j + 3)) + 1)) 0 (208 + 7 * j + 1) : Int32) = E 0 (208 + 7 * j + 1) := by rw [fs_at, if_neg (by omega), fs_at, if_neg (by omega), fs_at, if_neg (by omega)]
    refine hV_st (st' := [.int (E 0 (208 + 7 * j + 1)), .int (E 0 (208 + 7 * j + 4)), .int 4, .int (nI j), .ref (q 0)]) (congrArg (fun z => Value.int z :: [.int (E 0 (208 + 7 * j + 4)), .int 4, .int (nI j), .ref (q 0)]) r5) ?_
    refine hiadd X dX8_works_81 ?_
    refine hcallV0 (C := RX8) (T := TX8) (N := 14) (As := [.int (nI j), .int (nI 4), .int ((E 0 (208 + 7 * j + 4)) + (E 0 (208 + 7 * j + 1)))]) (rest := []) (st' := []) (w := mW G q (fs (fs (fs (fs E 0 (8 + 10 * s + 5) (woL E j s)) 0 (8 + 10 * s + 9) ((E 0 (8 + 10 * s + 9)) + 1)) 0 (208 + 7 * j + 3) ((E 0 (208 + 7 * j + 3)) + 1)) 0 (208 + 7 * j + 4) ((E 0 (208 + 7 * j + 4)) + (E 0 (208 + 7 * j + 1))))) X (q0 := 0) (kX8_setCrew l G q (fs (fs (fs E 0 (8 + 10 * s + 5) (woL E j s)) 0 (8 + 10 * s + 9) ((E 0 (8 + 10 * s + 9)) + 1)) 0 (208 + 7 * j + 3) ((E 0 (208 + 7 * j + 3)) + 1)) j 4 ((E 0 (208 + 7 * j + 4)) + (E 0 (208 + 7 * j + 1))) (by first | assumption | omega | exact mwoA h _ hs) (by first | assumption | omega | exact mwoA h _ hs)) gX8_works_X8_setCrew rfl (n := 3) (by decide +kernel) (by decide) rfl rfl rfl rfl (Nat.le_of_ble_eq_true rfl) dX8_works_82 rfl rfl (by decide) rfl ?_
    refine hiload_n X dX8_works_85 rfl ?_
    refine hif_le (tgt := 91) X dX8_works_86 (by decide) (fun c6 => ?_) (fun c6 => ?_)
    · have e0 := i_eq0 c1 c6
      refine haload_n X dX8_works_91 rfl ?_
      refine hiload_n X dX8_works_92 rfl ?_
      refine hiload_n X dX8_works_93 rfl ?_
      refine hcallV0 (C := RX8) (T := TX8) (N := 14) (As := [.int (nI j), .int (nI s)]) (rest := []) (st' := []) (w := mW G q (fiE n (fs (fs (fs (fs E 0 (8 + 10 * s + 5) (woL E j s)) 0 (8 + 10 * s + 9) ((E 0 (8 + 10 * s + 9)) + 1)) 0 (208 + 7 * j + 3) ((E 0 (208 + 7 * j + 3)) + 1)) 0 (208 + 7 * j + 4) ((E 0 (208 + 7 * j + 4)) + (E 0 (208 + 7 * j + 1)))) j s)) X (q0 := 0) (kX8_finishes l G q (fs (fs (fs (fs E 0 (8 + 10 * s + 5) (woL E j s)) 0 (8 + 10 * s + 9) ((E 0 (8 + 10 * s + 9)) + 1)) 0 (208 + 7 * j + 3) ((E 0 (208 + 7 * j + 3)) + 1)) 0 (208 + 7 * j + 4) ((E 0 (208 + 7 * j + 4)) + (E 0 (208 + 7 * j + 1)))) n c j s (by first | assumption | omega | exact mwoA h _ hs) (by first | assumption | omega | exact mwoA h _ hs) (by first | assumption | omega | exact mwoA h _ hs)) gX8_works_X8_finishes rfl (n := 2) (by decide +kernel) (by decide) rfl rfl rfl rfl (Nat.le_of_ble_eq_true rfl) dX8_works_94 rfl rfl (by decide) rfl ?_
      refine hiconst (v := 1) X dX8_works_97 rfl ?_
      refine hzret X rfl dX8_works_98 ⟨congrArg (fun z => some (Value.int z)) (?_ : 1 = bI (woL E j s ≤ 0)), ?_⟩
      · simp [bI, c1, c6]
      refine congrArg (mW G q) (?_ : (fiE n (fs (fs (fs (fs E 0 (8 + 10 * s + 5) (woL E j s)) 0 (8 + 10 * s + 9) ((E 0 (8 + 10 * s + 9)) + 1)) 0 (208 + 7 * j + 3) ((E 0 (208 + 7 * j + 3)) + 1)) 0 (208 + 7 * j + 4) ((E 0 (208 + 7 * j + 4)) + (E 0 (208 + 7 * j + 1)))) j s : hF) = woE n E j s)
      first | (simp [woE, woA, c1, c6]; done) | (simp [woE, woA, e0]; done)
    · refine hiconst (v := 0) X dX8_works_89 rfl ?_
      refine hzret X rfl dX8_works_90 ⟨congrArg (fun z => some (Value.int z)) (?_ : 0 = bI (woL E j s ≤ 0)), ?_⟩
      · simp [bI, c1, c6]
      refine congrArg (mW G q) (?_ : (fs (fs (fs (fs E 0 (8 + 10 * s + 5) (woL E j s)) 0 (8 + 10 * s + 9) ((E 0 (8 + 10 * s + 9)) + 1)) 0 (208 + 7 * j + 3) ((E 0 (208 + 7 * j + 3)) + 1)) 0 (208 + 7 * j + 4) ((E 0 (208 + 7 * j + 4)) + (E 0 (208 + 7 * j + 1))) : hF) = woE n E j s)
      first | (simp [woE, woA, c1, c6]; done) | (simp [woE, woA, e0]; done)
  · refine hiconst (v := 0) X dX8_works_28 rfl ?_
    refine hgoto (tgt := 33) X dX8_works_29 (by decide) ?_
    refine hcallV0 (C := RX8) (T := TX8) (N := 14) (As := [.int (nI s), .int (nI 5), .int 0]) (rest := []) (st' := []) (w := mW G q (fs E 0 (8 + 10 * s + 5) 0)) X (q0 := 0) (kX8_setPart l G q E s 5 0 (by first | assumption | omega | exact mwoA h _ hs) (by first | assumption | omega | exact mwoA h _ hs)) gX8_works_X8_setPart rfl (n := 3) (by decide +kernel) (by decide) rfl rfl rfl rfl (Nat.le_of_ble_eq_true rfl) dX8_works_33 rfl rfl (by decide) rfl ?_
    refine haload_n X dX8_works_36 rfl ?_
    refine hiload_n X dX8_works_37 rfl ?_
    refine hbipush (v := 9) X dX8_works_38 rfl ?_
    refine haload_n X dX8_works_40 rfl ?_
    refine hiload_n X dX8_works_41 rfl ?_
    refine hbipush (v := 9) X dX8_works_42 rfl ?_
    refine hcallV0 (C := RX8) (T := TX8) (N := 14) (As := [.int (nI s), .int (nI 9)]) (rest := [.int 9, .int (nI s), .ref (q 0)]) (st' := [.int ((fs E 0 (8 + 10 * s + 5) 0) 0 (8 + 10 * s + 9)), .int 9, .int (nI s), .ref (q 0)]) (w := mW G q (fs E 0 (8 + 10 * s + 5) 0)) X (q0 := 0) (kX8_part l G q (fs E 0 (8 + 10 * s + 5) 0) s 9 (by first | assumption | omega | exact mwoA h _ hs) (by first | assumption | omega | exact mwoA h _ hs)) gX8_works_X8_part rfl (n := 2) (by decide +kernel) (by decide) rfl rfl rfl rfl (Nat.le_of_ble_eq_true rfl) dX8_works_44 rfl rfl (by decide) rfl ?_
    have r7 : ((fs E 0 (8 + 10 * s + 5) 0) 0 (8 + 10 * s + 9) : Int32) = E 0 (8 + 10 * s + 9) := by rw [fs_at, if_neg (by omega)]
    refine hV_st (st' := [.int (E 0 (8 + 10 * s + 9)), .int 9, .int (nI s), .ref (q 0)]) (congrArg (fun z => Value.int z :: [.int 9, .int (nI s), .ref (q 0)]) r7) ?_
    refine hiconst (v := 1) X dX8_works_47 rfl ?_
    refine hiadd X dX8_works_48 ?_
    refine hcallV0 (C := RX8) (T := TX8) (N := 14) (As := [.int (nI s), .int (nI 9), .int ((E 0 (8 + 10 * s + 9)) + 1)]) (rest := []) (st' := []) (w := mW G q (fs (fs E 0 (8 + 10 * s + 5) 0) 0 (8 + 10 * s + 9) ((E 0 (8 + 10 * s + 9)) + 1))) X (q0 := 0) (kX8_setPart l G q (fs E 0 (8 + 10 * s + 5) 0) s 9 ((E 0 (8 + 10 * s + 9)) + 1) (by first | assumption | omega | exact mwoA h _ hs) (by first | assumption | omega | exact mwoA h _ hs)) gX8_works_X8_setPart rfl (n := 3) (by decide +kernel) (by decide) rfl rfl rfl rfl (Nat.le_of_ble_eq_true rfl) dX8_works_49 rfl rfl (by decide) rfl ?_
    refine haload_n X dX8_works_52 rfl ?_
    refine hiload_n X dX8_works_53 rfl ?_
    refine hiconst (v := 3) X dX8_works_54 rfl ?_
    refine haload_n X dX8_works_55 rfl ?_
    refine hiload_n X dX8_works_56 rfl ?_
    refine hiconst (v := 3) X dX8_works_57 rfl ?_
    refine hcallV0 (C := RX8) (T := TX8) (N := 14) (As := [.int (nI j), .int (nI 3)]) (rest := [.int 3, .int (nI j), .ref (q 0)]) (st' := [.int ((fs (fs E 0 (8 + 10 * s + 5) 0) 0 (8 + 10 * s + 9) ((E 0 (8 + 10 * s + 9)) + 1)) 0 (208 + 7 * j + 3)), .int 3, .int (nI j), .ref (q 0)]) (w := mW G q (fs (fs E 0 (8 + 10 * s + 5) 0) 0 (8 + 10 * s + 9) ((E 0 (8 + 10 * s + 9)) + 1))) X (q0 := 0) (kX8_ofCrewPart l G q (fs (fs E 0 (8 + 10 * s + 5) 0) 0 (8 + 10 * s + 9) ((E 0 (8 + 10 * s + 9)) + 1)) j 3 (by first | assumption | omega | exact mwoA h _ hs) (by first | assumption | omega | exact mwoA h _ hs)) gX8_works_X8_ofCrewPart rfl (n := 2) (by decide +kernel) (by decide) rfl rfl rfl rfl (Nat.le_of_ble_eq_true rfl) dX8_works_58 rfl rfl (by decide) rfl ?_
    have r8 : ((fs (fs E 0 (8 + 10 * s + 5) 0) 0 (8 + 10 * s + 9) ((E 0 (8 + 10 * s + 9)) + 1)) 0 (208 + 7 * j + 3) : Int32) = E 0 (208 + 7 * j + 3) := by rw [fs_at, if_neg (by omega), fs_at, if_neg (by omega)]
    refine hV_st (st' := [.int (E 0 (208 + 7 * j + 3)), .int 3, .int (nI j), .ref (q 0)]) (congrArg (fun z => Value.int z :: [.int 3, .int (nI j), .ref (q 0)]) r8) ?_
    refine hiconst (v := 1) X dX8_works_61 rfl ?_
    refine hiadd X dX8_works_62 ?_
    refine hcallV0 (C := RX8) (T := TX8) (N := 14) (As := [.int (nI j), .int (nI 3), .int ((E 0 (208 + 7 * j + 3)) + 1)]) (rest := []) (st' := []) (w := mW G q (fs (fs (fs E 0 (8 + 10 * s + 5) 0) 0 (8 + 10 * s + 9) ((E 0 (8 + 10 * s + 9)) + 1)) 0 (208 + 7 * j + 3) ((E 0 (208 + 7 * j + 3)) + 1))) X (q0 := 0) (kX8_setCrew l G q (fs (fs E 0 (8 + 10 * s + 5) 0) 0 (8 + 10 * s + 9) ((E 0 (8 + 10 * s + 9)) + 1)) j 3 ((E 0 (208 + 7 * j + 3)) + 1) (by first | assumption | omega | exact mwoA h _ hs) (by first | assumption | omega | exact mwoA h _ hs)) gX8_works_X8_setCrew rfl (n := 3) (by decide +kernel) (by decide) rfl rfl rfl rfl (Nat.le_of_ble_eq_true rfl) dX8_works_63 rfl rfl (by decide) rfl ?_
    refine haload_n X dX8_works_66 rfl ?_
    refine hiload_n X dX8_works_67 rfl ?_
    refine hiconst (v := 4) X dX8_works_68 rfl ?_
    refine haload_n X dX8_works_69 rfl ?_
    refine hiload_n X dX8_works_70 rfl ?_
    refine hiconst (v := 4) X dX8_works_71 rfl ?_
    refine hcallV0 (C := RX8) (T := TX8) (N := 14) (As := [.int (nI j), .int (nI 4)]) (rest := [.int 4, .int (nI j), .ref (q 0)]) (st' := [.int ((fs (fs (fs E 0 (8 + 10 * s + 5) 0) 0 (8 + 10 * s + 9) ((E 0 (8 + 10 * s + 9)) + 1)) 0 (208 + 7 * j + 3) ((E 0 (208 + 7 * j + 3)) + 1)) 0 (208 + 7 * j + 4)), .int 4, .int (nI j), .ref (q 0)]) (w := mW G q (fs (fs (fs E 0 (8 + 10 * s + 5) 0) 0 (8 + 10 * s + 9) ((E 0 (8 + 10 * s + 9)) + 1)) 0 (208 + 7 * j + 3) ((E 0 (208 + 7 * j + 3)) + 1))) X (q0 := 0) (kX8_ofCrewPart l G q (fs (fs (fs E 0 (8 + 10 * s + 5) 0) 0 (8 + 10 * s + 9) ((E 0 (8 + 10 * s + 9)) + 1)) 0 (208 + 7 * j + 3) ((E 0 (208 + 7 * j + 3)) + 1)) j 4 (by first | assumption | omega | exact mwoA h _ hs) (by first | assumption | omega | exact mwoA h _ hs)) gX8_works_X8_ofCrewPart rfl (n := 2) (by decide +kernel) (by decide) rfl rfl rfl rfl (Nat.le_of_ble_eq_true rfl) dX8_works_72 rfl rfl (by decide) rfl ?_
    have r9 : ((fs (fs (fs E 0 (8 + 10 * s + 5) 0) 0 (8 + 10 * s + 9) ((E 0 (8 + 10 * s + 9)) + 1)) 0 (208 + 7 * j + 3) ((E 0 (208 + 7 * j + 3)) + 1)) 0 (208 + 7 * j + 4) : Int32) = E 0 (208 + 7 * j + 4) := by rw [fs_at, if_neg (by omega), fs_at, if_neg (by omega), fs_at, if_neg (by omega)]
    refine hV_st (st' := [.int (E 0 (208 + 7 * j + 4)), .int 4, .int (nI j), .ref (q 0)]) (congrArg (fun z => Value.int z :: [.int 4, .int (nI j), .ref (q 0)]) r9) ?_
    refine haload_n X dX8_works_75 rfl ?_
    refine hiload_n X dX8_works_76 rfl ?_
    refine hiconst (v := 1) X dX8_works_77 rfl ?_
    refine hcallV0 (C := RX8) (T := TX8) (N := 14) (As := [.int (nI j), .int (nI 1)]) (rest := [.int (E 0 (208 + 7 * j + 4)), .int 4, .int (nI j), .ref (q 0)]) (st' := [.int ((fs (fs (fs E 0 (8 + 10 * s + 5) 0) 0 (8 + 10 * s + 9) ((E 0 (8 + 10 * s + 9)) + 1)) 0 (208 + 7 * j + 3) ((E 0 (208 + 7 * j + 3)) + 1)) 0 (208 + 7 * j + 1)), .int (E 0 (208 + 7 * j + 4)), .int 4, .int (nI j), .ref (q 0)]) (w := mW G q (fs (fs (fs E 0 (8 + 10 * s + 5) 0) 0 (8 + 10 * s + 9) ((E 0 (8 + 10 * s + 9)) + 1)) 0 (208 + 7 * j + 3) ((E 0 (208 + 7 * j + 3)) + 1))) X (q0 := 0) (kX8_ofCrewPart l G q (fs (fs (fs E 0 (8 + 10 * s + 5) 0) 0 (8 + 10 * s + 9) ((E 0 (8 + 10 * s + 9)) + 1)) 0 (208 + 7 * j + 3) ((E 0 (208 + 7 * j + 3)) + 1)) j 1 (by first | assumption | omega | exact mwoA h _ hs) (by first | assumption | omega | exact mwoA h _ hs)) gX8_works_X8_ofCrewPart rfl (n := 2) (by decide +kernel) (by decide) rfl rfl rfl rfl (Nat.le_of_ble_eq_true rfl) dX8_works_78 rfl rfl (by decide) rfl ?_
    have r10 : ((fs (fs (fs E 0 (8 + 10 * s + 5) 0) 0 (8 + 10 * s + 9) ((E 0 (8 + 10 * s + 9)) + 1)) 0 (208 + 7 * j + 3) ((E 0 (208 + 7 * j + 3)) + 1)) 0 (208 + 7 * j + 1) : Int32) = E 0 (208 + 7 * j + 1) := by rw [fs_at, if_neg (by omega), fs_at, if_neg (by omega), fs_at, if_neg (by omega)]
    refine hV_st (st' := [.int (E 0 (208 + 7 * j + 1)), .int (E 0 (208 + 7 * j + 4)), .int 4, .int (nI j), .ref (q 0)]) (congrArg (fun z => Value.int z :: [.int (E 0 (208 + 7 * j + 4)), .int 4, .int (nI j), .ref (q 0)]) r10) ?_
    refine hiadd X dX8_works_81 ?_
    refine hcallV0 (C := RX8) (T := TX8) (N := 14) (As := [.int (nI j), .int (nI 4), .int ((E 0 (208 + 7 * j + 4)) + (E 0 (208 + 7 * j + 1)))]) (rest := []) (st' := []) (w := mW G q (fs (fs (fs (fs E 0 (8 + 10 * s + 5) 0) 0 (8 + 10 * s + 9) ((E 0 (8 + 10 * s + 9)) + 1)) 0 (208 + 7 * j + 3) ((E 0 (208 + 7 * j + 3)) + 1)) 0 (208 + 7 * j + 4) ((E 0 (208 + 7 * j + 4)) + (E 0 (208 + 7 * j + 1))))) X (q0 := 0) (kX8_setCrew l G q (fs (fs (fs E 0 (8 + 10 * s + 5) 0) 0 (8 + 10 * s + 9) ((E 0 (8 + 10 * s + 9)) + 1)) 0 (208 + 7 * j + 3) ((E 0 (208 + 7 * j + 3)) + 1)) j 4 ((E 0 (208 + 7 * j + 4)) + (E 0 (208 + 7 * j + 1))) (by first | assumption | omega | exact mwoA h _ hs) (by first | assumption | omega | exact mwoA h _ hs)) gX8_works_X8_setCrew rfl (n := 3) (by decide +kernel) (by decide) rfl rfl rfl rfl (Nat.le_of_ble_eq_true rfl) dX8_works_82 rfl rfl (by decide) rfl ?_
    refine hiload_n X dX8_works_85 rfl ?_
    refine hif_le (tgt := 91) X dX8_works_86 (by decide) (fun c11 => ?_) (fun c11 => ?_)
    · refine haload_n X dX8_works_91 rfl ?_
      refine hiload_n X dX8_works_92 rfl ?_
      refine hiload_n X dX8_works_93 rfl ?_
      refine hcallV0 (C := RX8) (T := TX8) (N := 14) (As := [.int (nI j), .int (nI s)]) (rest := []) (st' := []) (w := mW G q (fiE n (fs (fs (fs (fs E 0 (8 + 10 * s + 5) 0) 0 (8 + 10 * s + 9) ((E 0 (8 + 10 * s + 9)) + 1)) 0 (208 + 7 * j + 3) ((E 0 (208 + 7 * j + 3)) + 1)) 0 (208 + 7 * j + 4) ((E 0 (208 + 7 * j + 4)) + (E 0 (208 + 7 * j + 1)))) j s)) X (q0 := 0) (kX8_finishes l G q (fs (fs (fs (fs E 0 (8 + 10 * s + 5) 0) 0 (8 + 10 * s + 9) ((E 0 (8 + 10 * s + 9)) + 1)) 0 (208 + 7 * j + 3) ((E 0 (208 + 7 * j + 3)) + 1)) 0 (208 + 7 * j + 4) ((E 0 (208 + 7 * j + 4)) + (E 0 (208 + 7 * j + 1)))) n c j s (by first | assumption | omega | exact mwoA h _ hs) (by first | assumption | omega | exact mwoA h _ hs) (by first | assumption | omega | exact mwoA h _ hs)) gX8_works_X8_finishes rfl (n := 2) (by decide +kernel) (by decide) rfl rfl rfl rfl (Nat.le_of_ble_eq_true rfl) dX8_works_94 rfl rfl (by decide) rfl ?_
      refine hiconst (v := 1) X dX8_works_97 rfl ?_
      refine hzret X rfl dX8_works_98 ⟨congrArg (fun z => some (Value.int z)) (?_ : 1 = bI (woL E j s ≤ 0)), ?_⟩
      · simp [bI, c1, c11]
      refine congrArg (mW G q) (?_ : (fiE n (fs (fs (fs (fs E 0 (8 + 10 * s + 5) 0) 0 (8 + 10 * s + 9) ((E 0 (8 + 10 * s + 9)) + 1)) 0 (208 + 7 * j + 3) ((E 0 (208 + 7 * j + 3)) + 1)) 0 (208 + 7 * j + 4) ((E 0 (208 + 7 * j + 4)) + (E 0 (208 + 7 * j + 1)))) j s : hF) = woE n E j s)
      first | (simp [woE, woA, c1, c11]; done) | (simp [woE, woA, e0]; done)
    · exact (i_no c1 c11).elim

set_option maxHeartbeats 4000000 in
set_option maxRecDepth 100000 in
theorem kX8_passesOne (l : Launch) (G : hG) (q : Nat → Nat) (E : hF) (n c : Nat) (h : mOk n c E) : hM l G yX8_passesOne wsX8_passesOne ({ frames := 6, cells := 0, slots := 0, locals := 153 }) (mW G q E) [.ref (q 0)] (hR (some (.int (poR n c E))) (mW G q (poE n c E))) := by
  refine hM_of (cc := cX8_passesOne) (maxL := 4) (ret := (some .int)) (by decide) rfl (Nat.le_of_ble_eq_true rfl) ?_
  intro pp ee ss mm aa bb me cd X hin
  have iX8 : ∀ w ∈ wsX80, w ∈ wsX8_passesOne := by decide +kernel
  have hn := h.hn
  have hc := h.hc
  have L2 : ∀ (d : Nat) (k : Nat), (k ≤ c) → (c - k) < d → hV pp l ee ({ frames := 6, cells := 0, slots := 0, locals := 153 }) ss mm aa bb me cd G (va_A (mW G q E) ss.heap.size) 4 0 0 (MQ bb (hQc G (mW G q E) ss.heap.size (hR (some (.int (poR n c E))) (mW G q (poE n c E)))) aa ss 0 0 (va_A (mW G q E) ss.heap.size)) (mW G q ((itN k (c2S n) (itN c (c1S n) (lorE n E), 0)).1)) 59 [(2, .int (nI k)), (1, .int ((itN k (c2S n) (itN c (c1S n) (lorE n E), 0)).2)), (0, .ref (q 0))] [] := by
    intro d
    induction d with
    | zero =>
      intro k hk hd0
      exact absurd hd0 (Nat.not_lt_zero _)
    | succ d ih =>
      intro k hk hd0
      have hI : mOk n c ((itN k (c2S n) (itN c (c1S n) (lorE n E), 0)).1) := mc2N (mc1N (mlorE h) (Nat.le_refl c)) hk
      refine hiload_n X dX8_passesOne_59 rfl ?_
      refine haload_n X dX8_passesOne_60 rfl ?_
      refine hget1 X (T := TX8) (N := 14) iX8 0 rfl rfl 0 (by decide) (by decide +kernel) rfl dX8_passesOne_61 ?_
      refine hiconst (v := 5) X dX8_passesOne_64 rfl ?_
      refine hiald (n := 250) (f := ((itN k (c2S n) (itN c (c1S n) (lorE n E), 0)).1) 0) X 1 rfl 5 rfl (by omega) (by decide) dX8_passesOne_65 ?_
      refine hV_st (st' := [.int (nI c), .int (nI k)]) (congrArg (fun z => Value.int z :: [.int (nI k)]) (hI.h5)) ?_
      refine hicmp_ge (tgt := 102) X dX8_passesOne_66 (by decide) (fun c1 => ?_) (fun c1 => ?_)
      · have ek := i_ge hk (by omega) c1
        refine haload_n X dX8_passesOne_102 rfl ?_
        refine hget1 X (T := TX8) (N := 14) iX8 0 rfl rfl 0 (by decide) (by decide +kernel) rfl dX8_passesOne_103 ?_
        refine hiconst (v := 3) X dX8_passesOne_106 rfl ?_
        refine hdup2 X dX8_passesOne_107 rfl rfl ?_
        refine hiald (n := 250) (f := ((itN k (c2S n) (itN c (c1S n) (lorE n E), 0)).1) 0) X 1 rfl 3 rfl (by omega) (by decide) dX8_passesOne_108 ?_
        refine hiconst (v := 1) X dX8_passesOne_109 rfl ?_
        refine hiadd X dX8_passesOne_110 ?_
        refine hiast (n := 250) (f := ((itN k (c2S n) (itN c (c1S n) (lorE n E), 0)).1) 0) X 1 rfl 3 rfl (by omega) (by decide) dX8_passesOne_111 (ws' := mW G q (fs ((itN k (c2S n) (itN c (c1S n) (lorE n E), 0)).1) 0 3 ((((itN k (c2S n) (itN c (c1S n) (lorE n E), 0)).1) 0 3) + 1))) rfl ?_
        refine hiload_n X dX8_passesOne_112 rfl ?_
        refine hiret X dX8_passesOne_113 ⟨congrArg (fun z => some (Value.int z)) (?_ : ((itN k (c2S n) (itN c (c1S n) (lorE n E), 0)).2) = poR n c E), ?_⟩
        · simp [poR, p1E, ek]
        refine congrArg (mW G q) (?_ : (fs ((itN k (c2S n) (itN c (c1S n) (lorE n E), 0)).1) 0 3 ((((itN k (c2S n) (itN c (c1S n) (lorE n E), 0)).1) 0 3) + 1) : hF) = poE n c E)
        simp [poE, p1E, ek]
      · have hk1 := i_lt hk (by omega) c1
        refine hiload_n X dX8_passesOne_69 rfl ?_
        refine haload_n X dX8_passesOne_70 rfl ?_
        refine hiload_n X dX8_passesOne_71 rfl ?_
        refine hiconst (v := 2) X dX8_passesOne_72 rfl ?_
        refine hcallV0 (C := RX8) (T := TX8) (N := 14) (As := [.int (nI k), .int (nI 2)]) (rest := [.int ((itN k (c2S n) (itN c (c1S n) (lorE n E), 0)).2)]) (st' := [.int (((itN k (c2S n) (itN c (c1S n) (lorE n E), 0)).1) 0 (208 + 7 * k + 2)), .int ((itN k (c2S n) (itN c (c1S n) (lorE n E), 0)).2)]) (w := mW G q ((itN k (c2S n) (itN c (c1S n) (lorE n E), 0)).1)) X (q0 := 0) (kX8_ofCrewPart l G q ((itN k (c2S n) (itN c (c1S n) (lorE n E), 0)).1) k 2 (by first | assumption | omega) (by first | assumption | omega)) gX8_passesOne_X8_ofCrewPart rfl (n := 2) (by decide +kernel) (by decide) rfl rfl rfl rfl (Nat.le_of_ble_eq_true rfl) dX8_passesOne_73 rfl rfl (by decide) rfl ?_
        refine hbipush (v := (-6)) X dX8_passesOne_76 rfl ?_
        refine hicmp_eq (tgt := 93) X dX8_passesOne_78 (by decide) (fun c2 => ?_) (fun c2 => ?_)
        · refine hiconst (v := 0) X dX8_passesOne_93 rfl ?_
          refine hiadd X dX8_passesOne_94 ?_
          refine histore_n (lv' := [(1, .int (((itN k (c2S n) (itN c (c1S n) (lorE n E), 0)).2) + 0)), (2, .int (nI k)), (0, .ref (q 0))]) X dX8_passesOne_95 (by decide) rfl ?_
          refine hiinc (v := nI (k + 1)) (lv' := [(2, .int (nI (k + 1))), (1, .int (((itN k (c2S n) (itN c (c1S n) (lorE n E), 0)).2) + 0)), (0, .ref (q 0))]) X dX8_passesOne_96 rfl (nI_1 _) (by decide) rfl ?_
          refine hgoto (tgt := 59) X dX8_passesOne_99 (by decide) ?_
          have e3 : (((itN k (c2S n) (itN c (c1S n) (lorE n E), 0)).2) + 0 : Int32) = (itN (k + 1) (c2S n) (itN c (c1S n) (lorE n E), 0)).2 := by
            first | (simp [itN, c2S, c1, c2]; done) | (simp [itN, c2S, hs2, nI_clamp (show s < 2 ^ 31 by omega), nI_ne6 (show s < 2 ^ 31 by omega), c1, c2]; done)
          have w4 : ((itN k (c2S n) (itN c (c1S n) (lorE n E), 0)).1 : hF) = (itN (k + 1) (c2S n) (itN c (c1S n) (lorE n E), 0)).1 := by
            first | (simp [itN, c2S, c1, c2]; done) | (simp [itN, c2S, hs2, nI_clamp (show s < 2 ^ 31 by omega), nI_ne6 (show s < 2 ^ 31 by omega), c1, c2]; done)
          exact hV_to (ws' := mW G q ((itN (k + 1) (c2S n) (itN c (c1S n) (lorE n E), 0)).1)) (lv' := [(2, .int (nI (k + 1))), (1, .int ((itN (k + 1) (c2S n) (itN c (c1S n) (lorE n E), 0)).2)), (0, .ref (q 0))]) (st' := []) (congrArg (mW G q) w4) (congrArg (fun z => ([(2, .int (nI (k + 1))), (1, .int z), (0, .ref (q 0))] : List (Nat × Value))) e3) rfl (ih (k + 1) (by omega) (by omega))
        · obtain ⟨s, hs1, hs2⟩ := (hI.hs k hk1).resolve_left c2
          refine haload_n X dX8_passesOne_81 rfl ?_
          refine hiload_n X dX8_passesOne_82 rfl ?_
          refine hcallV0 (C := RX8) (T := TX8) (N := 14) (As := [.int (nI k)]) (rest := [.int ((itN k (c2S n) (itN c (c1S n) (lorE n E), 0)).2)]) (st' := [.int (bI (woL ((itN k (c2S n) (itN c (c1S n) (lorE n E), 0)).1) k s ≤ 0)), .int ((itN k (c2S n) (itN c (c1S n) (lorE n E), 0)).2)]) (w := mW G q (woE n ((itN k (c2S n) (itN c (c1S n) (lorE n E), 0)).1) k s)) X (q0 := 0) (kX8_works l G q ((itN k (c2S n) (itN c (c1S n) (lorE n E), 0)).1) n c k s (by first | assumption | omega) (by first | assumption | omega) (hs1) (hs2)) gX8_passesOne_X8_works rfl (n := 1) (by decide +kernel) (by decide) rfl rfl rfl rfl (Nat.le_of_ble_eq_true rfl) dX8_passesOne_83 rfl rfl (by decide) rfl ?_
          refine hif_eqB (tgt := 93) X dX8_passesOne_86 (by decide) (fun c5 => ?_) (fun c5 => ?_)
          · refine hiconst (v := 0) X dX8_passesOne_93 rfl ?_
            refine hiadd X dX8_passesOne_94 ?_
            refine histore_n (lv' := [(1, .int (((itN k (c2S n) (itN c (c1S n) (lorE n E), 0)).2) + 0)), (2, .int (nI k)), (0, .ref (q 0))]) X dX8_passesOne_95 (by decide) rfl ?_
            refine hiinc (v := nI (k + 1)) (lv' := [(2, .int (nI (k + 1))), (1, .int (((itN k (c2S n) (itN c (c1S n) (lorE n E), 0)).2) + 0)), (0, .ref (q 0))]) X dX8_passesOne_96 rfl (nI_1 _) (by decide) rfl ?_
            refine hgoto (tgt := 59) X dX8_passesOne_99 (by decide) ?_
            have e6 : (((itN k (c2S n) (itN c (c1S n) (lorE n E), 0)).2) + 0 : Int32) = (itN (k + 1) (c2S n) (itN c (c1S n) (lorE n E), 0)).2 := by
              first | (simp [itN, c2S, c1, c2, c5]; done) | (simp [itN, c2S, hs2, nI_clamp (show s < 2 ^ 31 by omega), nI_ne6 (show s < 2 ^ 31 by omega), c1, c2, c5]; done)
            have w7 : (woE n ((itN k (c2S n) (itN c (c1S n) (lorE n E), 0)).1) k s : hF) = (itN (k + 1) (c2S n) (itN c (c1S n) (lorE n E), 0)).1 := by
              first | (simp [itN, c2S, c1, c2, c5]; done) | (simp [itN, c2S, hs2, nI_clamp (show s < 2 ^ 31 by omega), nI_ne6 (show s < 2 ^ 31 by omega), c1, c2, c5]; done)
            exact hV_to (ws' := mW G q ((itN (k + 1) (c2S n) (itN c (c1S n) (lorE n E), 0)).1)) (lv' := [(2, .int (nI (k + 1))), (1, .int ((itN (k + 1) (c2S n) (itN c (c1S n) (lorE n E), 0)).2)), (0, .ref (q 0))]) (st' := []) (congrArg (mW G q) w7) (congrArg (fun z => ([(2, .int (nI (k + 1))), (1, .int z), (0, .ref (q 0))] : List (Nat × Value))) e6) rfl (ih (k + 1) (by omega) (by omega))
          · refine hiconst (v := 1) X dX8_passesOne_89 rfl ?_
            refine hgoto (tgt := 94) X dX8_passesOne_90 (by decide) ?_
            refine hiadd X dX8_passesOne_94 ?_
            refine histore_n (lv' := [(1, .int (((itN k (c2S n) (itN c (c1S n) (lorE n E), 0)).2) + 1)), (2, .int (nI k)), (0, .ref (q 0))]) X dX8_passesOne_95 (by decide) rfl ?_
            refine hiinc (v := nI (k + 1)) (lv' := [(2, .int (nI (k + 1))), (1, .int (((itN k (c2S n) (itN c (c1S n) (lorE n E), 0)).2) + 1)), (0, .ref (q 0))]) X dX8_passesOne_96 rfl (nI_1 _) (by decide) rfl ?_
            refine hgoto (tgt := 59) X dX8_passesOne_99 (by decide) ?_
            have e8 : (((itN k (c2S n) (itN c (c1S n) (lorE n E), 0)).2) + 1 : Int32) = (itN (k + 1) (c2S n) (itN c (c1S n) (lorE n E), 0)).2 := by
              first | (simp [itN, c2S, c1, c2, c5]; done) | (simp [itN, c2S, hs2, nI_clamp (show s < 2 ^ 31 by omega), nI_ne6 (show s < 2 ^ 31 by omega), c1, c2, c5]; done)
            have w9 : (woE n ((itN k (c2S n) (itN c (c1S n) (lorE n E), 0)).1) k s : hF) = (itN (k + 1) (c2S n) (itN c (c1S n) (lorE n E), 0)).1 := by
              first | (simp [itN, c2S, c1, c2, c5]; done) | (simp [itN, c2S, hs2, nI_clamp (show s < 2 ^ 31 by omega), nI_ne6 (show s < 2 ^ 31 by omega), c1, c2, c5]; done)
            exact hV_to (ws' := mW G q ((itN (k + 1) (c2S n) (itN c (c1S n) (lorE n E), 0)).1)) (lv' := [(2, .int (nI (k + 1))), (1, .int ((itN (k + 1) (c2S n) (itN c (c1S n) (lorE n E), 0)).2)), (0, .ref (q 0))]) (st' := []) (congrArg (mW G q) w9) (congrArg (fun z => ([(2, .int (nI (k + 1))), (1, .int z), (0, .ref (q 0))] : List (Nat × Value))) e8) rfl (ih (k + 1) (by omega) (by omega))
  have L1 : ∀ (d : Nat) (k : Nat), (k ≤ c) → (c - k) < d → hV pp l ee ({ frames := 6, cells := 0, slots := 0, locals := 153 }) ss mm aa bb me cd G (va_A (mW G q E) ss.heap.size) 4 0 0 (MQ bb (hQc G (mW G q E) ss.heap.size (hR (some (.int (poR n c E))) (mW G q (poE n c E)))) aa ss 0 0 (va_A (mW G q E) ss.heap.size)) (mW G q (itN k (c1S n) (lorE n E))) 8 [(2, .int (nI k)), (1, .int 0), (0, .ref (q 0))] [] := by
    intro d
    induction d with
    | zero =>
      intro k hk hd0
      exact absurd hd0 (Nat.not_lt_zero _)
    | succ d ih =>
      intro k hk hd0
      have hI : mOk n c (itN k (c1S n) (lorE n E)) := mc1N (mlorE h) hk
      refine hiload_n X dX8_passesOne_8 rfl ?_
      refine haload_n X dX8_passesOne_9 rfl ?_
      refine hget1 X (T := TX8) (N := 14) iX8 0 rfl rfl 0 (by decide) (by decide +kernel) rfl dX8_passesOne_10 ?_
      refine hiconst (v := 5) X dX8_passesOne_13 rfl ?_
      refine hiald (n := 250) (f := (itN k (c1S n) (lorE n E)) 0) X 1 rfl 5 rfl (by omega) (by decide) dX8_passesOne_14 ?_
      refine hV_st (st' := [.int (nI c), .int (nI k)]) (congrArg (fun z => Value.int z :: [.int (nI k)]) (hI.h5)) ?_
      refine hicmp_ge (tgt := 57) X dX8_passesOne_15 (by decide) (fun c10 => ?_) (fun c10 => ?_)
      · have ek := i_ge hk (by omega) c10
        refine hiconst (v := 0) X dX8_passesOne_57 rfl ?_
        refine histore_n (lv' := [(2, .int 0), (1, .int 0), (0, .ref (q 0))]) X dX8_passesOne_58 (by decide) rfl ?_
        have e11 : (0 : Int32) = (itN 0 (c2S n) (itN c (c1S n) (lorE n E), 0)).2 := by
          first | (simp [itN, c2S, c10]; done) | (simp [itN, c2S, hs2, nI_clamp (show s < 2 ^ 31 by omega), nI_ne6 (show s < 2 ^ 31 by omega), c10]; done)
        have w12 : (itN k (c1S n) (lorE n E) : hF) = (itN 0 (c2S n) (itN c (c1S n) (lorE n E), 0)).1 := by
          rw [ek]
          rfl
        exact hV_to (ws' := mW G q ((itN 0 (c2S n) (itN c (c1S n) (lorE n E), 0)).1)) (lv' := [(2, .int 0), (1, .int ((itN 0 (c2S n) (itN c (c1S n) (lorE n E), 0)).2)), (0, .ref (q 0))]) (st' := []) (congrArg (mW G q) w12) (congrArg (fun z => ([(2, .int 0), (1, .int z), (0, .ref (q 0))] : List (Nat × Value))) e11) rfl (L2 _ 0 (by omega) (Nat.lt_succ_self _))
      · have hk1 := i_lt hk (by omega) c10
        refine haload_n X dX8_passesOne_18 rfl ?_
        refine hiload_n X dX8_passesOne_19 rfl ?_
        refine hiconst (v := 2) X dX8_passesOne_20 rfl ?_
        refine hcallV0 (C := RX8) (T := TX8) (N := 14) (As := [.int (nI k), .int (nI 2)]) (rest := []) (st' := [.int ((itN k (c1S n) (lorE n E)) 0 (208 + 7 * k + 2))]) (w := mW G q (itN k (c1S n) (lorE n E))) X (q0 := 0) (kX8_ofCrewPart l G q (itN k (c1S n) (lorE n E)) k 2 (by first | assumption | omega) (by first | assumption | omega)) gX8_passesOne_X8_ofCrewPart rfl (n := 2) (by decide +kernel) (by decide) rfl rfl rfl rfl (Nat.le_of_ble_eq_true rfl) dX8_passesOne_21 rfl rfl (by decide) rfl ?_
        refine hbipush (v := (-6)) X dX8_passesOne_24 rfl ?_
        refine hicmp_ne (tgt := 36) X dX8_passesOne_26 (by decide) (fun c13 => ?_) (fun c13 => ?_)
        · refine hbipush (v := (-6)) X dX8_passesOne_36 rfl ?_
          refine histore_n (lv' := [(3, .int (-6)), (2, .int (nI k)), (1, .int 0), (0, .ref (q 0))]) X dX8_passesOne_38 (by decide) rfl ?_
          refine hiload_n X dX8_passesOne_39 rfl ?_
          refine hbipush (v := (-6)) X dX8_passesOne_40 rfl ?_
          refine hicmp_eq (tgt := 51) X dX8_passesOne_42 (by decide) (fun c14 => ?_) (fun c14 => ?_)
          rotate_left
          · exact absurd (by decide) c14
          refine hiinc (v := nI (k + 1)) (lv' := [(2, .int (nI (k + 1))), (3, .int (-6)), (1, .int 0), (0, .ref (q 0))]) X dX8_passesOne_51 rfl (nI_1 _) (by decide) rfl ?_
          refine hgoto (tgt := 8) X dX8_passesOne_54 (by decide) ?_
          refine hV_lv (lv' := [(2, .int (nI (k + 1))), (1, .int 0), (0, .ref (q 0))]) [0, 2, 3] rfl ?_
          have w15 : (itN k (c1S n) (lorE n E) : hF) = itN (k + 1) (c1S n) (lorE n E) := by
            first | (simp [itN, c1S, c10, c13]; done) | (simp [itN, c1S, hs3, nI_clamp (show s < 2 ^ 31 by omega), nI_ne6 (show s < 2 ^ 31 by omega), c10, c13]; done)
          exact hV_to (ws' := mW G q (itN (k + 1) (c1S n) (lorE n E))) (lv' := [(2, .int (nI (k + 1))), (1, .int 0), (0, .ref (q 0))]) (st' := []) (congrArg (mW G q) w15) rfl rfl (ih (k + 1) (by omega) (by omega))
        · refine haload_n X dX8_passesOne_29 rfl ?_
          refine hcallV0 (C := RX8) (T := TX8) (N := 14) (As := []) (rest := []) (st' := [.int (nxE n (itN k (c1S n) (lorE n E)))]) (w := mW G q (itN k (c1S n) (lorE n E))) X (q0 := 0) (kX8_nextStand l G q (itN k (c1S n) (lorE n E)) n c (hI)) gX8_passesOne_X8_nextStand rfl (n := 0) (by decide +kernel) (by decide) rfl rfl rfl rfl (Nat.le_of_ble_eq_true rfl) dX8_passesOne_30 rfl rfl (by decide) rfl ?_
          refine hgoto (tgt := 38) X dX8_passesOne_33 (by decide) ?_
          refine histore_n (lv' := [(3, .int (nxE n (itN k (c1S n) (lorE n E)))), (2, .int (nI k)), (1, .int 0), (0, .ref (q 0))]) X dX8_passesOne_38 (by decide) rfl ?_
          refine hiload_n X dX8_passesOne_39 rfl ?_
          refine hbipush (v := (-6)) X dX8_passesOne_40 rfl ?_
          refine hicmp_eq (tgt := 51) X dX8_passesOne_42 (by decide) (fun c16 => ?_) (fun c16 => ?_)
          · refine hiinc (v := nI (k + 1)) (lv' := [(2, .int (nI (k + 1))), (3, .int (nxE n (itN k (c1S n) (lorE n E)))), (1, .int 0), (0, .ref (q 0))]) X dX8_passesOne_51 rfl (nI_1 _) (by decide) rfl ?_
            refine hgoto (tgt := 8) X dX8_passesOne_54 (by decide) ?_
            refine hV_lv (lv' := [(2, .int (nI (k + 1))), (1, .int 0), (0, .ref (q 0))]) [0, 2, 3] rfl ?_
            have w17 : (itN k (c1S n) (lorE n E) : hF) = itN (k + 1) (c1S n) (lorE n E) := by
              first | (simp [itN, c1S, c10, c13, c16]; done) | (simp [itN, c1S, hs3, nI_clamp (show s < 2 ^ 31 by omega), nI_ne6 (show s < 2 ^ 31 by omega), c10, c13, c16]; done)
            exact hV_to (ws' := mW G q (itN (k + 1) (c1S n) (lorE n E))) (lv' := [(2, .int (nI (k + 1))), (1, .int 0), (0, .ref (q 0))]) (st' := []) (congrArg (mW G q) w17) rfl rfl (ih (k + 1) (by omega) (by omega))
          · obtain ⟨s, hs1, hs2⟩ := (nxE_of n (itN k (c1S n) (lorE n E)) n (Nat.le_refl n)).resolve_left c16
            have hs3 : nxE n (itN k (c1S n) (lorE n E)) = nI s := hs2
            refine haload_n X dX8_passesOne_45 rfl ?_
            refine hiload_n X dX8_passesOne_46 rfl ?_
            refine hiload_n X dX8_passesOne_47 rfl ?_
            refine hV_st (st' := [.int (nI s), .int (nI k), .ref (q 0)]) (congrArg (fun z => ([Value.int z, .int (nI k), .ref (q 0)] : List Value)) (hs3)) ?_
            refine hcallV0 (C := RX8) (T := TX8) (N := 14) (As := [.int (nI k), .int (nI s)]) (rest := []) (st' := []) (w := mW G q (taE (itN k (c1S n) (lorE n E)) k s)) X (q0 := 0) (kX8_takes l G q (itN k (c1S n) (lorE n E)) k s (by first | assumption | omega) (by first | assumption | omega)) gX8_passesOne_X8_takes rfl (n := 2) (by decide +kernel) (by decide) rfl rfl rfl rfl (Nat.le_of_ble_eq_true rfl) dX8_passesOne_48 rfl rfl (by decide) rfl ?_
            refine hiinc (v := nI (k + 1)) (lv' := [(2, .int (nI (k + 1))), (3, .int (nxE n (itN k (c1S n) (lorE n E)))), (1, .int 0), (0, .ref (q 0))]) X dX8_passesOne_51 rfl (nI_1 _) (by decide) rfl ?_
            refine hgoto (tgt := 8) X dX8_passesOne_54 (by decide) ?_
            refine hV_lv (lv' := [(2, .int (nI (k + 1))), (1, .int 0), (0, .ref (q 0))]) [0, 2, 3] rfl ?_
            have w18 : (taE (itN k (c1S n) (lorE n E)) k s : hF) = itN (k + 1) (c1S n) (lorE n E) := by
              first | (simp [itN, c1S, c10, c13, c16]; done) | (simp [itN, c1S, hs3, nI_clamp (show s < 2 ^ 31 by omega), nI_ne6 (show s < 2 ^ 31 by omega), c10, c13, c16]; done)
            exact hV_to (ws' := mW G q (itN (k + 1) (c1S n) (lorE n E))) (lv' := [(2, .int (nI (k + 1))), (1, .int 0), (0, .ref (q 0))]) (st' := []) (congrArg (mW G q) w18) rfl rfl (ih (k + 1) (by omega) (by omega))
  refine hiconst (v := 0) X dX8_passesOne_0 rfl ?_
  refine histore_n (lv' := [(1, .int 0), (0, .ref (q 0))]) X dX8_passesOne_1 (by decide) rfl ?_
  refine haload_n X dX8_passesOne_2 rfl ?_
  refine hcallV0 (C := RX8) (T := TX8) (N := 14) (As := []) (rest := []) (st' := []) (w := mW G q (lorE n E)) X (q0 := 0) (kX8_lorries l G q E n c (h)) gX8_passesOne_X8_lorries rfl (n := 0) (by decide +kernel) (by decide) rfl rfl rfl rfl (Nat.le_of_ble_eq_true rfl) dX8_passesOne_3 rfl rfl (by decide) rfl ?_
  refine hiconst (v := 0) X dX8_passesOne_6 rfl ?_
  refine histore_n (lv' := [(2, .int 0), (1, .int 0), (0, .ref (q 0))]) X dX8_passesOne_7 (by decide) rfl ?_
  have w19 : (lorE n E : hF) = itN 0 (c1S n) (lorE n E) := by
    first | (simp [itN, c1S]; done) | (simp [itN, c1S, hs3, nI_clamp (show s < 2 ^ 31 by omega), nI_ne6 (show s < 2 ^ 31 by omega)]; done)
  exact hV_to (ws' := mW G q (itN 0 (c1S n) (lorE n E))) (lv' := [(2, .int 0), (1, .int 0), (0, .ref (q 0))]) (st' := []) (congrArg (mW G q) w19) rfl rfl (L1 _ 0 (by omega) (Nat.lt_succ_self _))

set_option maxHeartbeats 4000000 in
set_option maxRecDepth 100000 in
theorem kX8_passes (l : Launch) (G : hG) (q : Nat → Nat) (E : hF) (n c hh : Nat) (h : mOk n c E) (hb : hh < 2 ^ 31) : hM l G yX8_passes wsX8_passes ({ frames := 7, cells := 0, slots := 0, locals := 176 }) (mW G q E) [.ref (q 0), .int (nI hh)] (hR (some (.int ((psE n c hh E).2))) (mW G q ((psE n c hh E).1))) := by
  refine hM_of (cc := cX8_passes) (maxL := 4) (ret := (some .int)) (by decide) rfl (Nat.le_of_ble_eq_true rfl) ?_
  intro pp ee ss mm aa bb me cd X hin
  have L : ∀ (d : Nat) (k : Nat), (k ≤ hh) → (hh - k) < d → hV pp l ee ({ frames := 7, cells := 0, slots := 0, locals := 176 }) ss mm aa bb me cd G (va_A (mW G q E) ss.heap.size) 4 0 0 (MQ bb (hQc G (mW G q E) ss.heap.size (hR (some (.int ((psE n c hh E).2))) (mW G q ((psE n c hh E).1)))) aa ss 0 0 (va_A (mW G q E) ss.heap.size)) (mW G q ((itN k (psS n c) (E, 0)).1)) 4 [(3, .int (nI k)), (2, .int ((itN k (psS n c) (E, 0)).2)), (0, .ref (q 0)), (1, .int (nI hh))] [] := by
    intro d
    induction d with
    | zero =>
      intro k hk hd0
      exact absurd hd0 (Nat.not_lt_zero _)
    | succ d ih =>
      intro k hk hd0
      have hI : mOk n c ((itN k (psS n c) (E, 0)).1) := mpsN h k
      refine hiload_n X dX8_passes_4 rfl ?_
      refine hiload_n X dX8_passes_5 rfl ?_
      refine hicmp_ge (tgt := 22) X dX8_passes_6 (by decide) (fun c1 => ?_) (fun c1 => ?_)
      · have ek := i_ge hk (by omega) c1
        refine hiload_n X dX8_passes_22 rfl ?_
        refine hiret X dX8_passes_23 ⟨congrArg (fun z => some (Value.int z)) (?_ : ((itN k (psS n c) (E, 0)).2) = (psE n c hh E).2), ?_⟩
        · simp [psE, ek]
        refine congrArg (mW G q) (?_ : ((itN k (psS n c) (E, 0)).1 : hF) = (psE n c hh E).1)
        simp [psE, ek]
      · have hk1 := i_lt hk (by omega) c1
        refine hiload_n X dX8_passes_9 rfl ?_
        refine haload_n X dX8_passes_10 rfl ?_
        refine hcallV0 (C := RX8) (T := TX8) (N := 14) (As := []) (rest := [.int ((itN k (psS n c) (E, 0)).2)]) (st' := [.int (poR n c ((itN k (psS n c) (E, 0)).1)), .int ((itN k (psS n c) (E, 0)).2)]) (w := mW G q (poE n c ((itN k (psS n c) (E, 0)).1))) X (q0 := 0) (kX8_passesOne l G q ((itN k (psS n c) (E, 0)).1) n c (hI)) gX8_passes_X8_passesOne rfl (n := 0) (by decide +kernel) (by decide) rfl rfl rfl rfl (Nat.le_of_ble_eq_true rfl) dX8_passes_11 rfl rfl (by decide) rfl ?_
        refine hiadd X dX8_passes_14 ?_
        refine histore_n (lv' := [(2, .int (((itN k (psS n c) (E, 0)).2) + (poR n c ((itN k (psS n c) (E, 0)).1)))), (3, .int (nI k)), (0, .ref (q 0)), (1, .int (nI hh))]) X dX8_passes_15 (by decide) rfl ?_
        refine hiinc (v := nI (k + 1)) (lv' := [(3, .int (nI (k + 1))), (2, .int (((itN k (psS n c) (E, 0)).2) + (poR n c ((itN k (psS n c) (E, 0)).1)))), (0, .ref (q 0)), (1, .int (nI hh))]) X dX8_passes_16 rfl (nI_1 _) (by decide) rfl ?_
        refine hgoto (tgt := 4) X dX8_passes_19 (by decide) ?_
        have e2 : (((itN k (psS n c) (E, 0)).2) + (poR n c ((itN k (psS n c) (E, 0)).1)) : Int32) = (itN (k + 1) (psS n c) (E, 0)).2 := by
          simp [itN, psS, c1]
        have w3 : (poE n c ((itN k (psS n c) (E, 0)).1) : hF) = (itN (k + 1) (psS n c) (E, 0)).1 := by
          simp [itN, psS, c1]
        exact hV_to (ws' := mW G q ((itN (k + 1) (psS n c) (E, 0)).1)) (lv' := [(3, .int (nI (k + 1))), (2, .int ((itN (k + 1) (psS n c) (E, 0)).2)), (0, .ref (q 0)), (1, .int (nI hh))]) (st' := []) (congrArg (mW G q) w3) (congrArg (fun z => ([(3, .int (nI (k + 1))), (2, .int z), (0, .ref (q 0)), (1, .int (nI hh))] : List (Nat × Value))) e2) rfl (ih (k + 1) (by omega) (by omega))
  refine hiconst (v := 0) X dX8_passes_0 rfl ?_
  refine histore_n (lv' := [(2, .int 0), (0, .ref (q 0)), (1, .int (nI hh))]) X dX8_passes_1 (by decide) rfl ?_
  refine hiconst (v := 0) X dX8_passes_2 rfl ?_
  refine histore_n (lv' := [(3, .int 0), (2, .int 0), (0, .ref (q 0)), (1, .int (nI hh))]) X dX8_passes_3 (by decide) rfl ?_
  have e4 : (0 : Int32) = (itN 0 (psS n c) (E, 0)).2 := by
    simp [itN, psS]
  have w5 : (E : hF) = (itN 0 (psS n c) (E, 0)).1 := by
    simp [itN, psS]
  exact hV_to (ws' := mW G q ((itN 0 (psS n c) (E, 0)).1)) (lv' := [(3, .int 0), (2, .int ((itN 0 (psS n c) (E, 0)).2)), (0, .ref (q 0)), (1, .int (nI hh))]) (st' := []) (congrArg (mW G q) w5) (congrArg (fun z => ([(3, .int 0), (2, .int z), (0, .ref (q 0)), (1, .int (nI hh))] : List (Nat × Value))) e4) rfl (L _ 0 (by omega) (Nat.lt_succ_self _))

