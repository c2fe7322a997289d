set_option maxHeartbeats 4000000 in
set_option maxRecDepth 100000 in
theorem kX8_hasBase (l : Launch) (G : hG) (q : Nat → Nat) (E : hF) (s n : Nat) (hn : n ≤ 20) (hs : s < n) (hb : E 0 (8 + 10 * s + 3) = -6 ∨ ∃ b, b < n ∧ E 0 (8 + 10 * s + 3) = nI b) : hM l G yX8_hasBase wsX8_hasBase ({ frames := 3, cells := 0, slots := 0, locals := 84 }) (mW G q E) [.ref (q 0), .int (nI s)] (hR (some (.int (bI (hasB E s)))) (mW G q E)) := by
  refine hM_of (cc := cX8_hasBase) (maxL := 2) (ret := (some .boolean)) (by decide) rfl (Nat.le_of_ble_eq_true rfl) ?_
  intro pp ee ss mm aa bb me cd X hin
  refine haload_n X dX8_hasBase_0 rfl ?_
  refine hiload_n X dX8_hasBase_1 rfl ?_
  refine hiconst (v := 3) X dX8_hasBase_2 rfl ?_
  refine hcallV0 (C := RX8) (T := TX8) (N := 14) (As := [.int (nI s), .int (nI 3)]) (rest := []) (st' := [.int (E 0 (8 + 10 * s + 3))]) (w := mW G q E) X (q0 := 0) (kX8_part l G q E s 3 (by first | assumption | omega | simp [fs_at, *]) (by first | assumption | omega | simp [fs_at, *])) gX8_hasBase_X8_part rfl (n := 2) (by decide +kernel) (by decide) rfl rfl rfl rfl (Nat.le_of_ble_eq_true rfl) dX8_hasBase_3 rfl rfl (by decide) rfl ?_
  refine hbipush (v := (-6)) X dX8_hasBase_6 rfl ?_
  refine hicmp_eq (tgt := 25) X dX8_hasBase_8 (by decide) (fun c1 => ?_) (fun c1 => ?_)
  · refine hiconst (v := 1) X dX8_hasBase_25 rfl ?_
    refine hgoto (tgt := 30) X dX8_hasBase_26 (by decide) ?_
    refine hzret X rfl dX8_hasBase_30 ⟨congrArg (fun z => some (Value.int z)) (?_ : 1 = bI (hasB E s)), ?_⟩
    · first | (simp [bI, hasB, c1]; done) | (simp [bI, hasB, hb2, nI_clamp (show b < 2 ^ 31 by omega), nI_ne6 (show b < 2 ^ 31 by omega), c1]; done)
    rfl
  · obtain ⟨b, hb1, hb2⟩ := hb.resolve_left c1
    refine haload_n X dX8_hasBase_11 rfl ?_
    refine haload_n X dX8_hasBase_12 rfl ?_
    refine hiload_n X dX8_hasBase_13 rfl ?_
    refine hiconst (v := 3) X dX8_hasBase_14 rfl ?_
    refine hcallV0 (C := RX8) (T := TX8) (N := 14) (As := [.int (nI s), .int (nI 3)]) (rest := [.ref (q 0)]) (st' := [.int (E 0 (8 + 10 * s + 3)), .ref (q 0)]) (w := mW G q E) X (q0 := 0) (kX8_part l G q E s 3 (by first | assumption | omega | simp [fs_at, *]) (by first | assumption | omega | simp [fs_at, *])) gX8_hasBase_X8_part rfl (n := 2) (by decide +kernel) (by decide) rfl rfl rfl rfl (Nat.le_of_ble_eq_true rfl) dX8_hasBase_15 rfl rfl (by decide) rfl ?_
    refine hV_st (st' := [.int (nI b), .ref (q 0)]) (congrArg (fun z => ([Value.int z, .ref (q 0)] : List Value)) (hb2)) ?_
    refine hiconst (v := 4) X dX8_hasBase_18 rfl ?_
    refine hcallV0 (C := RX8) (T := TX8) (N := 14) (As := [.int (nI b), .int 4]) (rest := []) (st' := [.int (bI (E 0 (8 + 10 * b + 4) = 4))]) (w := mW G q E) X (q0 := 0) (kX8_isHow l G q E b 4 (by first | assumption | omega | simp [fs_at, *])) gX8_hasBase_X8_isHow rfl (n := 2) (by decide +kernel) (by decide) rfl rfl rfl rfl (Nat.le_of_ble_eq_true rfl) dX8_hasBase_19 rfl rfl (by decide) rfl ?_
    refine hif_eqB (tgt := 29) X dX8_hasBase_22 (by decide) (fun c2 => ?_) (fun c2 => ?_)
    · refine hiconst (v := 0) X dX8_hasBase_29 rfl ?_
      refine hzret X rfl dX8_hasBase_30 ⟨congrArg (fun z => some (Value.int z)) (?_ : 0 = bI (hasB E s)), ?_⟩
      · first | (simp [bI, hasB, c1, c2]; done) | (simp [bI, hasB, hb2, nI_clamp (show b < 2 ^ 31 by omega), nI_ne6 (show b < 2 ^ 31 by omega), c1, c2]; done)
      rfl
    · refine hiconst (v := 1) X dX8_hasBase_25 rfl ?_
      refine hgoto (tgt := 30) X dX8_hasBase_26 (by decide) ?_
      refine hzret X rfl dX8_hasBase_30 ⟨congrArg (fun z => some (Value.int z)) (?_ : 1 = bI (hasB E s)), ?_⟩
      · first | (simp [bI, hasB, c1, c2]; done) | (simp [bI, hasB, hb2, nI_clamp (show b < 2 ^ 31 by omega), nI_ne6 (show b < 2 ^ 31 by omega), c1, c2]; done)
      rfl

set_option maxHeartbeats 4000000 in
set_option maxRecDepth 100000 in
theorem kX8_lorries (l : Launch) (G : hG) (q : Nat → Nat) (E : hF) (n c : Nat) (h : mOk n c E) : hM l G yX8_lorries wsX8_lorries ({ frames := 4, cells := 0, slots := 0, locals := 106 }) (mW G q E) [.ref (q 0)] (hR none (mW G q (lorE n E))) := by
  refine hM_of (cc := cX8_lorries) (maxL := 3) (ret := none) (by decide) rfl (Nat.le_of_ble_eq_true rfl) ?_
  intro pp ee ss mm aa bb me cd X hin
  have iX8 : ∀ w ∈ wsX80, w ∈ wsX8_lorries := by decide +kernel
  have hn := h.hn
  have L3 : ∀ (d : Nat) (k : Nat), (k ≤ n) → (n - k) < d → hV pp l ee ({ frames := 4, cells := 0, slots := 0, locals := 106 }) ss mm aa bb me cd G (va_A (mW G q E) ss.heap.size) 3 0 0 (MQ bb (hQc G (mW G q E) ss.heap.size (hR none (mW G q (lorE n E)))) aa ss 0 0 (va_A (mW G q E) ss.heap.size)) (mW G q (itN k tkS (cmE n n 0 (itN n lvS E)))) 129 [(2, .int (nI k)), (0, .ref (q 0))] [] := by
    intro d
    induction d with
    | zero =>
      intro k hk hd0
      exact absurd hd0 (Nat.not_lt_zero _)
    | succ d ih =>
      intro k hk hd0
      have hI : mOk n c (itN k tkS (cmE n n 0 (itN n lvS E))) := itN_P (mcmE n 0 (itN_P h n fun _ _ hi hx => mlvS hx hi) (by omega)) k fun _ _ hi hx => mtkS hx (by omega)
      refine hiload_n X dX8_lorries_129 rfl ?_
      refine haload_n X dX8_lorries_130 rfl ?_
      refine hget1 X (T := TX8) (N := 14) iX8 0 rfl rfl 0 (by decide) (by decide +kernel) rfl dX8_lorries_131 ?_
      refine hiconst (v := 4) X dX8_lorries_134 rfl ?_
      refine hiald (n := 250) (f := (itN k tkS (cmE n n 0 (itN n lvS E))) 0) X 1 rfl 4 rfl (by omega) (by decide) dX8_lorries_135 ?_
      refine hV_st (st' := [.int (nI n), .int (nI k)]) (congrArg (fun z => Value.int z :: [.int (nI k)]) (hI.h4)) ?_
      refine hicmp_ge (tgt := 170) X dX8_lorries_136 (by decide) (fun c1 => ?_) (fun c1 => ?_)
      · have ek := i_ge hk (by omega) c1
        refine hvret X dX8_lorries_170 ⟨rfl, ?_⟩
        refine congrArg (mW G q) (?_ : (itN k tkS (cmE n n 0 (itN n lvS E)) : hF) = lorE n E)
        simp [lorE, ek]
      · have hk1 := i_lt hk (by omega) c1
        refine haload_n X dX8_lorries_139 rfl ?_
        refine hiload_n X dX8_lorries_140 rfl ?_
        refine hiconst (v := 1) X dX8_lorries_141 rfl ?_
        refine hcallV0 (C := RX8) (T := TX8) (N := 14) (As := [.int (nI k), .int 1]) (rest := []) (st' := [.int (bI ((itN k tkS (cmE n n 0 (itN n lvS E))) 0 (8 + 10 * k + 4) = 1))]) (w := mW G q (itN k tkS (cmE n n 0 (itN n lvS E)))) X (q0 := 0) (kX8_isHow l G q (itN k tkS (cmE n n 0 (itN n lvS E))) k 1 (by first | assumption | omega | exact hI.h4)) gX8_lorries_X8_isHow rfl (n := 2) (by decide +kernel) (by decide) rfl rfl rfl rfl (Nat.le_of_ble_eq_true rfl) dX8_lorries_142 rfl rfl (by decide) rfl ?_
        refine hif_eqB (tgt := 164) X dX8_lorries_145 (by decide) (fun c2 => ?_) (fun c2 => ?_)
        · refine hiinc (v := nI (k + 1)) (lv' := [(2, .int (nI (k + 1))), (0, .ref (q 0))]) X dX8_lorries_164 rfl (nI_1 _) (by decide) rfl ?_
          refine hgoto (tgt := 129) X dX8_lorries_167 (by decide) ?_
          have w3 : (itN k tkS (cmE n n 0 (itN n lvS E)) : hF) = itN (k + 1) tkS (cmE n n 0 (itN n lvS E)) := by
            simp [itN, tkS, c1, c2]
          exact hV_to (ws' := mW G q (itN (k + 1) tkS (cmE n n 0 (itN n lvS E)))) (lv' := [(2, .int (nI (k + 1))), (0, .ref (q 0))]) (st' := []) (congrArg (mW G q) w3) rfl rfl (ih (k + 1) (by omega) (by omega))
        · refine haload_n X dX8_lorries_148 rfl ?_
          refine hiload_n X dX8_lorries_149 rfl ?_
          refine hbipush (v := 8) X dX8_lorries_150 rfl ?_
          refine haload_n X dX8_lorries_152 rfl ?_
          refine hiload_n X dX8_lorries_153 rfl ?_
          refine hbipush (v := 8) X dX8_lorries_154 rfl ?_
          refine hcallV0 (C := RX8) (T := TX8) (N := 14) (As := [.int (nI k), .int (nI 8)]) (rest := [.int 8, .int (nI k), .ref (q 0)]) (st' := [.int ((itN k tkS (cmE n n 0 (itN n lvS E))) 0 (8 + 10 * k + 8)), .int 8, .int (nI k), .ref (q 0)]) (w := mW G q (itN k tkS (cmE n n 0 (itN n lvS E)))) X (q0 := 0) (kX8_part l G q (itN k tkS (cmE n n 0 (itN n lvS E))) k 8 (by first | assumption | omega | exact hI.h4) (by first | assumption | omega | exact hI.h4)) gX8_lorries_X8_part rfl (n := 2) (by decide +kernel) (by decide) rfl rfl rfl rfl (Nat.le_of_ble_eq_true rfl) dX8_lorries_156 rfl rfl (by decide) rfl ?_
          refine hiconst (v := 1) X dX8_lorries_159 rfl ?_
          refine hisub X dX8_lorries_160 ?_
          refine hcallV0 (C := RX8) (T := TX8) (N := 14) (As := [.int (nI k), .int (nI 8), .int (((itN k tkS (cmE n n 0 (itN n lvS E))) 0 (8 + 10 * k + 8)) - 1)]) (rest := []) (st' := []) (w := mW G q (fs (itN k tkS (cmE n n 0 (itN n lvS E))) 0 (8 + 10 * k + 8) (((itN k tkS (cmE n n 0 (itN n lvS E))) 0 (8 + 10 * k + 8)) - 1))) X (q0 := 0) (kX8_setPart l G q (itN k tkS (cmE n n 0 (itN n lvS E))) k 8 (((itN k tkS (cmE n n 0 (itN n lvS E))) 0 (8 + 10 * k + 8)) - 1) (by first | assumption | omega | exact hI.h4) (by first | assumption | omega | exact hI.h4)) gX8_lorries_X8_setPart rfl (n := 3) (by decide +kernel) (by decide) rfl rfl rfl rfl (Nat.le_of_ble_eq_true rfl) dX8_lorries_161 rfl rfl (by decide) rfl ?_
          refine hiinc (v := nI (k + 1)) (lv' := [(2, .int (nI (k + 1))), (0, .ref (q 0))]) X dX8_lorries_164 rfl (nI_1 _) (by decide) rfl ?_
          refine hgoto (tgt := 129) X dX8_lorries_167 (by decide) ?_
          have w4 : (fs (itN k tkS (cmE n n 0 (itN n lvS E))) 0 (8 + 10 * k + 8) (((itN k tkS (cmE n n 0 (itN n lvS E))) 0 (8 + 10 * k + 8)) - 1) : hF) = itN (k + 1) tkS (cmE n n 0 (itN n lvS E)) := by
            simp [itN, tkS, c1, c2]
          exact hV_to (ws' := mW G q (itN (k + 1) tkS (cmE n n 0 (itN n lvS E)))) (lv' := [(2, .int (nI (k + 1))), (0, .ref (q 0))]) (st' := []) (congrArg (mW G q) w4) rfl rfl (ih (k + 1) (by omega) (by omega))
  have L2 : ∀ (d : Nat) (k : Nat) (E' : hF), (k ≤ n) → (mOk n c E') → (cmE n (n - k) k E' = cmE n n 0 (itN n lvS E)) → (n - k) < d → hV pp l ee ({ frames := 4, cells := 0, slots := 0, locals := 106 }) ss mm aa bb me cd G (va_A (mW G q E) ss.heap.size) 3 0 0 (MQ bb (hQc G (mW G q E) ss.heap.size (hR none (mW G q (lorE n E)))) aa ss 0 0 (va_A (mW G q E) ss.heap.size)) (mW G q E') 48 [(2, .int (nI k)), (1, .int 1), (0, .ref (q 0))] [] := by
    intro d
    induction d with
    | zero =>
      intro k E' hk hI hE hd0
      exact absurd hd0 (Nat.not_lt_zero _)
    | succ d ih =>
      intro k E' hk hI hE hd0
      refine hiload_n X dX8_lorries_48 rfl ?_
      refine haload_n X dX8_lorries_49 rfl ?_
      refine hget1 X (T := TX8) (N := 14) iX8 0 rfl rfl 0 (by decide) (by decide +kernel) rfl dX8_lorries_50 ?_
      refine hiconst (v := 4) X dX8_lorries_53 rfl ?_
      refine hiald (n := 250) (f := E' 0) X 1 rfl 4 rfl (by omega) (by decide) dX8_lorries_54 ?_
      refine hV_st (st' := [.int (nI n), .int (nI k)]) (congrArg (fun z => Value.int z :: [.int (nI k)]) (hI.h4)) ?_
      refine hicmp_ge (tgt := 127) X dX8_lorries_55 (by decide) (fun c5 => ?_) (fun c5 => ?_)
      · have ek := i_ge hk (by omega) c5
        refine hiconst (v := 0) X dX8_lorries_127 rfl ?_
        refine histore_n (lv' := [(2, .int 0), (1, .int 1), (0, .ref (q 0))]) X dX8_lorries_128 (by decide) rfl ?_
        refine hV_lv (lv' := [(2, .int 0), (0, .ref (q 0))]) [0, 2] rfl ?_
        have w6 : (E' : hF) = itN 0 tkS (cmE n n 0 (itN n lvS E)) := by
          rw [ek, Nat.sub_self] at hE
          exact hE
        exact hV_to (ws' := mW G q (itN 0 tkS (cmE n n 0 (itN n lvS E)))) (lv' := [(2, .int 0), (0, .ref (q 0))]) (st' := []) (congrArg (mW G q) w6) rfl rfl (L3 _ 0 (by omega) (Nat.lt_succ_self _))
      · have hk1 := i_lt hk (by omega) c5
        refine hiload_n X dX8_lorries_58 rfl ?_
        refine hif_eq (tgt := 127) X dX8_lorries_59 (by decide) (fun c7 => ?_) (fun c7 => ?_)
        · exact absurd c7 (by decide)
        refine haload_n X dX8_lorries_62 rfl ?_
        refine hiload_n X dX8_lorries_63 rfl ?_
        refine hiconst (v := 0) X dX8_lorries_64 rfl ?_
        refine hcallV0 (C := RX8) (T := TX8) (N := 14) (As := [.int (nI k), .int 0]) (rest := []) (st' := [.int (bI (E' 0 (8 + 10 * k + 4) = 0))]) (w := mW G q E') X (q0 := 0) (kX8_isHow l G q E' k 0 (by first | assumption | omega | exact hI.h4)) gX8_lorries_X8_isHow rfl (n := 2) (by decide +kernel) (by decide) rfl rfl rfl rfl (Nat.le_of_ble_eq_true rfl) dX8_lorries_65 rfl rfl (by decide) rfl ?_
        refine hif_eqB (tgt := 121) X dX8_lorries_68 (by decide) (fun c8 => ?_) (fun c8 => ?_)
        · refine hiinc (v := nI (k + 1)) (lv' := [(2, .int (nI (k + 1))), (1, .int 1), (0, .ref (q 0))]) X dX8_lorries_121 rfl (nI_1 _) (by decide) rfl ?_
          refine hgoto (tgt := 48) X dX8_lorries_124 (by decide) ?_
          exact hV_to (ws' := mW G q E') (lv' := [(2, .int (nI (k + 1))), (1, .int 1), (0, .ref (q 0))]) (st' := []) rfl rfl rfl (ih (k + 1) E' (by omega) hI (by rw [show n - k = (n - (k + 1)) + 1 by omega] at hE; simpa [cmE, c5, c8] using hE) (by omega))
        · refine haload_n X dX8_lorries_71 rfl ?_
          refine hcallV0 (C := RX8) (T := TX8) (N := 14) (As := []) (rest := []) (st' := [.int (metE n E')]) (w := mW G q E') X (q0 := 0) (kX8_meters l G q E' n (by first | assumption | omega | exact hI.h4) (by first | assumption | omega | exact hI.h4)) gX8_lorries_X8_meters rfl (n := 0) (by decide +kernel) (by decide) rfl rfl rfl rfl (Nat.le_of_ble_eq_true rfl) dX8_lorries_72 rfl rfl (by decide) rfl ?_
          refine haload_n X dX8_lorries_75 rfl ?_
          refine hiload_n X dX8_lorries_76 rfl ?_
          refine hiconst (v := 1) X dX8_lorries_77 rfl ?_
          refine hcallV0 (C := RX8) (T := TX8) (N := 14) (As := [.int (nI k), .int (nI 1)]) (rest := [.int (metE n E')]) (st' := [.int (E' 0 (8 + 10 * k + 1)), .int (metE n E')]) (w := mW G q E') X (q0 := 0) (kX8_part l G q E' k 1 (by first | assumption | omega | exact hI.h4) (by first | assumption | omega | exact hI.h4)) gX8_lorries_X8_part rfl (n := 2) (by decide +kernel) (by decide) rfl rfl rfl rfl (Nat.le_of_ble_eq_true rfl) dX8_lorries_78 rfl rfl (by decide) rfl ?_
          refine hiadd X dX8_lorries_81 ?_
          refine haload_n X dX8_lorries_82 rfl ?_
          refine hget1 X (T := TX8) (N := 14) iX8 0 rfl rfl 0 (by decide) (by decide +kernel) rfl dX8_lorries_83 ?_
          refine hiconst (v := 0) X dX8_lorries_86 rfl ?_
          refine hiald (n := 250) (f := E' 0) X 1 rfl 0 rfl (by omega) (by decide) dX8_lorries_87 ?_
          refine hicmp_gt (tgt := 95) X dX8_lorries_88 (by decide) (fun c9 => ?_) (fun c9 => ?_)
          · refine hiconst (v := 0) X dX8_lorries_95 rfl ?_
            refine histore_n (lv' := [(1, .int 0), (2, .int (nI k)), (0, .ref (q 0))]) X dX8_lorries_96 (by decide) rfl ?_
            refine hiload_n X dX8_lorries_97 rfl ?_
            refine hif_eq (tgt := 121) X dX8_lorries_98 (by decide) (fun c10 => ?_) (fun c10 => ?_)
            rotate_left
            · exact absurd (by decide) c10
            refine hiinc (v := nI (k + 1)) (lv' := [(2, .int (nI (k + 1))), (1, .int 0), (0, .ref (q 0))]) X dX8_lorries_121 rfl (nI_1 _) (by decide) rfl ?_
            refine hgoto (tgt := 48) X dX8_lorries_124 (by decide) ?_
            refine hiload_n X dX8_lorries_48 rfl ?_
            refine haload_n X dX8_lorries_49 rfl ?_
            refine hget1 X (T := TX8) (N := 14) iX8 0 rfl rfl 0 (by decide) (by decide +kernel) rfl dX8_lorries_50 ?_
            refine hiconst (v := 4) X dX8_lorries_53 rfl ?_
            refine hiald (n := 250) (f := E' 0) X 1 rfl 4 rfl (by omega) (by decide) dX8_lorries_54 ?_
            refine hV_st (st' := [.int (nI n), .int (nI (k + 1))]) (congrArg (fun z => Value.int z :: [.int (nI (k + 1))]) (hI.h4)) ?_
            refine hicmp_ge (tgt := 127) X dX8_lorries_55 (by decide) (fun c11 => ?_) (fun c11 => ?_)
            · refine hiconst (v := 0) X dX8_lorries_127 rfl ?_
              refine histore_n (lv' := [(2, .int 0), (1, .int 0), (0, .ref (q 0))]) X dX8_lorries_128 (by decide) rfl ?_
              refine hV_lv (lv' := [(2, .int 0), (0, .ref (q 0))]) [0, 2] rfl ?_
              have w12 : (E' : hF) = itN 0 tkS (cmE n n 0 (itN n lvS E)) := by
                rw [show n - k = (n - (k + 1)) + 1 by omega] at hE
                simpa [cmE, itN, c5, c8, c9, c11] using hE
              exact hV_to (ws' := mW G q (itN 0 tkS (cmE n n 0 (itN n lvS E)))) (lv' := [(2, .int 0), (0, .ref (q 0))]) (st' := []) (congrArg (mW G q) w12) rfl rfl (L3 _ 0 (by omega) (Nat.lt_succ_self _))
            · refine hiload_n X dX8_lorries_58 rfl ?_
              refine hif_eq (tgt := 127) X dX8_lorries_59 (by decide) (fun c13 => ?_) (fun c13 => ?_)
              rotate_left
              · exact absurd (by decide) c13
              refine hiconst (v := 0) X dX8_lorries_127 rfl ?_
              refine histore_n (lv' := [(2, .int 0), (1, .int 0), (0, .ref (q 0))]) X dX8_lorries_128 (by decide) rfl ?_
              refine hV_lv (lv' := [(2, .int 0), (0, .ref (q 0))]) [0, 2] rfl ?_
              have w14 : (E' : hF) = itN 0 tkS (cmE n n 0 (itN n lvS E)) := by
                rw [show n - k = (n - (k + 1)) + 1 by omega] at hE
                simpa [cmE, itN, c5, c8, c9, c11] using hE
              exact hV_to (ws' := mW G q (itN 0 tkS (cmE n n 0 (itN n lvS E)))) (lv' := [(2, .int 0), (0, .ref (q 0))]) (st' := []) (congrArg (mW G q) w14) rfl rfl (L3 _ 0 (by omega) (Nat.lt_succ_self _))
          · refine hiconst (v := 1) X dX8_lorries_91 rfl ?_
            refine hgoto (tgt := 96) X dX8_lorries_92 (by decide) ?_
            refine histore_n (lv' := [(1, .int 1), (2, .int (nI k)), (0, .ref (q 0))]) X dX8_lorries_96 (by decide) rfl ?_
            refine hiload_n X dX8_lorries_97 rfl ?_
            refine hif_eq (tgt := 121) X dX8_lorries_98 (by decide) (fun c15 => ?_) (fun c15 => ?_)
            · exact absurd c15 (by decide)
            refine haload_n X dX8_lorries_101 rfl ?_
            refine hiload_n X dX8_lorries_102 rfl ?_
            refine hiconst (v := 4) X dX8_lorries_103 rfl ?_
            refine hiconst (v := 1) X dX8_lorries_104 rfl ?_
            refine hcallV0 (C := RX8) (T := TX8) (N := 14) (As := [.int (nI k), .int (nI 4), .int 1]) (rest := []) (st' := []) (w := mW G q (fs E' 0 (8 + 10 * k + 4) 1)) X (q0 := 0) (kX8_setPart l G q E' k 4 1 (by first | assumption | omega | exact hI.h4) (by first | assumption | omega | exact hI.h4)) gX8_lorries_X8_setPart rfl (n := 3) (by decide +kernel) (by decide) rfl rfl rfl rfl (Nat.le_of_ble_eq_true rfl) dX8_lorries_105 rfl rfl (by decide) rfl ?_
            refine haload_n X dX8_lorries_108 rfl ?_
            refine hiload_n X dX8_lorries_109 rfl ?_
            refine hbipush (v := 8) X dX8_lorries_110 rfl ?_
            refine haload_n X dX8_lorries_112 rfl ?_
            refine hget1 X (T := TX8) (N := 14) iX8 0 rfl rfl 0 (by decide) (by decide +kernel) rfl dX8_lorries_113 ?_
            refine hiconst (v := 1) X dX8_lorries_116 rfl ?_
            refine hiald (n := 250) (f := (fs E' 0 (8 + 10 * k + 4) 1) 0) X 1 rfl 1 rfl (by omega) (by decide) dX8_lorries_117 ?_
            have r16 : ((fs E' 0 (8 + 10 * k + 4) 1) 0 1 : Int32) = E' 0 1 := by rw [fs_at, if_neg (by omega)]
            refine hV_st (st' := [.int (E' 0 1), .int 8, .int (nI k), .ref (q 0)]) (congrArg (fun z => Value.int z :: [.int 8, .int (nI k), .ref (q 0)]) r16) ?_
            refine hcallV0 (C := RX8) (T := TX8) (N := 14) (As := [.int (nI k), .int (nI 8), .int (E' 0 1)]) (rest := []) (st' := []) (w := mW G q (fs (fs E' 0 (8 + 10 * k + 4) 1) 0 (8 + 10 * k + 8) (E' 0 1))) X (q0 := 0) (kX8_setPart l G q (fs E' 0 (8 + 10 * k + 4) 1) k 8 (E' 0 1) (by first | assumption | omega | exact hI.h4) (by first | assumption | omega | exact hI.h4)) gX8_lorries_X8_setPart rfl (n := 3) (by decide +kernel) (by decide) rfl rfl rfl rfl (Nat.le_of_ble_eq_true rfl) dX8_lorries_118 rfl rfl (by decide) rfl ?_
            refine hiinc (v := nI (k + 1)) (lv' := [(2, .int (nI (k + 1))), (1, .int 1), (0, .ref (q 0))]) X dX8_lorries_121 rfl (nI_1 _) (by decide) rfl ?_
            refine hgoto (tgt := 48) X dX8_lorries_124 (by decide) ?_
            exact hV_to (ws' := mW G q (fs (fs E' 0 (8 + 10 * k + 4) 1) 0 (8 + 10 * k + 8) (E' 0 1))) (lv' := [(2, .int (nI (k + 1))), (1, .int 1), (0, .ref (q 0))]) (st' := []) rfl rfl rfl (ih (k + 1) (fs (fs E' 0 (8 + 10 * k + 4) 1) 0 (8 + 10 * k + 8) (E' 0 1)) (by omega) ((hI.part _ hk1 (by decide) (by decide) (by decide)).part _ hk1 (by decide) (by decide) (by decide)) (by rw [show n - k = (n - (k + 1)) + 1 by omega] at hE; simpa [cmE, c5, c8, c9] using hE) (by omega))
  have L1 : ∀ (d : Nat) (k : Nat), (k ≤ n) → (n - k) < d → hV pp l ee ({ frames := 4, cells := 0, slots := 0, locals := 106 }) ss mm aa bb me cd G (va_A (mW G q E) ss.heap.size) 3 0 0 (MQ bb (hQc G (mW G q E) ss.heap.size (hR none (mW G q (lorE n E)))) aa ss 0 0 (va_A (mW G q E) ss.heap.size)) (mW G q (itN k lvS E)) 2 [(1, .int (nI k)), (0, .ref (q 0))] [] := by
    intro d
    induction d with
    | zero =>
      intro k hk hd0
      exact absurd hd0 (Nat.not_lt_zero _)
    | succ d ih =>
      intro k hk hd0
      have hI : mOk n c (itN k lvS E) := itN_P h k fun _ _ hi hx => mlvS hx (by omega)
      refine hiload_n X dX8_lorries_2 rfl ?_
      refine haload_n X dX8_lorries_3 rfl ?_
      refine hget1 X (T := TX8) (N := 14) iX8 0 rfl rfl 0 (by decide) (by decide +kernel) rfl dX8_lorries_4 ?_
      refine hiconst (v := 4) X dX8_lorries_7 rfl ?_
      refine hiald (n := 250) (f := (itN k lvS E) 0) X 1 rfl 4 rfl (by omega) (by decide) dX8_lorries_8 ?_
      refine hV_st (st' := [.int (nI n), .int (nI k)]) (congrArg (fun z => Value.int z :: [.int (nI k)]) (hI.h4)) ?_
      refine hicmp_ge (tgt := 44) X dX8_lorries_9 (by decide) (fun c17 => ?_) (fun c17 => ?_)
      · have ek := i_ge hk (by omega) c17
        refine hiconst (v := 1) X dX8_lorries_44 rfl ?_
        refine histore_n (lv' := [(1, .int 1), (0, .ref (q 0))]) X dX8_lorries_45 (by decide) rfl ?_
        refine hiconst (v := 0) X dX8_lorries_46 rfl ?_
        refine histore_n (lv' := [(2, .int 0), (1, .int 1), (0, .ref (q 0))]) X dX8_lorries_47 (by decide) rfl ?_
        exact hV_to (ws' := mW G q (itN k lvS E)) (lv' := [(2, .int 0), (1, .int 1), (0, .ref (q 0))]) (st' := []) rfl rfl rfl (L2 _ 0 (itN k lvS E) (Nat.zero_le _) hI (by simp [ek]) (Nat.lt_succ_self _))
      · have hk1 := i_lt hk (by omega) c17
        refine haload_n X dX8_lorries_12 rfl ?_
        refine hiload_n X dX8_lorries_13 rfl ?_
        refine hiconst (v := 1) X dX8_lorries_14 rfl ?_
        refine hcallV0 (C := RX8) (T := TX8) (N := 14) (As := [.int (nI k), .int 1]) (rest := []) (st' := [.int (bI ((itN k lvS E) 0 (8 + 10 * k + 4) = 1))]) (w := mW G q (itN k lvS E)) X (q0 := 0) (kX8_isHow l G q (itN k lvS E) k 1 (by first | assumption | omega | exact hI.h4)) gX8_lorries_X8_isHow rfl (n := 2) (by decide +kernel) (by decide) rfl rfl rfl rfl (Nat.le_of_ble_eq_true rfl) dX8_lorries_15 rfl rfl (by decide) rfl ?_
        refine hif_eqB (tgt := 38) X dX8_lorries_18 (by decide) (fun c18 => ?_) (fun c18 => ?_)
        · refine hiinc (v := nI (k + 1)) (lv' := [(1, .int (nI (k + 1))), (0, .ref (q 0))]) X dX8_lorries_38 rfl (nI_1 _) (by decide) rfl ?_
          refine hgoto (tgt := 2) X dX8_lorries_41 (by decide) ?_
          have w19 : (itN k lvS E : hF) = itN (k + 1) lvS E := by
            simp [itN, lvS, c17, c18]
          exact hV_to (ws' := mW G q (itN (k + 1) lvS E)) (lv' := [(1, .int (nI (k + 1))), (0, .ref (q 0))]) (st' := []) (congrArg (mW G q) w19) rfl rfl (ih (k + 1) (by omega) (by omega))
        · refine haload_n X dX8_lorries_21 rfl ?_
          refine hiload_n X dX8_lorries_22 rfl ?_
          refine hbipush (v := 8) X dX8_lorries_23 rfl ?_
          refine hcallV0 (C := RX8) (T := TX8) (N := 14) (As := [.int (nI k), .int (nI 8)]) (rest := []) (st' := [.int ((itN k lvS E) 0 (8 + 10 * k + 8))]) (w := mW G q (itN k lvS E)) X (q0 := 0) (kX8_part l G q (itN k lvS E) k 8 (by first | assumption | omega | exact hI.h4) (by first | assumption | omega | exact hI.h4)) gX8_lorries_X8_part rfl (n := 2) (by decide +kernel) (by decide) rfl rfl rfl rfl (Nat.le_of_ble_eq_true rfl) dX8_lorries_25 rfl rfl (by decide) rfl ?_
          refine hif_ne (tgt := 38) X dX8_lorries_28 (by decide) (fun c20 => ?_) (fun c20 => ?_)
          · refine hiinc (v := nI (k + 1)) (lv' := [(1, .int (nI (k + 1))), (0, .ref (q 0))]) X dX8_lorries_38 rfl (nI_1 _) (by decide) rfl ?_
            refine hgoto (tgt := 2) X dX8_lorries_41 (by decide) ?_
            have w21 : (itN k lvS E : hF) = itN (k + 1) lvS E := by
              simp [itN, lvS, c17, c18, c20]
            exact hV_to (ws' := mW G q (itN (k + 1) lvS E)) (lv' := [(1, .int (nI (k + 1))), (0, .ref (q 0))]) (st' := []) (congrArg (mW G q) w21) rfl rfl (ih (k + 1) (by omega) (by omega))
          · refine haload_n X dX8_lorries_31 rfl ?_
            refine hiload_n X dX8_lorries_32 rfl ?_
            refine hiconst (v := 4) X dX8_lorries_33 rfl ?_
            refine hiconst (v := 2) X dX8_lorries_34 rfl ?_
            refine hcallV0 (C := RX8) (T := TX8) (N := 14) (As := [.int (nI k), .int (nI 4), .int 2]) (rest := []) (st' := []) (w := mW G q (fs (itN k lvS E) 0 (8 + 10 * k + 4) 2)) X (q0 := 0) (kX8_setPart l G q (itN k lvS E) k 4 2 (by first | assumption | omega | exact hI.h4) (by first | assumption | omega | exact hI.h4)) gX8_lorries_X8_setPart rfl (n := 3) (by decide +kernel) (by decide) rfl rfl rfl rfl (Nat.le_of_ble_eq_true rfl) dX8_lorries_35 rfl rfl (by decide) rfl ?_
            refine hiinc (v := nI (k + 1)) (lv' := [(1, .int (nI (k + 1))), (0, .ref (q 0))]) X dX8_lorries_38 rfl (nI_1 _) (by decide) rfl ?_
            refine hgoto (tgt := 2) X dX8_lorries_41 (by decide) ?_
            have w22 : (fs (itN k lvS E) 0 (8 + 10 * k + 4) 2 : hF) = itN (k + 1) lvS E := by
              simp [itN, lvS, c17, c18, c20]
            exact hV_to (ws' := mW G q (itN (k + 1) lvS E)) (lv' := [(1, .int (nI (k + 1))), (0, .ref (q 0))]) (st' := []) (congrArg (mW G q) w22) rfl rfl (ih (k + 1) (by omega) (by omega))
  refine hiconst (v := 0) X dX8_lorries_0 rfl ?_
  refine histore_n (lv' := [(1, .int 0), (0, .ref (q 0))]) X dX8_lorries_1 (by decide) rfl ?_
  have w23 : (E : hF) = itN 0 lvS E := by
    simp [itN, lvS]
  exact hV_to (ws' := mW G q (itN 0 lvS E)) (lv' := [(1, .int 0), (0, .ref (q 0))]) (st' := []) (congrArg (mW G q) w23) rfl rfl (L1 _ 0 (by omega) (Nat.lt_succ_self _))

set_option maxHeartbeats 4000000 in
set_option maxRecDepth 100000 in
theorem kX8_nextStand (l : Launch) (G : hG) (q : Nat → Nat) (E : hF) (n c : Nat) (h : mOk n c E) : hM l G yX8_nextStand wsX8_nextStand ({ frames := 4, cells := 0, slots := 0, locals := 107 }) (mW G q E) [.ref (q 0)] (hR (some (.int (nxE n E))) (mW G q E)) := by
  refine hM_of (cc := cX8_nextStand) (maxL := 5) (ret := (some .int)) (by decide) rfl (Nat.le_of_ble_eq_true rfl) ?_
  intro pp ee ss mm aa bb me cd X hin
  have iX8 : ∀ w ∈ wsX80, w ∈ wsX8_nextStand := by decide +kernel
  have hn := h.hn
  have L : ∀ (d : Nat) (k : Nat), (k ≤ n) → (n - k) < d → hV pp l ee ({ frames := 4, cells := 0, slots := 0, locals := 107 }) ss mm aa bb me cd G (va_A (mW G q E) ss.heap.size) 5 0 0 (MQ bb (hQc G (mW G q E) ss.heap.size (hR (some (.int (nxE n E))) (mW G q E))) aa ss 0 0 (va_A (mW G q E) ss.heap.size)) (mW G q E) 5 [(2, .int (nI k)), (1, .int (itN k (nxS n E) (-6))), (0, .ref (q 0))] [] := by
    intro d
    induction d with
    | zero =>
      intro k hk hd0
      exact absurd hd0 (Nat.not_lt_zero _)
    | succ d ih =>
      intro k hk hd0
      refine hiload_n X dX8_nextStand_5 rfl ?_
      refine haload_n X dX8_nextStand_6 rfl ?_
      refine hget1 X (T := TX8) (N := 14) iX8 0 rfl rfl 0 (by decide) (by decide +kernel) rfl dX8_nextStand_7 ?_
      refine hiconst (v := 4) X dX8_nextStand_10 rfl ?_
      refine hiald (n := 250) (f := E 0) X 1 rfl 4 rfl (by omega) (by decide) dX8_nextStand_11 ?_
      refine hV_st (st' := [.int (nI n), .int (nI k)]) (congrArg (fun z => Value.int z :: [.int (nI k)]) (h.h4)) ?_
      refine hicmp_ge (tgt := 118) X dX8_nextStand_12 (by decide) (fun c1 => ?_) (fun c1 => ?_)
      · have ek := i_ge hk (by omega) c1
        refine hiload_n X dX8_nextStand_118 rfl ?_
        refine hiret X dX8_nextStand_119 ⟨congrArg (fun z => some (Value.int z)) (?_ : (itN k (nxS n E) (-6)) = nxE n E), ?_⟩
        · simp [nxE, ek]
        rfl
      · have hk1 := i_lt hk (by omega) c1
        refine haload_n X dX8_nextStand_15 rfl ?_
        refine hget1 X (T := TX8) (N := 14) iX8 0 rfl rfl 0 (by decide) (by decide +kernel) rfl dX8_nextStand_16 ?_
        refine hbipush (v := 6) X dX8_nextStand_19 rfl ?_
        refine hiald (n := 250) (f := E 0) X 1 rfl 6 rfl (by omega) (by decide) dX8_nextStand_21 ?_
        refine hiconst (v := 1) X dX8_nextStand_22 rfl ?_
        refine hicmp_ne (tgt := 30) X dX8_nextStand_23 (by decide) (fun c2 => ?_) (fun c2 => ?_)
        · refine haload_n X dX8_nextStand_30 rfl ?_
          refine hget1 X (T := TX8) (N := 14) iX8 0 rfl rfl 0 (by decide) (by decide +kernel) rfl dX8_nextStand_31 ?_
          refine hiconst (v := 4) X dX8_nextStand_34 rfl ?_
          refine hiald (n := 250) (f := E 0) X 1 rfl 4 rfl (by omega) (by decide) dX8_nextStand_35 ?_
          refine hV_st (st' := [.int (nI n)]) (congrArg (fun z => Value.int z :: []) (h.h4)) ?_
          refine hiconst (v := 1) X dX8_nextStand_36 rfl ?_
          refine hisub X dX8_nextStand_37 ?_
          refine hiload_n X dX8_nextStand_38 rfl ?_
          refine hisub X dX8_nextStand_39 ?_
          refine hV_st (st' := [.int (nI (n - 1 - k))]) (congrArg (fun z => ([Value.int z] : List Value)) ((nsub (nsub rfl rfl (by omega)) rfl (by omega)))) ?_
          refine histore_n (lv' := [(3, .int (nI (n - 1 - k))), (2, .int (nI k)), (1, .int (itN k (nxS n E) (-6))), (0, .ref (q 0))]) X dX8_nextStand_40 (by decide) rfl ?_
          refine haload_n X dX8_nextStand_41 rfl ?_
          refine hget1 X (T := TX8) (N := 14) iX8 0 rfl rfl 0 (by decide) (by decide +kernel) rfl dX8_nextStand_42 ?_
          refine hbipush (v := 6) X dX8_nextStand_45 rfl ?_
          refine hiald (n := 250) (f := E 0) X 1 rfl 6 rfl (by omega) (by decide) dX8_nextStand_47 ?_
          refine hiconst (v := 1) X dX8_nextStand_48 rfl ?_
          refine hicmp_ne (tgt := 77) X dX8_nextStand_49 (by decide) (fun c3 => ?_) (fun c3 => ?_)
          rotate_left
          · exact absurd c3 c2
          refine haload_n X dX8_nextStand_77 rfl ?_
          refine hiload_n X dX8_nextStand_78 rfl ?_
          refine hiconst (v := 2) X dX8_nextStand_79 rfl ?_
          refine hcallV0 (C := RX8) (T := TX8) (N := 14) (As := [.int (nI (n - 1 - k)), .int 2]) (rest := []) (st' := [.int (bI (E 0 (8 + 10 * (n - 1 - k) + 4) = 2))]) (w := mW G q E) X (q0 := 0) (kX8_isHow l G q E (n - 1 - k) 2 (by first | assumption | omega | exact h.h4 | exact h.hb _ (by omega))) gX8_nextStand_X8_isHow rfl (n := 2) (by decide +kernel) (by decide) rfl rfl rfl rfl (Nat.le_of_ble_eq_true rfl) dX8_nextStand_80 rfl rfl (by decide) rfl ?_
          refine hif_eqB (tgt := 98) X dX8_nextStand_83 (by decide) (fun c4 => ?_) (fun c4 => ?_)
          · refine hiconst (v := 0) X dX8_nextStand_98 rfl ?_
            refine histore (lv' := [(4, .int 0), (3, .int (nI (n - 1 - k))), (2, .int (nI k)), (1, .int (itN k (nxS n E) (-6))), (0, .ref (q 0))]) X dX8_nextStand_99 (by decide) rfl ?_
            refine hiload X dX8_nextStand_101 rfl ?_
            refine hif_eq (tgt := 110) X dX8_nextStand_103 (by decide) (fun c5 => ?_) (fun c5 => ?_)
            rotate_left
            · exact absurd (by decide) c5
            refine hiload_n X dX8_nextStand_110 rfl ?_
            refine histore_n (lv' := [(1, .int (itN k (nxS n E) (-6))), (4, .int 0), (3, .int (nI (n - 1 - k))), (2, .int (nI k)), (0, .ref (q 0))]) X dX8_nextStand_111 (by decide) rfl ?_
            refine hiinc (v := nI (k + 1)) (lv' := [(2, .int (nI (k + 1))), (1, .int (itN k (nxS n E) (-6))), (4, .int 0), (3, .int (nI (n - 1 - k))), (0, .ref (q 0))]) X dX8_nextStand_112 rfl (nI_1 _) (by decide) rfl ?_
            refine hgoto (tgt := 5) X dX8_nextStand_115 (by decide) ?_
            refine hV_lv (lv' := [(2, .int (nI (k + 1))), (1, .int (itN k (nxS n E) (-6))), (0, .ref (q 0))]) [0, 1, 4] rfl ?_
            have e6 : (itN k (nxS n E) (-6) : Int32) = itN (k + 1) (nxS n E) (-6) := by
              simp [itN, nxS, c1, c2, c4]
            exact hV_to (ws' := mW G q E) (lv' := [(2, .int (nI (k + 1))), (1, .int (itN (k + 1) (nxS n E) (-6))), (0, .ref (q 0))]) (st' := []) rfl (congrArg (fun z => ([(2, .int (nI (k + 1))), (1, .int z), (0, .ref (q 0))] : List (Nat × Value))) e6) rfl (ih (k + 1) (by omega) (by omega))
          · refine haload_n X dX8_nextStand_86 rfl ?_
            refine hiload_n X dX8_nextStand_87 rfl ?_
            refine hcallV0 (C := RX8) (T := TX8) (N := 14) (As := [.int (nI (n - 1 - k))]) (rest := []) (st' := [.int (bI (hasB E (n - 1 - k)))]) (w := mW G q E) X (q0 := 0) (kX8_hasBase l G q E (n - 1 - k) n (by first | assumption | omega | exact h.h4 | exact h.hb _ (by omega)) (by first | assumption | omega | exact h.h4 | exact h.hb _ (by omega)) (by first | assumption | omega | exact h.h4 | exact h.hb _ (by omega))) gX8_nextStand_X8_hasBase rfl (n := 1) (by decide +kernel) (by decide) rfl rfl rfl rfl (Nat.le_of_ble_eq_true rfl) dX8_nextStand_88 rfl rfl (by decide) rfl ?_
            refine hif_eqB (tgt := 98) X dX8_nextStand_91 (by decide) (fun c7 => ?_) (fun c7 => ?_)
            · refine hiconst (v := 0) X dX8_nextStand_98 rfl ?_
              refine histore (lv' := [(4, .int 0), (3, .int (nI (n - 1 - k))), (2, .int (nI k)), (1, .int (itN k (nxS n E) (-6))), (0, .ref (q 0))]) X dX8_nextStand_99 (by decide) rfl ?_
              refine hiload X dX8_nextStand_101 rfl ?_
              refine hif_eq (tgt := 110) X dX8_nextStand_103 (by decide) (fun c8 => ?_) (fun c8 => ?_)
              rotate_left
              · exact absurd (by decide) c8
              refine hiload_n X dX8_nextStand_110 rfl ?_
              refine histore_n (lv' := [(1, .int (itN k (nxS n E) (-6))), (4, .int 0), (3, .int (nI (n - 1 - k))), (2, .int (nI k)), (0, .ref (q 0))]) X dX8_nextStand_111 (by decide) rfl ?_
              refine hiinc (v := nI (k + 1)) (lv' := [(2, .int (nI (k + 1))), (1, .int (itN k (nxS n E) (-6))), (4, .int 0), (3, .int (nI (n - 1 - k))), (0, .ref (q 0))]) X dX8_nextStand_112 rfl (nI_1 _) (by decide) rfl ?_
              refine hgoto (tgt := 5) X dX8_nextStand_115 (by decide) ?_
              refine hV_lv (lv' := [(2, .int (nI (k + 1))), (1, .int (itN k (nxS n E) (-6))), (0, .ref (q 0))]) [0, 1, 4] rfl ?_
              have e9 : (itN k (nxS n E) (-6) : Int32) = itN (k + 1) (nxS n E) (-6) := by
                simp [itN, nxS, c1, c2, c4, c7]
              exact hV_to (ws' := mW G q E) (lv' := [(2, .int (nI (k + 1))), (1, .int (itN (k + 1) (nxS n E) (-6))), (0, .ref (q 0))]) (st' := []) rfl (congrArg (fun z => ([(2, .int (nI (k + 1))), (1, .int z), (0, .ref (q 0))] : List (Nat × Value))) e9) rfl (ih (k + 1) (by omega) (by omega))
            · refine hiconst (v := 1) X dX8_nextStand_94 rfl ?_
              refine hgoto (tgt := 99) X dX8_nextStand_95 (by decide) ?_
              refine histore (lv' := [(4, .int 1), (3, .int (nI (n - 1 - k))), (2, .int (nI k)), (1, .int (itN k (nxS n E) (-6))), (0, .ref (q 0))]) X dX8_nextStand_99 (by decide) rfl ?_
              refine hiload X dX8_nextStand_101 rfl ?_
              refine hif_eq (tgt := 110) X dX8_nextStand_103 (by decide) (fun c10 => ?_) (fun c10 => ?_)
              · exact absurd c10 (by decide)
              refine hiload_n X dX8_nextStand_106 rfl ?_
              refine hgoto (tgt := 111) X dX8_nextStand_107 (by decide) ?_
              refine histore_n (lv' := [(1, .int (nI (n - 1 - k))), (4, .int 1), (3, .int (nI (n - 1 - k))), (2, .int (nI k)), (0, .ref (q 0))]) X dX8_nextStand_111 (by decide) rfl ?_
              refine hiinc (v := nI (k + 1)) (lv' := [(2, .int (nI (k + 1))), (1, .int (nI (n - 1 - k))), (4, .int 1), (3, .int (nI (n - 1 - k))), (0, .ref (q 0))]) X dX8_nextStand_112 rfl (nI_1 _) (by decide) rfl ?_
              refine hgoto (tgt := 5) X dX8_nextStand_115 (by decide) ?_
              refine hV_lv (lv' := [(2, .int (nI (k + 1))), (1, .int (nI (n - 1 - k))), (0, .ref (q 0))]) [0, 1, 4] rfl ?_
              have e11 : (nI (n - 1 - k) : Int32) = itN (k + 1) (nxS n E) (-6) := by
                simp [itN, nxS, c1, c2, c4, c7]
              exact hV_to (ws' := mW G q E) (lv' := [(2, .int (nI (k + 1))), (1, .int (itN (k + 1) (nxS n E) (-6))), (0, .ref (q 0))]) (st' := []) rfl (congrArg (fun z => ([(2, .int (nI (k + 1))), (1, .int z), (0, .ref (q 0))] : List (Nat × Value))) e11) rfl (ih (k + 1) (by omega) (by omega))
        · refine hiload_n X dX8_nextStand_26 rfl ?_
          refine hgoto (tgt := 40) X dX8_nextStand_27 (by decide) ?_
          refine histore_n (lv' := [(3, .int (nI k)), (2, .int (nI k)), (1, .int (itN k (nxS n E) (-6))), (0, .ref (q 0))]) X dX8_nextStand_40 (by decide) rfl ?_
          refine haload_n X dX8_nextStand_41 rfl ?_
          refine hget1 X (T := TX8) (N := 14) iX8 0 rfl rfl 0 (by decide) (by decide +kernel) rfl dX8_nextStand_42 ?_
          refine hbipush (v := 6) X dX8_nextStand_45 rfl ?_
          refine hiald (n := 250) (f := E 0) X 1 rfl 6 rfl (by omega) (by decide) dX8_nextStand_47 ?_
          refine hiconst (v := 1) X dX8_nextStand_48 rfl ?_
          refine hicmp_ne (tgt := 77) X dX8_nextStand_49 (by decide) (fun c12 => ?_) (fun c12 => ?_)
          · exact absurd c2 c12
          refine haload_n X dX8_nextStand_52 rfl ?_
          refine hiload_n X dX8_nextStand_53 rfl ?_
          refine hiconst (v := 4) X dX8_nextStand_54 rfl ?_
          refine hcallV0 (C := RX8) (T := TX8) (N := 14) (As := [.int (nI k), .int 4]) (rest := []) (st' := [.int (bI (E 0 (8 + 10 * k + 4) = 4))]) (w := mW G q E) X (q0 := 0) (kX8_isHow l G q E k 4 (by first | assumption | omega | exact h.h4 | exact h.hb _ (by omega))) gX8_nextStand_X8_isHow rfl (n := 2) (by decide +kernel) (by decide) rfl rfl rfl rfl (Nat.le_of_ble_eq_true rfl) dX8_nextStand_55 rfl rfl (by decide) rfl ?_
          refine hif_eqB (tgt := 73) X dX8_nextStand_58 (by decide) (fun c13 => ?_) (fun c13 => ?_)
          · refine hiconst (v := 0) X dX8_nextStand_73 rfl ?_
            refine hgoto (tgt := 99) X dX8_nextStand_74 (by decide) ?_
            refine histore (lv' := [(4, .int 0), (3, .int (nI k)), (2, .int (nI k)), (1, .int (itN k (nxS n E) (-6))), (0, .ref (q 0))]) X dX8_nextStand_99 (by decide) rfl ?_
            refine hiload X dX8_nextStand_101 rfl ?_
            refine hif_eq (tgt := 110) X dX8_nextStand_103 (by decide) (fun c14 => ?_) (fun c14 => ?_)
            rotate_left
            · exact absurd (by decide) c14
            refine hiload_n X dX8_nextStand_110 rfl ?_
            refine histore_n (lv' := [(1, .int (itN k (nxS n E) (-6))), (4, .int 0), (3, .int (nI k)), (2, .int (nI k)), (0, .ref (q 0))]) X dX8_nextStand_111 (by decide) rfl ?_
            refine hiinc (v := nI (k + 1)) (lv' := [(2, .int (nI (k + 1))), (1, .int (itN k (nxS n E) (-6))), (4, .int 0), (3, .int (nI k)), (0, .ref (q 0))]) X dX8_nextStand_112 rfl (nI_1 _) (by decide) rfl ?_
            refine hgoto (tgt := 5) X dX8_nextStand_115 (by decide) ?_
            refine hV_lv (lv' := [(2, .int (nI (k + 1))), (1, .int (itN k (nxS n E) (-6))), (0, .ref (q 0))]) [0, 1, 4] rfl ?_
            have e15 : (itN k (nxS n E) (-6) : Int32) = itN (k + 1) (nxS n E) (-6) := by
              simp [itN, nxS, c1, c2, c13]
            exact hV_to (ws' := mW G q E) (lv' := [(2, .int (nI (k + 1))), (1, .int (itN (k + 1) (nxS n E) (-6))), (0, .ref (q 0))]) (st' := []) rfl (congrArg (fun z => ([(2, .int (nI (k + 1))), (1, .int z), (0, .ref (q 0))] : List (Nat × Value))) e15) rfl (ih (k + 1) (by omega) (by omega))
          · refine haload_n X dX8_nextStand_61 rfl ?_
            refine hiload_n X dX8_nextStand_62 rfl ?_
            refine hcallV0 (C := RX8) (T := TX8) (N := 14) (As := [.int (nI k)]) (rest := []) (st' := [.int (stoE n E (nI k))]) (w := mW G q E) X (q0 := 0) (kX8_standingOn l G q E n (nI k) (by first | assumption | omega | exact h.h4 | exact h.hb _ (by omega)) (by first | assumption | omega | exact h.h4 | exact h.hb _ (by omega))) gX8_nextStand_X8_standingOn rfl (n := 1) (by decide +kernel) (by decide) rfl rfl rfl rfl (Nat.le_of_ble_eq_true rfl) dX8_nextStand_63 rfl rfl (by decide) rfl ?_
            refine hif_ne (tgt := 73) X dX8_nextStand_66 (by decide) (fun c16 => ?_) (fun c16 => ?_)
            · refine hiconst (v := 0) X dX8_nextStand_73 rfl ?_
              refine hgoto (tgt := 99) X dX8_nextStand_74 (by decide) ?_
              refine histore (lv' := [(4, .int 0), (3, .int (nI k)), (2, .int (nI k)), (1, .int (itN k (nxS n E) (-6))), (0, .ref (q 0))]) X dX8_nextStand_99 (by decide) rfl ?_
              refine hiload X dX8_nextStand_101 rfl ?_
              refine hif_eq (tgt := 110) X dX8_nextStand_103 (by decide) (fun c17 => ?_) (fun c17 => ?_)
              rotate_left
              · exact absurd (by decide) c17
              refine hiload_n X dX8_nextStand_110 rfl ?_
              refine histore_n (lv' := [(1, .int (itN k (nxS n E) (-6))), (4, .int 0), (3, .int (nI k)), (2, .int (nI k)), (0, .ref (q 0))]) X dX8_nextStand_111 (by decide) rfl ?_
              refine hiinc (v := nI (k + 1)) (lv' := [(2, .int (nI (k + 1))), (1, .int (itN k (nxS n E) (-6))), (4, .int 0), (3, .int (nI k)), (0, .ref (q 0))]) X dX8_nextStand_112 rfl (nI_1 _) (by decide) rfl ?_
              refine hgoto (tgt := 5) X dX8_nextStand_115 (by decide) ?_
              refine hV_lv (lv' := [(2, .int (nI (k + 1))), (1, .int (itN k (nxS n E) (-6))), (0, .ref (q 0))]) [0, 1, 4] rfl ?_
              have e18 : (itN k (nxS n E) (-6) : Int32) = itN (k + 1) (nxS n E) (-6) := by
                simp [itN, nxS, c1, c2, c13, c16]
              exact hV_to (ws' := mW G q E) (lv' := [(2, .int (nI (k + 1))), (1, .int (itN (k + 1) (nxS n E) (-6))), (0, .ref (q 0))]) (st' := []) rfl (congrArg (fun z => ([(2, .int (nI (k + 1))), (1, .int z), (0, .ref (q 0))] : List (Nat × Value))) e18) rfl (ih (k + 1) (by omega) (by omega))
            · refine hiconst (v := 1) X dX8_nextStand_69 rfl ?_
              refine hgoto (tgt := 99) X dX8_nextStand_70 (by decide) ?_
              refine histore (lv' := [(4, .int 1), (3, .int (nI k)), (2, .int (nI k)), (1, .int (itN k (nxS n E) (-6))), (0, .ref (q 0))]) X dX8_nextStand_99 (by decide) rfl ?_
              refine hiload X dX8_nextStand_101 rfl ?_
              refine hif_eq (tgt := 110) X dX8_nextStand_103 (by decide) (fun c19 => ?_) (fun c19 => ?_)
              · exact absurd c19 (by decide)
              refine hiload_n X dX8_nextStand_106 rfl ?_
              refine hgoto (tgt := 111) X dX8_nextStand_107 (by decide) ?_
              refine histore_n (lv' := [(1, .int (nI k)), (4, .int 1), (3, .int (nI k)), (2, .int (nI k)), (0, .ref (q 0))]) X dX8_nextStand_111 (by decide) rfl ?_
              refine hiinc (v := nI (k + 1)) (lv' := [(2, .int (nI (k + 1))), (1, .int (nI k)), (4, .int 1), (3, .int (nI k)), (0, .ref (q 0))]) X dX8_nextStand_112 rfl (nI_1 _) (by decide) rfl ?_
              refine hgoto (tgt := 5) X dX8_nextStand_115 (by decide) ?_
              refine hV_lv (lv' := [(2, .int (nI (k + 1))), (1, .int (nI k)), (0, .ref (q 0))]) [0, 1, 4] rfl ?_
              have e20 : (nI k : Int32) = itN (k + 1) (nxS n E) (-6) := by
                simp [itN, nxS, c1, c2, c13, c16]
              exact hV_to (ws' := mW G q E) (lv' := [(2, .int (nI (k + 1))), (1, .int (itN (k + 1) (nxS n E) (-6))), (0, .ref (q 0))]) (st' := []) rfl (congrArg (fun z => ([(2, .int (nI (k + 1))), (1, .int z), (0, .ref (q 0))] : List (Nat × Value))) e20) rfl (ih (k + 1) (by omega) (by omega))
  refine hbipush (v := (-6)) X dX8_nextStand_0 rfl ?_
  refine histore_n (lv' := [(1, .int (-6)), (0, .ref (q 0))]) X dX8_nextStand_2 (by decide) rfl ?_
  refine hiconst (v := 0) X dX8_nextStand_3 rfl ?_
  refine histore_n (lv' := [(2, .int 0), (1, .int (-6)), (0, .ref (q 0))]) X dX8_nextStand_4 (by decide) rfl ?_
  have e21 : ((-6) : Int32) = itN 0 (nxS n E) (-6) := by
    simp [itN, nxS]
  exact hV_to (ws' := mW G q E) (lv' := [(2, .int 0), (1, .int (itN 0 (nxS n E) (-6))), (0, .ref (q 0))]) (st' := []) rfl (congrArg (fun z => ([(2, .int 0), (1, .int z), (0, .ref (q 0))] : List (Nat × Value))) e21) rfl (L _ 0 (by omega) (Nat.lt_succ_self _))

set_option maxHeartbeats 4000000 in
set_option maxRecDepth 100000 in
theorem kX8_takes (l : Launch) (G : hG) (q : Nat → Nat) (E : hF) (j s : Nat) (hj : j < 6) (hs : s < 20) : hM l G yX8_takes wsX8_takes ({ frames := 2, cells := 0, slots := 0, locals := 63 }) (mW G q E) [.ref (q 0), .int (nI j), .int (nI s)] (hR none (mW G q (taE E j s))) := by
  refine hM_of (cc := cX8_takes) (maxL := 4) (ret := none) (by decide) rfl (Nat.le_of_ble_eq_true rfl) ?_
  intro pp ee ss mm aa bb me cd X hin
  have iX8 : ∀ w ∈ wsX80, w ∈ wsX8_takes := by decide +kernel
  refine haload_n X dX8_takes_0 rfl ?_
  refine hget1 X (T := TX8) (N := 14) iX8 0 rfl rfl 0 (by decide) (by decide +kernel) rfl dX8_takes_1 ?_
  refine hbipush (v := 6) X dX8_takes_4 rfl ?_
  refine hiald (n := 250) (f := E 0) X 1 rfl 6 rfl (by omega) (by decide) dX8_takes_6 ?_
  refine hiconst (v := 1) X dX8_takes_7 rfl ?_
  refine hicmp_ne (tgt := 15) X dX8_takes_8 (by decide) (fun c1 => ?_) (fun c1 => ?_)
  · refine hiconst (v := 0) X dX8_takes_15 rfl ?_
    refine histore_n (lv' := [(3, .int 0), (0, .ref (q 0)), (1, .int (nI j)), (2, .int (nI s))]) X dX8_takes_16 (by decide) rfl ?_
    refine haload_n X dX8_takes_17 rfl ?_
    refine hiload_n X dX8_takes_18 rfl ?_
    refine hiconst (v := 2) X dX8_takes_19 rfl ?_
    refine hiload_n X dX8_takes_20 rfl ?_
    refine hcallV0 (C := RX8) (T := TX8) (N := 14) (As := [.int (nI j), .int (nI 2), .int (nI s)]) (rest := []) (st' := []) (w := mW G q (fs E 0 (208 + 7 * j + 2) (nI s))) X (q0 := 0) (kX8_setCrew l G q E j 2 (nI s) (by first | assumption | omega | simp [fs_at, *]) (by first | assumption | omega | simp [fs_at, *])) gX8_takes_X8_setCrew rfl (n := 3) (by decide +kernel) (by decide) rfl rfl rfl rfl (Nat.le_of_ble_eq_true rfl) dX8_takes_21 rfl rfl (by decide) rfl ?_
    refine haload_n X dX8_takes_24 rfl ?_
    refine hiload_n X dX8_takes_25 rfl ?_
    refine hbipush (v := 7) X dX8_takes_26 rfl ?_
    refine hiload_n X dX8_takes_28 rfl ?_
    refine hcallV0 (C := RX8) (T := TX8) (N := 14) (As := [.int (nI s), .int (nI 7), .int (nI j)]) (rest := []) (st' := []) (w := mW G q (fs (fs E 0 (208 + 7 * j + 2) (nI s)) 0 (8 + 10 * s + 7) (nI j))) X (q0 := 0) (kX8_setPart l G q (fs E 0 (208 + 7 * j + 2) (nI s)) s 7 (nI j) (by first | assumption | omega | simp [fs_at, *]) (by first | assumption | omega | simp [fs_at, *])) gX8_takes_X8_setPart rfl (n := 3) (by decide +kernel) (by decide) rfl rfl rfl rfl (Nat.le_of_ble_eq_true rfl) dX8_takes_29 rfl rfl (by decide) rfl ?_
    refine haload_n X dX8_takes_32 rfl ?_
    refine hiload_n X dX8_takes_33 rfl ?_
    refine hiconst (v := 4) X dX8_takes_34 rfl ?_
    refine hiload_n X dX8_takes_35 rfl ?_
    refine hif_eq (tgt := 43) X dX8_takes_36 (by decide) (fun c2 => ?_) (fun c2 => ?_)
    rotate_left
    · exact absurd (by decide) c2
    refine hiconst (v := 3) X dX8_takes_43 rfl ?_
    refine hcallV0 (C := RX8) (T := TX8) (N := 14) (As := [.int (nI s), .int (nI 4), .int 3]) (rest := []) (st' := []) (w := mW G q (fs (fs (fs E 0 (208 + 7 * j + 2) (nI s)) 0 (8 + 10 * s + 7) (nI j)) 0 (8 + 10 * s + 4) 3)) X (q0 := 0) (kX8_setPart l G q (fs (fs E 0 (208 + 7 * j + 2) (nI s)) 0 (8 + 10 * s + 7) (nI j)) s 4 3 (by first | assumption | omega | simp [fs_at, *]) (by first | assumption | omega | simp [fs_at, *])) gX8_takes_X8_setPart rfl (n := 3) (by decide +kernel) (by decide) rfl rfl rfl rfl (Nat.le_of_ble_eq_true rfl) dX8_takes_44 rfl rfl (by decide) rfl ?_
    refine hiload_n X dX8_takes_47 rfl ?_
    refine hif_eq (tgt := 76) X dX8_takes_48 (by decide) (fun c3 => ?_) (fun c3 => ?_)
    rotate_left
    · exact absurd (by decide) c3
    refine hvret X dX8_takes_76 ⟨rfl, ?_⟩
    refine congrArg (mW G q) (?_ : (fs (fs (fs E 0 (208 + 7 * j + 2) (nI s)) 0 (8 + 10 * s + 7) (nI j)) 0 (8 + 10 * s + 4) 3 : hF) = taE E j s)
    simp [taE, c1]
  · refine hiconst (v := 1) X dX8_takes_11 rfl ?_
    refine hgoto (tgt := 16) X dX8_takes_12 (by decide) ?_
    refine histore_n (lv' := [(3, .int 1), (0, .ref (q 0)), (1, .int (nI j)), (2, .int (nI s))]) X dX8_takes_16 (by decide) rfl ?_
    refine haload_n X dX8_takes_17 rfl ?_
    refine hiload_n X dX8_takes_18 rfl ?_
    refine hiconst (v := 2) X dX8_takes_19 rfl ?_
    refine hiload_n X dX8_takes_20 rfl ?_
    refine hcallV0 (C := RX8) (T := TX8) (N := 14) (As := [.int (nI j), .int (nI 2), .int (nI s)]) (rest := []) (st' := []) (w := mW G q (fs E 0 (208 + 7 * j + 2) (nI s))) X (q0 := 0) (kX8_setCrew l G q E j 2 (nI s) (by first | assumption | omega | simp [fs_at, *]) (by first | assumption | omega | simp [fs_at, *])) gX8_takes_X8_setCrew rfl (n := 3) (by decide +kernel) (by decide) rfl rfl rfl rfl (Nat.le_of_ble_eq_true rfl) dX8_takes_21 rfl rfl (by decide) rfl ?_
    refine haload_n X dX8_takes_24 rfl ?_
    refine hiload_n X dX8_takes_25 rfl ?_
    refine hbipush (v := 7) X dX8_takes_26 rfl ?_
    refine hiload_n X dX8_takes_28 rfl ?_
    refine hcallV0 (C := RX8) (T := TX8) (N := 14) (As := [.int (nI s), .int (nI 7), .int (nI j)]) (rest := []) (st' := []) (w := mW G q (fs (fs E 0 (208 + 7 * j + 2) (nI s)) 0 (8 + 10 * s + 7) (nI j))) X (q0 := 0) (kX8_setPart l G q (fs E 0 (208 + 7 * j + 2) (nI s)) s 7 (nI j) (by first | assumption | omega | simp [fs_at, *]) (by first | assumption | omega | simp [fs_at, *])) gX8_takes_X8_setPart rfl (n := 3) (by decide +kernel) (by decide) rfl rfl rfl rfl (Nat.le_of_ble_eq_true rfl) dX8_takes_29 rfl rfl (by decide) rfl ?_
    refine haload_n X dX8_takes_32 rfl ?_
    refine hiload_n X dX8_takes_33 rfl ?_
    refine hiconst (v := 4) X dX8_takes_34 rfl ?_
    refine hiload_n X dX8_takes_35 rfl ?_
    refine hif_eq (tgt := 43) X dX8_takes_36 (by decide) (fun c4 => ?_) (fun c4 => ?_)
    · exact absurd c4 (by decide)
    refine hiconst (v := 5) X dX8_takes_39 rfl ?_
    refine hgoto (tgt := 44) X dX8_takes_40 (by decide) ?_
    refine hcallV0 (C := RX8) (T := TX8) (N := 14) (As := [.int (nI s), .int (nI 4), .int 5]) (rest := []) (st' := []) (w := mW G q (fs (fs (fs E 0 (208 + 7 * j + 2) (nI s)) 0 (8 + 10 * s + 7) (nI j)) 0 (8 + 10 * s + 4) 5)) X (q0 := 0) (kX8_setPart l G q (fs (fs E 0 (208 + 7 * j + 2) (nI s)) 0 (8 + 10 * s + 7) (nI j)) s 4 5 (by first | assumption | omega | simp [fs_at, *]) (by first | assumption | omega | simp [fs_at, *])) gX8_takes_X8_setPart rfl (n := 3) (by decide +kernel) (by decide) rfl rfl rfl rfl (Nat.le_of_ble_eq_true rfl) dX8_takes_44 rfl rfl (by decide) rfl ?_
    refine hiload_n X dX8_takes_47 rfl ?_
    refine hif_eq (tgt := 76) X dX8_takes_48 (by decide) (fun c5 => ?_) (fun c5 => ?_)
    · exact absurd c5 (by decide)
    refine haload_n X dX8_takes_51 rfl ?_
    refine hiload_n X dX8_takes_52 rfl ?_
    refine hiconst (v := 5) X dX8_takes_53 rfl ?_
    refine haload_n X dX8_takes_54 rfl ?_
    refine hiload_n X dX8_takes_55 rfl ?_
    refine hiconst (v := 0) X dX8_takes_56 rfl ?_
    refine hcallV0 (C := RX8) (T := TX8) (N := 14) (As := [.int (nI s), .int (nI 0)]) (rest := [.int 5, .int (nI s), .ref (q 0)]) (st' := [.int ((fs (fs (fs E 0 (208 + 7 * j + 2) (nI s)) 0 (8 + 10 * s + 7) (nI j)) 0 (8 + 10 * s + 4) 5) 0 (8 + 10 * s + 0)), .int 5, .int (nI s), .ref (q 0)]) (w := mW G q (fs (fs (fs E 0 (208 + 7 * j + 2) (nI s)) 0 (8 + 10 * s + 7) (nI j)) 0 (8 + 10 * s + 4) 5)) X (q0 := 0) (kX8_part l G q (fs (fs (fs E 0 (208 + 7 * j + 2) (nI s)) 0 (8 + 10 * s + 7) (nI j)) 0 (8 + 10 * s + 4) 5) s 0 (by first | assumption | omega | simp [fs_at, *]) (by first | assumption | omega | simp [fs_at, *])) gX8_takes_X8_part rfl (n := 2) (by decide +kernel) (by decide) rfl rfl rfl rfl (Nat.le_of_ble_eq_true rfl) dX8_takes_57 rfl rfl (by decide) rfl ?_
    have r6 : ((fs (fs (fs E 0 (208 + 7 * j + 2) (nI s)) 0 (8 + 10 * s + 7) (nI j)) 0 (8 + 10 * s + 4) 5) 0 (8 + 10 * s + 0) : Int32) = E 0 (8 + 10 * s + 0) := by rw [fs_at, if_neg (by omega), fs_at, if_neg (by omega), fs_at, if_neg (by omega)]
    refine hV_st (st' := [.int (E 0 (8 + 10 * s + 0)), .int 5, .int (nI s), .ref (q 0)]) (congrArg (fun z => Value.int z :: [.int 5, .int (nI s), .ref (q 0)]) r6) ?_
    refine hiconst (v := 1) X dX8_takes_60 rfl ?_
    refine hiadd X dX8_takes_61 ?_
    refine hiconst (v := 2) X dX8_takes_62 rfl ?_
    refine hidiv X dX8_takes_63 (by decide) ?_
    refine hcallV0 (C := RX8) (T := TX8) (N := 14) (As := [.int (nI s), .int (nI 5), .int (((E 0 (8 + 10 * s + 0)) + 1) / 2)]) (rest := []) (st' := []) (w := mW G q (fs (fs (fs (fs E 0 (208 + 7 * j + 2) (nI s)) 0 (8 + 10 * s + 7) (nI j)) 0 (8 + 10 * s + 4) 5) 0 (8 + 10 * s + 5) (((E 0 (8 + 10 * s + 0)) + 1) / 2))) X (q0 := 0) (kX8_setPart l G q (fs (fs (fs E 0 (208 + 7 * j + 2) (nI s)) 0 (8 + 10 * s + 7) (nI j)) 0 (8 + 10 * s + 4) 5) s 5 (((E 0 (8 + 10 * s + 0)) + 1) / 2) (by first | assumption | omega | simp [fs_at, *]) (by first | assumption | omega | simp [fs_at, *])) gX8_takes_X8_setPart rfl (n := 3) (by decide +kernel) (by decide) rfl rfl rfl rfl (Nat.le_of_ble_eq_true rfl) dX8_takes_64 rfl rfl (by decide) rfl ?_
    refine haload_n X dX8_takes_67 rfl ?_
    refine hiload_n X dX8_takes_68 rfl ?_
    refine hbipush (v := 6) X dX8_takes_69 rfl ?_
    refine hbipush (v := (-6)) X dX8_takes_71 rfl ?_
    refine hcallV0 (C := RX8) (T := TX8) (N := 14) (As := [.int (nI s), .int (nI 6), .int (-6)]) (rest := []) (st' := []) (w := mW G q (fs (fs (fs (fs (fs E 0 (208 + 7 * j + 2) (nI s)) 0 (8 + 10 * s + 7) (nI j)) 0 (8 + 10 * s + 4) 5) 0 (8 + 10 * s + 5) (((E 0 (8 + 10 * s + 0)) + 1) / 2)) 0 (8 + 10 * s + 6) (-6))) X (q0 := 0) (kX8_setPart l G q (fs (fs (fs (fs E 0 (208 + 7 * j + 2) (nI s)) 0 (8 + 10 * s + 7) (nI j)) 0 (8 + 10 * s + 4) 5) 0 (8 + 10 * s + 5) (((E 0 (8 + 10 * s + 0)) + 1) / 2)) s 6 (-6) (by first | assumption | omega | simp [fs_at, *]) (by first | assumption | omega | simp [fs_at, *])) gX8_takes_X8_setPart rfl (n := 3) (by decide +kernel) (by decide) rfl rfl rfl rfl (Nat.le_of_ble_eq_true rfl) dX8_takes_73 rfl rfl (by decide) rfl ?_
    refine hvret X dX8_takes_76 ⟨rfl, ?_⟩
    refine congrArg (mW G q) (?_ : (fs (fs (fs (fs (fs E 0 (208 + 7 * j + 2) (nI s)) 0 (8 + 10 * s + 7) (nI j)) 0 (8 + 10 * s + 4) 5) 0 (8 + 10 * s + 5) (((E 0 (8 + 10 * s + 0)) + 1) / 2)) 0 (8 + 10 * s + 6) (-6) : hF) = taE E j s)
    simp [taE, c1]

