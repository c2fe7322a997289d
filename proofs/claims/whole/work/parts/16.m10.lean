set_option maxHeartbeats 4000000 in
set_option maxRecDepth 100000 in
theorem kX8_put (l : Launch) (G : hG) (q : Nat → Nat) (E : hF) (pl : Nat) (hpl : pl ≤ 80) (h61 : E 6 1 = nI pl) (x : Int64) : hM l G yX8_put wsX8_put ({ frames := 2, cells := 0, slots := 0, locals := 62 }) (mW G q E) [.ref (q 0), .long x] (hR (some (.int (putR pl x))) (mW G q (putE E pl x))) := by
  refine hM_of (cc := cX8_put) (maxL := 8) (ret := (some .int)) (by decide) rfl (Nat.le_of_ble_eq_true rfl) ?_
  intro pp ee ss mm aa bb me cd X hin
  have iX8 : ∀ w ∈ wsX80, w ∈ wsX8_put := by decide +kernel
  have L2 : ∀ (d : Nat) (k i : Nat) (r : Int64) (b : Int32), (pl + k ≤ 80) → (i ≤ k) → (ptG 8 0 x 1 = (k, r, b)) → (¬ k = 0) → (¬ b = 0) → (lg_cmp r 0 = 0) → (k - i) < d → hV pp l ee ({ frames := 2, cells := 0, slots := 0, locals := 62 }) ss mm aa bb me cd G (va_A (mW G q E) ss.heap.size) 8 0 0 (MQ bb (hQc G (mW G q E) ss.heap.size (hR (some (.int (putR pl x))) (mW G q (putE E pl x)))) aa ss 0 0 (va_A (mW G q E) ss.heap.size)) (mW G q (ptL E pl x k i)) 105 [(7, .int (nI (k - i) - 1)), (0, .ref (q 0)), (1, .long x)] [] := by
    intro d
    induction d with
    | zero =>
      intro k i r b q8 hi eg qk qb qr hd0
      exact absurd hd0 (Nat.not_lt_zero _)
    | succ d ih =>
      intro k i r b q8 hi eg qk qb qr hd0
      refine hiload X dX8_put_105 rfl ?_
      refine hif_lt (tgt := 147) X dX8_put_107 (by decide) (fun c1 => ?_) (fun c1 => ?_)
      · have ek : i = k := by
          rcases Nat.lt_or_ge i k with q | q
          · exact absurd c1 (by rw [pt_i q]; exact nI_pos (by omega))
          · omega
        refine haload_n X dX8_put_147 rfl ?_
        refine hget1 X (T := TX8) (N := 14) iX8 0 rfl rfl 7 (by decide) (by decide +kernel) rfl dX8_put_148 ?_
        refine hV_st (st' := [.int (nI (pl + i))]) (congrArg (fun z => Value.int z :: []) (ptL_61 h61 x k i)) ?_
        refine hiret X dX8_put_151 ⟨congrArg (fun z => some (Value.int z)) (?_ : (nI (pl + i)) = putR pl x), ?_⟩
        · first | (simp [putR, eg, qk, c1]; done) | (simp [putR, eg, qk, q8, c1]; done) | (simp [putR, eg, qk, q8, qb, qr, ek]; done)
        refine congrArg (mW G q) (?_ : (ptL E pl x k i : hF) = putE E pl x)
        first | (simp [putE, eg, qk, c1]; done) | (simp [putE, eg, qk, q8, c1]; done) | (simp [putE, eg, qk, q8, qb, qr, ek]; done)
      · have hik : i < k := by
          rcases Nat.lt_or_ge i k with q | q
          · exact q
          · exact absurd (by rw [show k - i = 0 by omega]; decide) c1
        refine haload_n X dX8_put_110 rfl ?_
        refine hget1 X (T := TX8) (N := 14) iX8 0 rfl rfl 6 (by decide) (by decide +kernel) rfl dX8_put_111 ?_
        refine haload_n X dX8_put_114 rfl ?_
        refine hget1 X (T := TX8) (N := 14) iX8 0 rfl rfl 7 (by decide) (by decide +kernel) rfl dX8_put_115 ?_
        refine hV_st (st' := [.int (nI (pl + i)), .ref (q 6)]) (congrArg (fun z => Value.int z :: [.ref (q 6)]) (ptL_61 h61 x k i)) ?_
        refine hlload_n X dX8_put_118 rfl ?_
        refine hbipush (v := 8) X dX8_put_119 rfl ?_
        refine hiload X dX8_put_121 rfl ?_
        refine hV_st (st' := [.int (nI (k - 1 - i)), .int 8, .long x, .int (nI (pl + i)), .ref (q 6)]) (congrArg (fun z => ([Value.int z, .int 8, .long x, .int (nI (pl + i)), .ref (q 6)] : List Value)) (pt_i hik)) ?_
        refine himul X dX8_put_123 ?_
        refine hlushr (v := (x.toUInt64 >>> ((8 * (nI (k - 1 - i))).toInt64.toUInt64 &&& Int64.toUInt64 63)).toInt64) X dX8_put_124 rfl ?_
        refine hldc2 (v := 255) X (by decide +kernel) dX8_put_125 ?_
        refine hland X dX8_put_128 ?_
        refine hl2i (v := (((x.toUInt64 >>> ((8 * (nI (k - 1 - i))).toInt64.toUInt64 &&& Int64.toUInt64 63)).toInt64) &&& 255).toInt32) X dX8_put_129 rfl ?_
        refine hV_st (st' := [.int (byt x (k - 1 - i)), .int (nI (pl + i)), .ref (q 6)]) (congrArg (fun z => ([Value.int z, .int (nI (pl + i)), .ref (q 6)] : List Value)) (rfl)) ?_
        refine hiast (n := 80) (f := (ptL E pl x k i) 5) X 6 rfl (pl + i) rfl (by omega) (by decide) dX8_put_130 (ws' := mW G q (fs (ptL E pl x k i) 5 (pl + i) (byt x (k - 1 - i)))) (mWs5 G q _ _ _) ?_
        refine haload_n X dX8_put_131 rfl ?_
        refine hdup X dX8_put_132 rfl ?_
        refine hget1 X (T := TX8) (N := 14) iX8 0 rfl rfl 7 (by decide) (by decide +kernel) rfl dX8_put_133 ?_
        have r2 : ((fs (ptL E pl x k i) 5 (pl + i) (byt x (k - 1 - i))) 6 1 : Int32) = (ptL E pl x k i) 6 1 := by rw [fs_ne _ _ _ (by decide)]
        refine hV_st (st' := [.int ((ptL E pl x k i) 6 1), .ref (q 0)]) (congrArg (fun z => Value.int z :: [.ref (q 0)]) r2) ?_
        refine hV_st (st' := [.int (nI (pl + i)), .ref (q 0)]) (congrArg (fun z => Value.int z :: [.ref (q 0)]) (ptL_61 h61 x k i)) ?_
        refine hiconst (v := 1) X dX8_put_136 rfl ?_
        refine hiadd X dX8_put_137 ?_
        refine hV_st (st' := [.int (nI (pl + i + 1)), .ref (q 0)]) (congrArg (fun z => Value.int z :: [.ref (q 0)]) (nadd rfl rfl)) ?_
        refine hput1 X (T := TX8) (N := 14) iX8 tyX8 tyX8_ok nmX8 0 rfl rfl 7 (by decide) (by decide +kernel) (by decide +kernel) rfl rfl (Nat.le_of_ble_eq_true rfl) dX8_put_138 (ws' := mW G q (fs (fs (ptL E pl x k i) 5 (pl + i) (byt x (k - 1 - i))) 6 1 (nI (pl + i + 1)))) (mWf7 G q _ _) ?_
        refine hiinc (v := nI (k - i) - 1 + (-1)) (lv' := [(7, .int (nI (k - i) - 1 + (-1))), (0, .ref (q 0)), (1, .long x)]) X dX8_put_141 rfl rfl (by decide) rfl ?_
        refine hgoto (tgt := 105) X dX8_put_144 (by decide) ?_
        have e3 : (nI (k - i) - 1 + (-1) : Int32) = nI (k - (i + 1)) - 1 := by
          rw [pt_i hik, show k - (i + 1) = k - 1 - i by omega, Int32.sub_eq_add_neg]
        have w4 : (fs (fs (ptL E pl x k i) 5 (pl + i) (byt x (k - 1 - i))) 6 1 (nI (pl + i + 1)) : hF) = ptL E pl x k (i + 1) := by
          rfl
        exact hV_to (ws' := mW G q (ptL E pl x k (i + 1))) (lv' := [(7, .int (nI (k - (i + 1)) - 1)), (0, .ref (q 0)), (1, .long x)]) (st' := []) (congrArg (mW G q) w4) (congrArg (fun z => ([(7, .int z), (0, .ref (q 0)), (1, .long x)] : List (Nat × Value))) e3) rfl (ih k (i + 1) r b q8 (by omega) eg qk qb qr (by omega))
  have L1 : ∀ (d : Nat) (k : Nat) (r : Int64) (b : Int32), (k ≤ 8) → (ptG (8 - k) k r b = ptG 8 0 x 1) → (8 - k) < d → hV pp l ee ({ frames := 2, cells := 0, slots := 0, locals := 62 }) ss mm aa bb me cd G (va_A (mW G q E) ss.heap.size) 8 0 0 (MQ bb (hQc G (mW G q E) ss.heap.size (hR (some (.int (putR pl x))) (mW G q (putE E pl x)))) aa ss 0 0 (va_A (mW G q E) ss.heap.size)) (mW G q E) 8 [(3, .int (nI k)), (6, .int b), (4, .long r), (0, .ref (q 0)), (1, .long x)] [] := by
    intro d
    induction d with
    | zero =>
      intro k r b hk hE hd0
      exact absurd hd0 (Nat.not_lt_zero _)
    | succ d ih =>
      intro k r b hk hE hd0
      refine hiload_n X dX8_put_8 rfl ?_
      refine hbipush (v := 8) X dX8_put_9 rfl ?_
      refine hicmp_ge (tgt := 67) X dX8_put_11 (by decide) (fun c5 => ?_) (fun c5 => ?_)
      · have ek : k = 8 := i_ge (n := 8) hk (by decide) c5
        have eg : ptG 8 0 x 1 = (k, r, b) := by rw [← hE, ek]; rfl
        refine hiload_n X dX8_put_67 rfl ?_
        refine hif_eq (tgt := 83) X dX8_put_68 (by decide) (fun c6 => ?_) (fun c6 => ?_)
        · have qk : k = 0 := (nI_eq (a := k) (b := 0) (by omega) (by decide)).mp c6
          refine hbipush (v := (-2)) X dX8_put_83 rfl ?_
          refine hiret X dX8_put_85 ⟨congrArg (fun z => some (Value.int z)) (?_ : (-2) = putR pl x), ?_⟩
          · first | (simp [putR, eg, qk, c5, c6]; done) | (simp [putR, eg, qk, q8, c5, c6]; done) | (simp [putR, eg, qk, q8, qb, qr, ek]; done)
          refine congrArg (mW G q) (?_ : (E : hF) = putE E pl x)
          first | (simp [putE, eg, qk, c5, c6]; done) | (simp [putE, eg, qk, q8, c5, c6]; done) | (simp [putE, eg, qk, q8, qb, qr, ek]; done)
        · have qk : ¬ k = 0 := fun z9 => c6 (by rw [z9]; rfl)
          refine hiload X dX8_put_71 rfl ?_
          refine hif_eq (tgt := 83) X dX8_put_73 (by decide) (fun c7 => ?_) (fun c7 => ?_)
          · refine hbipush (v := (-2)) X dX8_put_83 rfl ?_
            refine hiret X dX8_put_85 ⟨congrArg (fun z => some (Value.int z)) (?_ : (-2) = putR pl x), ?_⟩
            · first | (simp [putR, eg, qk, c5, c6, c7]; done) | (simp [putR, eg, qk, q8, c5, c6, c7]; done) | (simp [putR, eg, qk, q8, qb, qr, ek]; done)
            refine congrArg (mW G q) (?_ : (E : hF) = putE E pl x)
            first | (simp [putE, eg, qk, c5, c6, c7]; done) | (simp [putE, eg, qk, q8, c5, c6, c7]; done) | (simp [putE, eg, qk, q8, qb, qr, ek]; done)
          · refine hlload X dX8_put_76 rfl ?_
            refine hlconst (v := 0) X dX8_put_78 rfl ?_
            refine hlcmp X dX8_put_79 ?_
            refine hif_eq (tgt := 86) X dX8_put_80 (by decide) (fun c8 => ?_) (fun c8 => ?_)
            · refine haload_n X dX8_put_86 rfl ?_
              refine hget1 X (T := TX8) (N := 14) iX8 0 rfl rfl 7 (by decide) (by decide +kernel) rfl dX8_put_87 ?_
              refine hV_st (st' := [.int (nI pl)]) (congrArg (fun z => Value.int z :: []) h61) ?_
              refine hiload_n X dX8_put_90 rfl ?_
              refine hiadd X dX8_put_91 ?_
              refine hbipush (v := 80) X dX8_put_92 rfl ?_
              refine hicmp_le (tgt := 100) X dX8_put_94 (by decide) (fun c9 => ?_) (fun c9 => ?_)
              · have q8 : pl + k ≤ 80 := (nI_leI (a := pl + k) (b := 80) (by omega) (by decide)).mp (by rw [← nI_add]; exact c9)
                refine hiload_n X dX8_put_100 rfl ?_
                refine hiconst (v := 1) X dX8_put_101 rfl ?_
                refine hisub X dX8_put_102 ?_
                refine histore (lv' := [(7, .int ((nI k) - 1)), (3, .int (nI k)), (6, .int b), (4, .long r), (0, .ref (q 0)), (1, .long x)]) X dX8_put_103 (by decide) rfl ?_
                refine hV_lv (lv' := [(7, .int ((nI k) - 1)), (0, .ref (q 0)), (1, .long x)]) [0, 4, 5] rfl ?_
                have e10 : ((nI k) - 1 : Int32) = nI (k - 0) - 1 := by
                  rfl
                have w11 : (E : hF) = ptL E pl x k 0 := by
                  rfl
                exact hV_to (ws' := mW G q (ptL E pl x k 0)) (lv' := [(7, .int (nI (k - 0) - 1)), (0, .ref (q 0)), (1, .long x)]) (st' := []) (congrArg (mW G q) w11) (congrArg (fun z => ([(7, .int z), (0, .ref (q 0)), (1, .long x)] : List (Nat × Value))) e10) rfl (L2 _ k 0 r b q8 (Nat.zero_le _) eg qk c7 c8 (Nat.lt_succ_self _))
              · have q8 : ¬ pl + k ≤ 80 := fun z9 => c9 (by rw [nI_add]; exact (nI_leI (a := pl + k) (b := 80) (by omega) (by decide)).mpr z9)
                refine hbipush (v := (-4)) X dX8_put_97 rfl ?_
                refine hiret X dX8_put_99 ⟨congrArg (fun z => some (Value.int z)) (?_ : (-4) = putR pl x), ?_⟩
                · first | (simp [putR, eg, qk, c5, c6, c7, c8, c9]; done) | (simp [putR, eg, qk, q8, c5, c6, c7, c8, c9]; done) | (simp [putR, eg, qk, q8, qb, qr, ek]; done)
                refine congrArg (mW G q) (?_ : (E : hF) = putE E pl x)
                first | (simp [putE, eg, qk, c5, c6, c7, c8, c9]; done) | (simp [putE, eg, qk, q8, c5, c6, c7, c8, c9]; done) | (simp [putE, eg, qk, q8, qb, qr, ek]; done)
            · refine hbipush (v := (-2)) X dX8_put_83 rfl ?_
              refine hiret X dX8_put_85 ⟨congrArg (fun z => some (Value.int z)) (?_ : (-2) = putR pl x), ?_⟩
              · first | (simp [putR, eg, qk, c5, c6, c7, c8]; done) | (simp [putR, eg, qk, q8, c5, c6, c7, c8]; done) | (simp [putR, eg, qk, q8, qb, qr, ek]; done)
              refine congrArg (mW G q) (?_ : (E : hF) = putE E pl x)
              first | (simp [putE, eg, qk, c5, c6, c7, c8]; done) | (simp [putE, eg, qk, q8, c5, c6, c7, c8]; done) | (simp [putE, eg, qk, q8, qb, qr, ek]; done)
      · have hk1 : k < 8 := i_lt (n := 8) hk (by decide) c5
        refine hlload X dX8_put_14 rfl ?_
        refine hldc2 (v := 255) X (by decide +kernel) dX8_put_16 ?_
        refine hland X dX8_put_19 ?_
        refine hlconst (v := 0) X dX8_put_20 rfl ?_
        refine hlcmp X dX8_put_21 ?_
        refine hif_eq (tgt := 67) X dX8_put_22 (by decide) (fun c12 => ?_) (fun c12 => ?_)
        · have eg : ptG 8 0 x 1 = (k, r, b) := by rw [← hE, show 8 - k = (8 - (k + 1)) + 1 by omega]; simp [ptG, c5, c12]
          refine hiload_n X dX8_put_67 rfl ?_
          refine hif_eq (tgt := 83) X dX8_put_68 (by decide) (fun c13 => ?_) (fun c13 => ?_)
          · have qk : k = 0 := (nI_eq (a := k) (b := 0) (by omega) (by decide)).mp c13
            refine hbipush (v := (-2)) X dX8_put_83 rfl ?_
            refine hiret X dX8_put_85 ⟨congrArg (fun z => some (Value.int z)) (?_ : (-2) = putR pl x), ?_⟩
            · first | (simp [putR, eg, qk, c5, c12, c13]; done) | (simp [putR, eg, qk, q8, c5, c12, c13]; done) | (simp [putR, eg, qk, q8, qb, qr, ek]; done)
            refine congrArg (mW G q) (?_ : (E : hF) = putE E pl x)
            first | (simp [putE, eg, qk, c5, c12, c13]; done) | (simp [putE, eg, qk, q8, c5, c12, c13]; done) | (simp [putE, eg, qk, q8, qb, qr, ek]; done)
          · have qk : ¬ k = 0 := fun z9 => c13 (by rw [z9]; rfl)
            refine hiload X dX8_put_71 rfl ?_
            refine hif_eq (tgt := 83) X dX8_put_73 (by decide) (fun c14 => ?_) (fun c14 => ?_)
            · refine hbipush (v := (-2)) X dX8_put_83 rfl ?_
              refine hiret X dX8_put_85 ⟨congrArg (fun z => some (Value.int z)) (?_ : (-2) = putR pl x), ?_⟩
              · first | (simp [putR, eg, qk, c5, c12, c13, c14]; done) | (simp [putR, eg, qk, q8, c5, c12, c13, c14]; done) | (simp [putR, eg, qk, q8, qb, qr, ek]; done)
              refine congrArg (mW G q) (?_ : (E : hF) = putE E pl x)
              first | (simp [putE, eg, qk, c5, c12, c13, c14]; done) | (simp [putE, eg, qk, q8, c5, c12, c13, c14]; done) | (simp [putE, eg, qk, q8, qb, qr, ek]; done)
            · refine hlload X dX8_put_76 rfl ?_
              refine hlconst (v := 0) X dX8_put_78 rfl ?_
              refine hlcmp X dX8_put_79 ?_
              refine hif_eq (tgt := 86) X dX8_put_80 (by decide) (fun c15 => ?_) (fun c15 => ?_)
              · refine haload_n X dX8_put_86 rfl ?_
                refine hget1 X (T := TX8) (N := 14) iX8 0 rfl rfl 7 (by decide) (by decide +kernel) rfl dX8_put_87 ?_
                refine hV_st (st' := [.int (nI pl)]) (congrArg (fun z => Value.int z :: []) h61) ?_
                refine hiload_n X dX8_put_90 rfl ?_
                refine hiadd X dX8_put_91 ?_
                refine hbipush (v := 80) X dX8_put_92 rfl ?_
                refine hicmp_le (tgt := 100) X dX8_put_94 (by decide) (fun c16 => ?_) (fun c16 => ?_)
                · have q8 : pl + k ≤ 80 := (nI_leI (a := pl + k) (b := 80) (by omega) (by decide)).mp (by rw [← nI_add]; exact c16)
                  refine hiload_n X dX8_put_100 rfl ?_
                  refine hiconst (v := 1) X dX8_put_101 rfl ?_
                  refine hisub X dX8_put_102 ?_
                  refine histore (lv' := [(7, .int ((nI k) - 1)), (3, .int (nI k)), (6, .int b), (4, .long r), (0, .ref (q 0)), (1, .long x)]) X dX8_put_103 (by decide) rfl ?_
                  refine hV_lv (lv' := [(7, .int ((nI k) - 1)), (0, .ref (q 0)), (1, .long x)]) [0, 4, 5] rfl ?_
                  have e17 : ((nI k) - 1 : Int32) = nI (k - 0) - 1 := by
                    rfl
                  have w18 : (E : hF) = ptL E pl x k 0 := by
                    rfl
                  exact hV_to (ws' := mW G q (ptL E pl x k 0)) (lv' := [(7, .int (nI (k - 0) - 1)), (0, .ref (q 0)), (1, .long x)]) (st' := []) (congrArg (mW G q) w18) (congrArg (fun z => ([(7, .int z), (0, .ref (q 0)), (1, .long x)] : List (Nat × Value))) e17) rfl (L2 _ k 0 r b q8 (Nat.zero_le _) eg qk c14 c15 (Nat.lt_succ_self _))
                · have q8 : ¬ pl + k ≤ 80 := fun z9 => c16 (by rw [nI_add]; exact (nI_leI (a := pl + k) (b := 80) (by omega) (by decide)).mpr z9)
                  refine hbipush (v := (-4)) X dX8_put_97 rfl ?_
                  refine hiret X dX8_put_99 ⟨congrArg (fun z => some (Value.int z)) (?_ : (-4) = putR pl x), ?_⟩
                  · first | (simp [putR, eg, qk, c5, c12, c13, c14, c15, c16]; done) | (simp [putR, eg, qk, q8, c5, c12, c13, c14, c15, c16]; done) | (simp [putR, eg, qk, q8, qb, qr, ek]; done)
                  refine congrArg (mW G q) (?_ : (E : hF) = putE E pl x)
                  first | (simp [putE, eg, qk, c5, c12, c13, c14, c15, c16]; done) | (simp [putE, eg, qk, q8, c5, c12, c13, c14, c15, c16]; done) | (simp [putE, eg, qk, q8, qb, qr, ek]; done)
              · refine hbipush (v := (-2)) X dX8_put_83 rfl ?_
                refine hiret X dX8_put_85 ⟨congrArg (fun z => some (Value.int z)) (?_ : (-2) = putR pl x), ?_⟩
                · first | (simp [putR, eg, qk, c5, c12, c13, c14, c15]; done) | (simp [putR, eg, qk, q8, c5, c12, c13, c14, c15]; done) | (simp [putR, eg, qk, q8, qb, qr, ek]; done)
                refine congrArg (mW G q) (?_ : (E : hF) = putE E pl x)
                first | (simp [putE, eg, qk, c5, c12, c13, c14, c15]; done) | (simp [putE, eg, qk, q8, c5, c12, c13, c14, c15]; done) | (simp [putE, eg, qk, q8, qb, qr, ek]; done)
        · refine hiload X dX8_put_25 rfl ?_
          refine hif_eq (tgt := 51) X dX8_put_27 (by decide) (fun c19 => ?_) (fun c19 => ?_)
          · refine hiconst (v := 0) X dX8_put_51 rfl ?_
            refine histore (lv' := [(6, .int 0), (3, .int (nI k)), (4, .long r), (0, .ref (q 0)), (1, .long x)]) X dX8_put_52 (by decide) rfl ?_
            refine hlload X dX8_put_54 rfl ?_
            refine hbipush (v := 8) X dX8_put_56 rfl ?_
            refine hlushr (v := (r.toUInt64 >>> ((8 : Int32).toInt64.toUInt64 &&& Int64.toUInt64 63)).toInt64) X dX8_put_58 rfl ?_
            refine hlstore (lv' := [(4, .long ((r.toUInt64 >>> ((8 : Int32).toInt64.toUInt64 &&& Int64.toUInt64 63)).toInt64)), (6, .int 0), (3, .int (nI k)), (0, .ref (q 0)), (1, .long x)]) X dX8_put_59 (by decide) rfl ?_
            refine hiinc (v := nI (k + 1)) (lv' := [(3, .int (nI (k + 1))), (4, .long ((r.toUInt64 >>> ((8 : Int32).toInt64.toUInt64 &&& Int64.toUInt64 63)).toInt64)), (6, .int 0), (0, .ref (q 0)), (1, .long x)]) X dX8_put_61 rfl (nI_1 _) (by decide) rfl ?_
            refine hgoto (tgt := 8) X dX8_put_64 (by decide) ?_
            refine hV_lv (lv' := [(3, .int (nI (k + 1))), (6, .int 0), (4, .long ((r.toUInt64 >>> ((8 : Int32).toInt64.toUInt64 &&& Int64.toUInt64 63)).toInt64)), (0, .ref (q 0)), (1, .long x)]) [0, 2, 1, 3, 4] rfl ?_
            exact hV_to (ws' := mW G q E) (lv' := [(3, .int (nI (k + 1))), (6, .int 0), (4, .long ((r.toUInt64 >>> ((8 : Int32).toInt64.toUInt64 &&& Int64.toUInt64 63)).toInt64)), (0, .ref (q 0)), (1, .long x)]) (st' := []) rfl rfl rfl (ih (k + 1) ((r.toUInt64 >>> ((8 : Int32).toInt64.toUInt64 &&& Int64.toUInt64 63)).toInt64) 0 (by omega) (by rw [← hE, ptG_step c12 hk1, if_pos c19]; rfl) (by omega))
          · refine hlload X dX8_put_30 rfl ?_
            refine hldc2 (v := 255) X (by decide +kernel) dX8_put_32 ?_
            refine hland X dX8_put_35 ?_
            refine hl2i (v := (r &&& 255).toInt32) X dX8_put_36 rfl ?_
            refine hbipush (v := 33) X dX8_put_37 rfl ?_
            refine hbipush (v := 126) X dX8_put_39 rfl ?_
            refine hcallSr (wsC := []) (wsR := mW G q E) (As := [.int ((r &&& 255).toInt32), .int 33, .int 126]) (rest := []) (st' := [.int (bI (wI ((r &&& 255).toInt32) 33 126))]) (w := []) X (kX8_within l G ((r &&& 255).toInt32) 33 126) gX8_put_X8_within rfl (n := 3) (by decide +kernel) (by decide) rfl rfl (Nat.le_of_ble_eq_true rfl) dX8_put_41 rfl rfl (by decide) rfl ?_
            refine hV_to (ws' := mW G q E) rfl rfl rfl ?_
            refine hif_eqB (tgt := 51) X dX8_put_44 (by decide) (fun c20 => ?_) (fun c20 => ?_)
            · refine hiconst (v := 0) X dX8_put_51 rfl ?_
              refine histore (lv' := [(6, .int 0), (3, .int (nI k)), (4, .long r), (0, .ref (q 0)), (1, .long x)]) X dX8_put_52 (by decide) rfl ?_
              refine hlload X dX8_put_54 rfl ?_
              refine hbipush (v := 8) X dX8_put_56 rfl ?_
              refine hlushr (v := (r.toUInt64 >>> ((8 : Int32).toInt64.toUInt64 &&& Int64.toUInt64 63)).toInt64) X dX8_put_58 rfl ?_
              refine hlstore (lv' := [(4, .long ((r.toUInt64 >>> ((8 : Int32).toInt64.toUInt64 &&& Int64.toUInt64 63)).toInt64)), (6, .int 0), (3, .int (nI k)), (0, .ref (q 0)), (1, .long x)]) X dX8_put_59 (by decide) rfl ?_
              refine hiinc (v := nI (k + 1)) (lv' := [(3, .int (nI (k + 1))), (4, .long ((r.toUInt64 >>> ((8 : Int32).toInt64.toUInt64 &&& Int64.toUInt64 63)).toInt64)), (6, .int 0), (0, .ref (q 0)), (1, .long x)]) X dX8_put_61 rfl (nI_1 _) (by decide) rfl ?_
              refine hgoto (tgt := 8) X dX8_put_64 (by decide) ?_
              refine hV_lv (lv' := [(3, .int (nI (k + 1))), (6, .int 0), (4, .long ((r.toUInt64 >>> ((8 : Int32).toInt64.toUInt64 &&& Int64.toUInt64 63)).toInt64)), (0, .ref (q 0)), (1, .long x)]) [0, 2, 1, 3, 4] rfl ?_
              exact hV_to (ws' := mW G q E) (lv' := [(3, .int (nI (k + 1))), (6, .int 0), (4, .long ((r.toUInt64 >>> ((8 : Int32).toInt64.toUInt64 &&& Int64.toUInt64 63)).toInt64)), (0, .ref (q 0)), (1, .long x)]) (st' := []) rfl rfl rfl (ih (k + 1) ((r.toUInt64 >>> ((8 : Int32).toInt64.toUInt64 &&& Int64.toUInt64 63)).toInt64) 0 (by omega) (by rw [← hE, ptG_step c12 hk1, if_neg c19, if_neg c20]; rfl) (by omega))
            · refine hiconst (v := 1) X dX8_put_47 rfl ?_
              refine hgoto (tgt := 52) X dX8_put_48 (by decide) ?_
              refine histore (lv' := [(6, .int 1), (3, .int (nI k)), (4, .long r), (0, .ref (q 0)), (1, .long x)]) X dX8_put_52 (by decide) rfl ?_
              refine hlload X dX8_put_54 rfl ?_
              refine hbipush (v := 8) X dX8_put_56 rfl ?_
              refine hlushr (v := (r.toUInt64 >>> ((8 : Int32).toInt64.toUInt64 &&& Int64.toUInt64 63)).toInt64) X dX8_put_58 rfl ?_
              refine hlstore (lv' := [(4, .long ((r.toUInt64 >>> ((8 : Int32).toInt64.toUInt64 &&& Int64.toUInt64 63)).toInt64)), (6, .int 1), (3, .int (nI k)), (0, .ref (q 0)), (1, .long x)]) X dX8_put_59 (by decide) rfl ?_
              refine hiinc (v := nI (k + 1)) (lv' := [(3, .int (nI (k + 1))), (4, .long ((r.toUInt64 >>> ((8 : Int32).toInt64.toUInt64 &&& Int64.toUInt64 63)).toInt64)), (6, .int 1), (0, .ref (q 0)), (1, .long x)]) X dX8_put_61 rfl (nI_1 _) (by decide) rfl ?_
              refine hgoto (tgt := 8) X dX8_put_64 (by decide) ?_
              refine hV_lv (lv' := [(3, .int (nI (k + 1))), (6, .int 1), (4, .long ((r.toUInt64 >>> ((8 : Int32).toInt64.toUInt64 &&& Int64.toUInt64 63)).toInt64)), (0, .ref (q 0)), (1, .long x)]) [0, 2, 1, 3, 4] rfl ?_
              exact hV_to (ws' := mW G q E) (lv' := [(3, .int (nI (k + 1))), (6, .int 1), (4, .long ((r.toUInt64 >>> ((8 : Int32).toInt64.toUInt64 &&& Int64.toUInt64 63)).toInt64)), (0, .ref (q 0)), (1, .long x)]) (st' := []) rfl rfl rfl (ih (k + 1) ((r.toUInt64 >>> ((8 : Int32).toInt64.toUInt64 &&& Int64.toUInt64 63)).toInt64) 1 (by omega) (by rw [← hE, ptG_step c12 hk1, if_neg c19, if_pos c20]; rfl) (by omega))
  refine hiconst (v := 0) X dX8_put_0 rfl ?_
  refine histore_n (lv' := [(3, .int 0), (0, .ref (q 0)), (1, .long x)]) X dX8_put_1 (by decide) rfl ?_
  refine hlload_n X dX8_put_2 rfl ?_
  refine hlstore (lv' := [(4, .long x), (3, .int 0), (0, .ref (q 0)), (1, .long x)]) X dX8_put_3 (by decide) rfl ?_
  refine hiconst (v := 1) X dX8_put_5 rfl ?_
  refine histore (lv' := [(6, .int 1), (4, .long x), (3, .int 0), (0, .ref (q 0)), (1, .long x)]) X dX8_put_6 (by decide) rfl ?_
  refine hV_lv (lv' := [(3, .int 0), (6, .int 1), (4, .long x), (0, .ref (q 0)), (1, .long x)]) [2, 0, 1, 3, 4] rfl ?_
  exact hV_to (ws' := mW G q E) (lv' := [(3, .int 0), (6, .int 1), (4, .long x), (0, .ref (q 0)), (1, .long x)]) (st' := []) rfl rfl rfl (L1 _ 0 x 1 (Nat.zero_le _) rfl (Nat.lt_succ_self _))

set_option maxHeartbeats 4000000 in
set_option maxRecDepth 100000 in
theorem kX8_wipe (l : Launch) (G : hG) (q : Nat → Nat) (E : hF) : hM l G yX8_wipe wsX8_wipe ({ frames := 1, cells := 0, slots := 0, locals := 40 }) (mW G q E) [.ref (q 0)] (hR (some (.int (E 6 1))) (mW G q (fs E 6 1 0))) := by
  refine hM_of (cc := cX8_wipe) (maxL := 2) (ret := (some .int)) (by decide) rfl (Nat.le_of_ble_eq_true rfl) ?_
  intro pp ee ss mm aa bb me cd X hin
  have iX8 : ∀ w ∈ wsX80, w ∈ wsX8_wipe := by decide +kernel
  refine haload_n X dX8_wipe_0 rfl ?_
  refine hget1 X (T := TX8) (N := 14) iX8 0 rfl rfl 7 (by decide) (by decide +kernel) rfl dX8_wipe_1 ?_
  refine histore_n (lv' := [(1, .int (E 6 1)), (0, .ref (q 0))]) X dX8_wipe_4 (by decide) rfl ?_
  refine haload_n X dX8_wipe_5 rfl ?_
  refine hiconst (v := 0) X dX8_wipe_6 rfl ?_
  refine hput1 X (T := TX8) (N := 14) iX8 tyX8 tyX8_ok nmX8 0 rfl rfl 7 (by decide) (by decide +kernel) (by decide +kernel) rfl rfl (Nat.le_of_ble_eq_true rfl) dX8_wipe_7 (ws' := mW G q (fs E 6 1 0)) (mWf7 G q _ _) ?_
  refine hiload_n X dX8_wipe_10 rfl ?_
  refine hiret X dX8_wipe_11 ⟨rfl, ?_⟩
  rfl

set_option maxHeartbeats 4000000 in
set_option maxRecDepth 100000 in
theorem kX8_undo (l : Launch) (G : hG) (q : Nat → Nat) (E : hF) (r : Nat) (hr : r ≤ 6) (h60 : E 6 0 = nI r) : hM l G yX8_undo wsX8_undo ({ frames := 2, cells := 0, slots := 0, locals := 64 }) (mW G q E) [.ref (q 0)] (hR (some (.int (undR r))) (mW G q (undE E r))) := by
  refine hM_of (cc := cX8_undo) (maxL := 1) (ret := (some .int)) (by decide) rfl (Nat.le_of_ble_eq_true rfl) ?_
  intro pp ee ss mm aa bb me cd X hin
  have iX8 : ∀ w ∈ wsX80, w ∈ wsX8_undo := by decide +kernel
  refine haload_n X dX8_undo_0 rfl ?_
  refine hget1 X (T := TX8) (N := 14) iX8 0 rfl rfl 3 (by decide) (by decide +kernel) rfl dX8_undo_1 ?_
  refine hV_st (st' := [.int (nI r)]) (congrArg (fun z => Value.int z :: []) h60) ?_
  refine hif_ne (tgt := 10) X dX8_undo_4 (by decide) (fun c1 => ?_) (fun c1 => ?_)
  · have hr0 : ¬ r = 0 := fun z9 => c1 (by rw [z9]; rfl)
    refine haload_n X dX8_undo_10 rfl ?_
    refine hdup X dX8_undo_11 rfl ?_
    refine hget1 X (T := TX8) (N := 14) iX8 0 rfl rfl 3 (by decide) (by decide +kernel) rfl dX8_undo_12 ?_
    refine hV_st (st' := [.int (nI r), .ref (q 0)]) (congrArg (fun z => Value.int z :: [.ref (q 0)]) h60) ?_
    refine hiconst (v := 1) X dX8_undo_15 rfl ?_
    refine hisub X dX8_undo_16 ?_
    refine hV_st (st' := [.int (nI (r - 1)), .ref (q 0)]) (congrArg (fun z => ([Value.int z, .ref (q 0)] : List Value)) (nsub rfl rfl (by omega))) ?_
    refine hput1 X (T := TX8) (N := 14) iX8 tyX8 tyX8_ok nmX8 0 rfl rfl 3 (by decide) (by decide +kernel) (by decide +kernel) rfl rfl (Nat.le_of_ble_eq_true rfl) dX8_undo_17 (ws' := mW G q (fs E 6 0 (nI (r - 1)))) (mWf3 G q _ _) ?_
    refine haload_n X dX8_undo_20 rfl ?_
    refine hget1 X (T := TX8) (N := 14) iX8 0 rfl rfl 2 (by decide) (by decide +kernel) rfl dX8_undo_21 ?_
    refine haload_n X dX8_undo_24 rfl ?_
    refine hget1 X (T := TX8) (N := 14) iX8 0 rfl rfl 3 (by decide) (by decide +kernel) rfl dX8_undo_25 ?_
    have r2 : ((fs E 6 0 (nI (r - 1))) 6 0 : Int32) = nI (r - 1) := by rw [fs_same]
    refine hV_st (st' := [.int (nI (r - 1)), .ref (q 3)]) (congrArg (fun z => Value.int z :: [.ref (q 3)]) r2) ?_
    refine hsipush (v := 250) X dX8_undo_28 rfl ?_
    refine himul X dX8_undo_31 ?_
    refine haload_n X dX8_undo_32 rfl ?_
    refine hget1 X (T := TX8) (N := 14) iX8 0 rfl rfl 0 (by decide) (by decide +kernel) rfl dX8_undo_33 ?_
    refine hiconst (v := 0) X dX8_undo_36 rfl ?_
    refine hV_st (st' := [.int 0, .ref (q 1), .int (nI ((r - 1) * 250)), .ref (q 3)]) (congrArg (fun z => ([.int 0, .ref (q 1), Value.int z, .ref (q 3)] : List Value)) ((nmul rfl rfl))) ?_
    refine hV_perm (ws' := [(q 3, .inl (G.2.1 0, 1500, .inl ((fs E 6 0 (nI (r - 1))) 2))), (q 1, .inl (G.2.1 0, 250, .inl ((fs E 6 0 (nI (r - 1))) 0)))] ++ ((mW G q (fs E 6 0 (nI (r - 1)))).eraseIdx 3).eraseIdx 1) (pk2 (mW G q (fs E 6 0 (nI (r - 1)))) 3 1 (Nat.le_of_ble_eq_true rfl) (Nat.le_of_ble_eq_true rfl)) ?_
    refine hcallSr (wsC := [(q 3, .inl (G.2.1 0, 1500, .inl ((fs E 6 0 (nI (r - 1))) 2))), (q 1, .inl (G.2.1 0, 250, .inl ((fs E 6 0 (nI (r - 1))) 0)))]) (wsR := ((mW G q (fs E 6 0 (nI (r - 1)))).eraseIdx 3).eraseIdx 1) (As := [.ref (q 3), .int (nI ((r - 1) * 250)), .ref (q 1), .int (nI 0)]) (rest := []) (st' := []) (w := [(q 3, .inl (G.2.1 0, 1500, .inl ((fs E 6 0 (nI (r - 1))) 2))), (q 1, .inl (G.2.1 0, 250, .inl (mvN 250 ((fs E 6 0 (nI (r - 1))) 2) ((r - 1) * 250) ((fs E 6 0 (nI (r - 1))) 0) 0)))]) X (kX8_moves l G (q 3) (q 1) 1500 250 ((r - 1) * 250) 0 ((fs E 6 0 (nI (r - 1))) 2) ((fs E 6 0 (nI (r - 1))) 0) (by omega) (by omega) (by decide) (by decide)) gX8_undo_X8_moves rfl (n := 4) (by decide +kernel) (by decide) rfl rfl (Nat.le_of_ble_eq_true rfl) dX8_undo_37 rfl rfl (by decide) rfl ?_
    refine hV_perm (ws' := mW G q (fr (fs E 6 0 (nI (r - 1))) 0 (mvN 250 ((fs E 6 0 (nI (r - 1))) 2) ((r - 1) * 250) ((fs E 6 0 (nI (r - 1))) 0) 0))) (pk2 (mW G q (fr (fs E 6 0 (nI (r - 1))) 0 (mvN 250 ((fs E 6 0 (nI (r - 1))) 2) ((r - 1) * 250) ((fs E 6 0 (nI (r - 1))) 0) 0))) 3 1 (Nat.le_of_ble_eq_true rfl) (Nat.le_of_ble_eq_true rfl)).symm ?_
    refine haload_n X dX8_undo_40 rfl ?_
    refine hget1 X (T := TX8) (N := 14) iX8 0 rfl rfl 3 (by decide) (by decide +kernel) rfl dX8_undo_41 ?_
    have r3 : ((fr (fs E 6 0 (nI (r - 1))) 0 (mvN 250 ((fs E 6 0 (nI (r - 1))) 2) ((r - 1) * 250) ((fs E 6 0 (nI (r - 1))) 0) 0)) 6 0 : Int32) = nI (r - 1) := by rw [fr_ne _ _ (by decide), fs_same]
    refine hV_st (st' := [.int (nI (r - 1))]) (congrArg (fun z => Value.int z :: []) r3) ?_
    refine hiret X dX8_undo_44 ⟨congrArg (fun z => some (Value.int z)) (?_ : (nI (r - 1)) = undR r), ?_⟩
    · simp [undR, hr0]
    refine congrArg (mW G q) (?_ : (fr (fs E 6 0 (nI (r - 1))) 0 (mvN 250 ((fs E 6 0 (nI (r - 1))) 2) ((r - 1) * 250) ((fs E 6 0 (nI (r - 1))) 0) 0) : hF) = undE E r)
    first | (simp [undE, hr0]; done) | (simp only [undE, if_neg hr0]; rw [fs_ne _ _ _ (by decide), fs_ne _ _ _ (by decide)])
  · have hr0 : r = 0 := (nI_eq (a := r) (b := 0) (by omega) (by decide)).mp c1
    refine hbipush (v := (-5)) X dX8_undo_7 rfl ?_
    refine hiret X dX8_undo_9 ⟨congrArg (fun z => some (Value.int z)) (?_ : (-5) = undR r), ?_⟩
    · simp [undR, hr0]
    refine congrArg (mW G q) (?_ : (E : hF) = undE E r)
    first | (simp [undE, hr0]; done) | (simp only [undE, if_neg hr0]; rw [fs_ne _ _ _ (by decide), fs_ne _ _ _ (by decide)])

set_option maxHeartbeats 4000000 in
set_option maxRecDepth 100000 in
theorem kX8_save (l : Launch) (G : hG) (q : Nat → Nat) (E : hF) (n c : Nat) (h : mOk n c E) (x : Int32) : hM l G yX8_save wsX8_save ({ frames := 2, cells := 0, slots := 0, locals := 64 }) (mW G q E) [.ref (q 0), .int x] (hR (some (.int (savR n x))) (mW G q (savE E x))) := by
  refine hM_of (cc := cX8_save) (maxL := 2) (ret := (some .int)) (by decide) rfl (Nat.le_of_ble_eq_true rfl) ?_
  intro pp ee ss mm aa bb me cd X hin
  have iX8 : ∀ w ∈ wsX80, w ∈ wsX8_save := by decide +kernel
  refine hiload_n X dX8_save_0 rfl ?_
  refine hiconst (v := 0) X dX8_save_1 rfl ?_
  refine hiconst (v := 1) X dX8_save_2 rfl ?_
  refine hcallSr (wsC := []) (wsR := mW G q E) (As := [.int x, .int 0, .int 1]) (rest := []) (st' := [.int (bI (wI x 0 1))]) (w := []) X (kX8_within l G x 0 1) gX8_save_X8_within rfl (n := 3) (by decide +kernel) (by decide) rfl rfl (Nat.le_of_ble_eq_true rfl) dX8_save_3 rfl rfl (by decide) rfl ?_
  refine hV_to (ws' := mW G q E) rfl rfl rfl ?_
  refine hif_neB (tgt := 12) X dX8_save_6 (by decide) (fun c1 => ?_) (fun c1 => ?_)
  · obtain ⟨j, hj1, hj, hx⟩ := wI_lit (a := 0) (b := 1) (by decide) (by decide) c1
    refine haload_n X dX8_save_12 rfl ?_
    refine hget1 X (T := TX8) (N := 14) iX8 0 rfl rfl 0 (by decide) (by decide +kernel) rfl dX8_save_13 ?_
    refine hiconst (v := 0) X dX8_save_16 rfl ?_
    refine haload_n X dX8_save_17 rfl ?_
    refine hget1 X (T := TX8) (N := 14) iX8 0 rfl rfl 4 (by decide) (by decide +kernel) rfl dX8_save_18 ?_
    refine hsipush (v := 250) X dX8_save_21 rfl ?_
    refine hiload_n X dX8_save_24 rfl ?_
    refine hV_st (st' := [.int (nI j), .int 250, .ref (q 4), .int 0, .ref (q 1)]) (congrArg (fun z => ([Value.int z, .int 250, .ref (q 4), .int 0, .ref (q 1)] : List Value)) (hx)) ?_
    refine himul X dX8_save_25 ?_
    refine hV_st (st' := [.int (nI (250 * j)), .ref (q 4), .int 0, .ref (q 1)]) (congrArg (fun z => ([Value.int z, .ref (q 4), .int 0, .ref (q 1)] : List Value)) ((nmul rfl rfl))) ?_
    refine hV_perm (ws' := [(q 1, .inl (G.2.1 0, 250, .inl (E 0))), (q 4, .inl (G.2.1 0, 500, .inl (E 3)))] ++ ((mW G q E).eraseIdx 1).eraseIdx 3) (pk2 (mW G q E) 1 3 (Nat.le_of_ble_eq_true rfl) (Nat.le_of_ble_eq_true rfl)) ?_
    refine hcallSr (wsC := [(q 1, .inl (G.2.1 0, 250, .inl (E 0))), (q 4, .inl (G.2.1 0, 500, .inl (E 3)))]) (wsR := ((mW G q E).eraseIdx 1).eraseIdx 3) (As := [.ref (q 1), .int (nI 0), .ref (q 4), .int (nI (250 * j))]) (rest := []) (st' := []) (w := [(q 1, .inl (G.2.1 0, 250, .inl (E 0))), (q 4, .inl (G.2.1 0, 500, .inl (mvN 250 (E 0) 0 (E 3) (250 * j))))]) X (kX8_moves l G (q 1) (q 4) 250 500 0 (250 * j) (E 0) (E 3) (by omega) (by omega) (by decide) (by decide)) gX8_save_X8_moves rfl (n := 4) (by decide +kernel) (by decide) rfl rfl (Nat.le_of_ble_eq_true rfl) dX8_save_26 rfl rfl (by decide) rfl ?_
    refine hV_perm (ws' := mW G q (fr E 3 (mvN 250 (E 0) 0 (E 3) (250 * j)))) (pk2 (mW G q (fr E 3 (mvN 250 (E 0) 0 (E 3) (250 * j)))) 1 3 (Nat.le_of_ble_eq_true rfl) (Nat.le_of_ble_eq_true rfl)).symm ?_
    refine haload_n X dX8_save_29 rfl ?_
    refine hget1 X (T := TX8) (N := 14) iX8 0 rfl rfl 5 (by decide) (by decide +kernel) rfl dX8_save_30 ?_
    refine hiload_n X dX8_save_33 rfl ?_
    refine hiconst (v := 1) X dX8_save_34 rfl ?_
    refine hV_st (st' := [.int 1, .int (nI j), .ref (q 5)]) (congrArg (fun z => ([.int 1, Value.int z, .ref (q 5)] : List Value)) (hx)) ?_
    refine hiast (n := 2) (f := (fr E 3 (mvN 250 (E 0) 0 (E 3) (250 * j))) 4) X 5 rfl j rfl (by omega) (by decide) dX8_save_35 (ws' := mW G q (fs (fr E 3 (mvN 250 (E 0) 0 (E 3) (250 * j))) 4 j 1)) (mWs4 G q _ _ _) ?_
    refine haload_n X dX8_save_36 rfl ?_
    refine hget1 X (T := TX8) (N := 14) iX8 0 rfl rfl 0 (by decide) (by decide +kernel) rfl dX8_save_37 ?_
    refine hiconst (v := 4) X dX8_save_40 rfl ?_
    refine hiald (n := 250) (f := (fs (fr E 3 (mvN 250 (E 0) 0 (E 3) (250 * j))) 4 j 1) 0) X 1 rfl 4 rfl (by omega) (by decide) dX8_save_41 ?_
    have r2 : ((fs (fr E 3 (mvN 250 (E 0) 0 (E 3) (250 * j))) 4 j 1) 0 4 : Int32) = E 0 4 := by rw [fs_ne _ _ _ (by decide), fr_ne _ _ (by decide)]
    refine hV_st (st' := [.int (E 0 4)]) (congrArg (fun z => Value.int z :: []) r2) ?_
    refine hV_st (st' := [.int (nI n)]) (congrArg (fun z => Value.int z :: []) (h.h4)) ?_
    refine hiret X dX8_save_42 ⟨congrArg (fun z => some (Value.int z)) (?_ : (nI n) = savR n x), ?_⟩
    · first | (simp [savR, c1, if_pos c1]; done) | (subst hx; simp only [savR, if_pos c1]; done)
    refine congrArg (mW G q) (?_ : (fs (fr E 3 (mvN 250 (E 0) 0 (E 3) (250 * j))) 4 j 1 : hF) = savE E x)
    first | (simp [savE, c1, if_pos c1]; done) | (subst hx; simp only [savE, if_pos c1, nI_clamp (show j < 2 ^ 31 by omega)]; done)
  · refine hbipush (v := (-2)) X dX8_save_9 rfl ?_
    refine hiret X dX8_save_11 ⟨congrArg (fun z => some (Value.int z)) (?_ : (-2) = savR n x), ?_⟩
    · first | (simp [savR, c1, if_neg c1]; done) | (subst hx; simp only [savR, if_pos c1]; done)
    refine congrArg (mW G q) (?_ : (E : hF) = savE E x)
    first | (simp [savE, c1, if_neg c1]; done) | (subst hx; simp only [savE, if_pos c1, nI_clamp (show j < 2 ^ 31 by omega)]; done)

set_option maxHeartbeats 4000000 in
set_option maxRecDepth 100000 in
theorem kX8_restore (l : Launch) (G : hG) (q : Nat → Nat) (E : hF) (r : Nat) (hr : r ≤ 6) (h60 : E 6 0 = nI r) (x : Int32) : hM l G yX8_restore wsX8_restore ({ frames := 3, cells := 0, slots := 0, locals := 85 }) (mW G q E) [.ref (q 0), .int x] (hR (some (.int (resR E r x))) (mW G q (resE E r x))) := by
  refine hM_of (cc := cX8_restore) (maxL := 2) (ret := (some .int)) (by decide) rfl (Nat.le_of_ble_eq_true rfl) ?_
  intro pp ee ss mm aa bb me cd X hin
  have iX8 : ∀ w ∈ wsX80, w ∈ wsX8_restore := by decide +kernel
  refine hiload_n X dX8_restore_0 rfl ?_
  refine hiconst (v := 0) X dX8_restore_1 rfl ?_
  refine hiconst (v := 1) X dX8_restore_2 rfl ?_
  refine hcallSr (wsC := []) (wsR := mW G q E) (As := [.int x, .int 0, .int 1]) (rest := []) (st' := [.int (bI (wI x 0 1))]) (w := []) X (kX8_within l G x 0 1) gX8_restore_X8_within rfl (n := 3) (by decide +kernel) (by decide) rfl rfl (Nat.le_of_ble_eq_true rfl) dX8_restore_3 rfl rfl (by decide) rfl ?_
  refine hV_to (ws' := mW G q E) rfl rfl rfl ?_
  refine hif_neB (tgt := 12) X dX8_restore_6 (by decide) (fun c1 => ?_) (fun c1 => ?_)
  · obtain ⟨j, hj1, hj, hx⟩ := wI_lit (a := 0) (b := 1) (by decide) (by decide) c1
    refine haload_n X dX8_restore_12 rfl ?_
    refine hget1 X (T := TX8) (N := 14) iX8 0 rfl rfl 5 (by decide) (by decide +kernel) rfl dX8_restore_13 ?_
    refine hiload_n X dX8_restore_16 rfl ?_
    refine hV_st (st' := [.int (nI j), .ref (q 5)]) (congrArg (fun z => ([Value.int z, .ref (q 5)] : List Value)) (hx)) ?_
    refine hiald (n := 2) (f := E 4) X 5 rfl j rfl (by omega) (by decide) dX8_restore_17 ?_
    refine hif_ne (tgt := 24) X dX8_restore_18 (by decide) (fun c2 => ?_) (fun c2 => ?_)
    · refine haload_n X dX8_restore_24 rfl ?_
      refine hcallV0 (C := RX8) (T := TX8) (N := 14) (As := []) (rest := []) (st' := []) (w := mW G q (recE E r)) X (q0 := 0) (kX8_record l G q E r (hr) (h60)) gX8_restore_X8_record rfl (n := 0) (by decide +kernel) (by decide) rfl rfl rfl rfl (Nat.le_of_ble_eq_true rfl) dX8_restore_25 rfl rfl (by decide) rfl ?_
      refine haload_n X dX8_restore_28 rfl ?_
      refine hget1 X (T := TX8) (N := 14) iX8 0 rfl rfl 4 (by decide) (by decide +kernel) rfl dX8_restore_29 ?_
      refine hsipush (v := 250) X dX8_restore_32 rfl ?_
      refine hiload_n X dX8_restore_35 rfl ?_
      refine hV_st (st' := [.int (nI j), .int 250, .ref (q 4)]) (congrArg (fun z => ([Value.int z, .int 250, .ref (q 4)] : List Value)) (hx)) ?_
      refine himul X dX8_restore_36 ?_
      refine haload_n X dX8_restore_37 rfl ?_
      refine hget1 X (T := TX8) (N := 14) iX8 0 rfl rfl 0 (by decide) (by decide +kernel) rfl dX8_restore_38 ?_
      refine hiconst (v := 0) X dX8_restore_41 rfl ?_
      refine hV_st (st' := [.int 0, .ref (q 1), .int (nI (250 * j)), .ref (q 4)]) (congrArg (fun z => ([.int 0, .ref (q 1), Value.int z, .ref (q 4)] : List Value)) ((nmul rfl rfl))) ?_
      refine hV_perm (ws' := [(q 4, .inl (G.2.1 0, 500, .inl ((recE E r) 3))), (q 1, .inl (G.2.1 0, 250, .inl ((recE E r) 0)))] ++ ((mW G q (recE E r)).eraseIdx 4).eraseIdx 1) (pk2 (mW G q (recE E r)) 4 1 (Nat.le_of_ble_eq_true rfl) (Nat.le_of_ble_eq_true rfl)) ?_
      refine hcallSr (wsC := [(q 4, .inl (G.2.1 0, 500, .inl ((recE E r) 3))), (q 1, .inl (G.2.1 0, 250, .inl ((recE E r) 0)))]) (wsR := ((mW G q (recE E r)).eraseIdx 4).eraseIdx 1) (As := [.ref (q 4), .int (nI (250 * j)), .ref (q 1), .int (nI 0)]) (rest := []) (st' := []) (w := [(q 4, .inl (G.2.1 0, 500, .inl ((recE E r) 3))), (q 1, .inl (G.2.1 0, 250, .inl (mvN 250 ((recE E r) 3) (250 * j) ((recE E r) 0) 0)))]) X (kX8_moves l G (q 4) (q 1) 500 250 (250 * j) 0 ((recE E r) 3) ((recE E r) 0) (by omega) (by omega) (by decide) (by decide)) gX8_restore_X8_moves rfl (n := 4) (by decide +kernel) (by decide) rfl rfl (Nat.le_of_ble_eq_true rfl) dX8_restore_42 rfl rfl (by decide) rfl ?_
      refine hV_perm (ws' := mW G q (fr (recE E r) 0 (mvN 250 ((recE E r) 3) (250 * j) ((recE E r) 0) 0))) (pk2 (mW G q (fr (recE E r) 0 (mvN 250 ((recE E r) 3) (250 * j) ((recE E r) 0) 0))) 4 1 (Nat.le_of_ble_eq_true rfl) (Nat.le_of_ble_eq_true rfl)).symm ?_
      refine haload_n X dX8_restore_45 rfl ?_
      refine hget1 X (T := TX8) (N := 14) iX8 0 rfl rfl 0 (by decide) (by decide +kernel) rfl dX8_restore_46 ?_
      refine hiconst (v := 4) X dX8_restore_49 rfl ?_
      refine hiald (n := 250) (f := (fr (recE E r) 0 (mvN 250 ((recE E r) 3) (250 * j) ((recE E r) 0) 0)) 0) X 1 rfl 4 rfl (by omega) (by decide) dX8_restore_50 ?_
      have r3 : ((fr (recE E r) 0 (mvN 250 ((recE E r) 3) (250 * j) ((recE E r) 0) 0)) 0 4 : Int32) = (mvN 250 ((recE E r) 3) (250 * j) ((recE E r) 0) 0) 4 := by rw [fr_same]
      refine hV_st (st' := [.int ((mvN 250 ((recE E r) 3) (250 * j) ((recE E r) 0) 0) 4)]) (congrArg (fun z => Value.int z :: []) r3) ?_
      refine hiret X dX8_restore_51 ⟨congrArg (fun z => some (Value.int z)) (?_ : ((mvN 250 ((recE E r) 3) (250 * j) ((recE E r) 0) 0) 4) = resR E r x), ?_⟩
      · first | (simp [resR, c1, c2, if_pos c1]; done) | (subst hx; simp [resR, nI_clamp (show j < 2 ^ 31 by omega), c1, c2, if_pos c1]; done) | (subst hx; simp only [resR, if_pos c1, nI_clamp (show j < 2 ^ 31 by omega)]; rw [if_pos c2]; done) | (subst hx; simp only [resR, if_pos c1, nI_clamp (show j < 2 ^ 31 by omega)]; rw [if_neg c2]; done)
      refine congrArg (mW G q) (?_ : (fr (recE E r) 0 (mvN 250 ((recE E r) 3) (250 * j) ((recE E r) 0) 0) : hF) = resE E r x)
      first | (simp [resE, c1, c2, if_pos c1]; done) | (subst hx; simp [resE, nI_clamp (show j < 2 ^ 31 by omega), c1, c2, if_pos c1]; done) | (subst hx; simp only [resE, if_pos c1, nI_clamp (show j < 2 ^ 31 by omega)]; rw [if_pos c2]; done) | (subst hx; simp only [resE, if_pos c1, nI_clamp (show j < 2 ^ 31 by omega)]; rw [if_neg c2]; done)
    · refine hbipush (v := (-5)) X dX8_restore_21 rfl ?_
      refine hiret X dX8_restore_23 ⟨congrArg (fun z => some (Value.int z)) (?_ : (-5) = resR E r x), ?_⟩
      · first | (simp [resR, c1, c2, if_pos c1]; done) | (subst hx; simp [resR, nI_clamp (show j < 2 ^ 31 by omega), c1, c2, if_pos c1]; done) | (subst hx; simp only [resR, if_pos c1, nI_clamp (show j < 2 ^ 31 by omega)]; rw [if_pos c2]; done) | (subst hx; simp only [resR, if_pos c1, nI_clamp (show j < 2 ^ 31 by omega)]; rw [if_neg c2]; done)
      refine congrArg (mW G q) (?_ : (E : hF) = resE E r x)
      first | (simp [resE, c1, c2, if_pos c1]; done) | (subst hx; simp [resE, nI_clamp (show j < 2 ^ 31 by omega), c1, c2, if_pos c1]; done) | (subst hx; simp only [resE, if_pos c1, nI_clamp (show j < 2 ^ 31 by omega)]; rw [if_pos c2]; done) | (subst hx; simp only [resE, if_pos c1, nI_clamp (show j < 2 ^ 31 by omega)]; rw [if_neg c2]; done)
  · refine hbipush (v := (-2)) X dX8_restore_9 rfl ?_
    refine hiret X dX8_restore_11 ⟨congrArg (fun z => some (Value.int z)) (?_ : (-2) = resR E r x), ?_⟩
    · first | (simp [resR, c1, if_neg c1]; done) | (subst hx; simp [resR, nI_clamp (show j < 2 ^ 31 by omega), c1, if_neg c1]; done) | (subst hx; simp only [resR, if_pos c1, nI_clamp (show j < 2 ^ 31 by omega)]; rw [if_pos c2]; done) | (subst hx; simp only [resR, if_pos c1, nI_clamp (show j < 2 ^ 31 by omega)]; rw [if_neg c2]; done)
    refine congrArg (mW G q) (?_ : (E : hF) = resE E r x)
    first | (simp [resE, c1, if_neg c1]; done) | (subst hx; simp [resE, nI_clamp (show j < 2 ^ 31 by omega), c1, if_neg c1]; done) | (subst hx; simp only [resE, if_pos c1, nI_clamp (show j < 2 ^ 31 by omega)]; rw [if_pos c2]; done) | (subst hx; simp only [resE, if_pos c1, nI_clamp (show j < 2 ^ 31 by omega)]; rw [if_neg c2]; done)

