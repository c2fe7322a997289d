set_option maxHeartbeats 4000000 in
set_option maxRecDepth 100000 in
theorem kX4_wellFormed (l : Launch) (G : hG) (x : Int64) : hM l G yX4_wellFormed wsX4_wellFormed ({ frames := 2, cells := 0, slots := 0, locals := 62 }) ([]) [.long x] (hR (some (.int (nI (wfG 8 0 x)))) ([])) := by
  refine hM_of (cc := cX4_wellFormed) (maxL := 7) (ret := (some .int)) (by decide) rfl (Nat.le_of_ble_eq_true rfl) ?_
  intro pp ee ss mm aa bb me cd X hin
  have L1 : ∀ (d : Nat) (k : Nat) (r : Int64), (k ≤ 8) → (wfG (8 - k) k r = wfG 8 0 x) → (8 - k) < d → hV pp l ee ({ frames := 2, cells := 0, slots := 0, locals := 62 }) ss mm aa bb me cd G (va_A ([]) ss.heap.size) 7 0 0 (MQ bb (hQc G ([]) ss.heap.size (hR (some (.int (nI (wfG 8 0 x)))) ([]))) aa ss 0 0 (va_A ([]) ss.heap.size)) ([]) 7 [(5, .int (nI k)), (2, .int (nI k)), (3, .long r)] [] := by
    intro d
    induction d with
    | zero =>
      intro k r hk hE hd0
      exact absurd hd0 (Nat.not_lt_zero _)
    | succ d ih =>
      intro k r hk hE hd0
      refine hiload X dX4_wellFormed_7 rfl ?_
      refine hbipush (v := 8) X dX4_wellFormed_9 rfl ?_
      refine hicmp_ge (tgt := 56) X dX4_wellFormed_11 (by decide) (fun c1 => ?_) (fun c1 => ?_)
      · have ek : k = 8 := i_ge (n := 8) hk (by decide) c1
        refine hiload_n X dX4_wellFormed_56 rfl ?_
        refine hiret X dX4_wellFormed_57 ⟨congrArg (fun z => some (Value.int z)) (?_ : (nI k) = nI (wfG 8 0 x)), ?_⟩
        · rw [← hE, ek]; rfl
        rfl
      · have hk1 : k < 8 := i_lt (n := 8) hk (by decide) c1
        refine hlload_n X dX4_wellFormed_14 rfl ?_
        refine hlconst (v := 0) X dX4_wellFormed_15 rfl ?_
        refine hlcmp X dX4_wellFormed_16 ?_
        refine hif_eq (tgt := 56) X dX4_wellFormed_17 (by decide) (fun c2 => ?_) (fun c2 => ?_)
        · refine hiload_n X dX4_wellFormed_56 rfl ?_
          refine hiret X dX4_wellFormed_57 ⟨congrArg (fun z => some (Value.int z)) (?_ : (nI k) = nI (wfG 8 0 x)), ?_⟩
          · rw [← hE, wfG_end c2 hk1]
          rfl
        · refine hlload_n X dX4_wellFormed_20 rfl ?_
          refine hldc2 (v := 255) X (by decide +kernel) dX4_wellFormed_21 ?_
          refine hland X dX4_wellFormed_24 ?_
          refine hl2i (v := (r &&& 255).toInt32) X dX4_wellFormed_25 rfl ?_
          refine histore (lv' := [(6, .int ((r &&& 255).toInt32)), (5, .int (nI k)), (2, .int (nI k)), (3, .long r)]) X dX4_wellFormed_26 (by decide) rfl ?_
          refine hiload X dX4_wellFormed_28 rfl ?_
          refine hbipush (v := 33) X dX4_wellFormed_30 rfl ?_
          refine hbipush (v := 126) X dX4_wellFormed_32 rfl ?_
          refine hcallSNr (wsC := []) (wsR := []) (As := [.int ((r &&& 255).toInt32), .int 33, .int 126]) (rest := []) (st' := [.int (bI (wI ((r &&& 255).toInt32) 33 126))]) (w := []) X (kX7_isWithin l G ((r &&& 255).toInt32) 33 126) gX4_wellFormed_X7_isWithin_n25 rfl (n := 3) (by decide +kernel) (by decide +kernel) (by decide +kernel) (by decide +kernel) (by decide) rfl rfl (Nat.le_of_ble_eq_true rfl) dX4_wellFormed_34 rfl rfl (by decide) rfl ?_
          refine hif_neB (tgt := 42) X dX4_wellFormed_37 (by decide) (fun c3 => ?_) (fun c3 => ?_)
          · refine hiinc (v := nI (k + 1)) (lv' := [(2, .int (nI (k + 1))), (6, .int ((r &&& 255).toInt32)), (5, .int (nI k)), (3, .long r)]) X dX4_wellFormed_42 rfl (nI_1 _) (by decide) rfl ?_
            refine hlload_n X dX4_wellFormed_45 rfl ?_
            refine hbipush (v := 8) X dX4_wellFormed_46 rfl ?_
            refine hlushr (v := (r.toUInt64 >>> ((8 : Int32).toInt64.toUInt64 &&& Int64.toUInt64 63)).toInt64) X dX4_wellFormed_48 rfl ?_
            refine hlstore_n (lv' := [(3, .long ((r.toUInt64 >>> ((8 : Int32).toInt64.toUInt64 &&& Int64.toUInt64 63)).toInt64)), (2, .int (nI (k + 1))), (6, .int ((r &&& 255).toInt32)), (5, .int (nI k))]) X dX4_wellFormed_49 (by decide) rfl ?_
            refine hiinc (v := nI (k + 1)) (lv' := [(5, .int (nI (k + 1))), (3, .long ((r.toUInt64 >>> ((8 : Int32).toInt64.toUInt64 &&& Int64.toUInt64 63)).toInt64)), (2, .int (nI (k + 1))), (6, .int ((r &&& 255).toInt32))]) X dX4_wellFormed_50 rfl (nI_1 _) (by decide) rfl ?_
            refine hgoto (tgt := 7) X dX4_wellFormed_53 (by decide) ?_
            refine hV_lv (lv' := [(5, .int (nI (k + 1))), (2, .int (nI (k + 1))), (3, .long ((r.toUInt64 >>> ((8 : Int32).toInt64.toUInt64 &&& Int64.toUInt64 63)).toInt64))]) [0, 2, 1] rfl ?_
            exact hV_to (ws' := []) (lv' := [(5, .int (nI (k + 1))), (2, .int (nI (k + 1))), (3, .long ((r.toUInt64 >>> ((8 : Int32).toInt64.toUInt64 &&& Int64.toUInt64 63)).toInt64))]) (st' := []) rfl rfl rfl (ih (k + 1) ((r.toUInt64 >>> ((8 : Int32).toInt64.toUInt64 &&& Int64.toUInt64 63)).toInt64) (by omega) (by rw [← hE, wfG_step c2 hk1, if_pos c3]; rfl) (by omega))
          · refine hiconst (v := 0) X dX4_wellFormed_40 rfl ?_
            refine hiret X dX4_wellFormed_41 ⟨congrArg (fun z => some (Value.int z)) (?_ : 0 = nI (wfG 8 0 x)), ?_⟩
            · rw [← hE, wfG_step c2 hk1, if_neg c3]; rfl
            rfl
  refine hiconst (v := 0) X dX4_wellFormed_0 rfl ?_
  refine histore_n (lv' := [(2, .int 0), (0, .long x)]) X dX4_wellFormed_1 (by decide) rfl ?_
  refine hlload_n X dX4_wellFormed_2 rfl ?_
  refine hlstore_n (lv' := [(3, .long x), (2, .int 0), (0, .long x)]) X dX4_wellFormed_3 (by decide) rfl ?_
  refine hiconst (v := 0) X dX4_wellFormed_4 rfl ?_
  refine histore (lv' := [(5, .int 0), (3, .long x), (2, .int 0), (0, .long x)]) X dX4_wellFormed_5 (by decide) rfl ?_
  refine hV_lv (lv' := [(5, .int 0), (2, .int 0), (3, .long x)]) [0, 2, 1] rfl ?_
  exact hV_to (ws' := []) (lv' := [(5, .int 0), (2, .int 0), (3, .long x)]) (st' := []) rfl rfl rfl (L1 _ 0 x (Nat.zero_le _) rfl (Nat.lt_succ_self _))

set_option maxHeartbeats 4000000 in
set_option maxRecDepth 100000 in
theorem kX4_append (l : Launch) (G : hG) (r : Nat → Nat) (T : Nat → Int32) (pl : Nat) (x : Int64) (hpl : pl ≤ 80) : hM l G yX4_append wsX4_append ({ frames := 3, cells := 0, slots := 0, locals := 88 }) (pdW G r pl T) [.ref (r 1), .long x] (hR (some (.int (apdR pl x))) (pdW G r (apdL pl x) (apdT T pl x))) := by
  refine hM_of (cc := cX4_append) (maxL := 5) (ret := (some .int)) (by decide) rfl (Nat.le_of_ble_eq_true rfl) ?_
  intro pp ee ss mm aa bb me cd X hin
  have iX4 : ∀ w ∈ wsX40, w ∈ wsX4_append := by decide +kernel
  have hm8 := wfG_le 8 0 x
  have L1 : ∀ (d : Nat) (m i : Nat), (m = wfG 8 0 x) → (m ≤ 0 + 8) → (¬ m = 0) → (pl + m ≤ 80) → (i ≤ m) → (m - i) < d → hV pp l ee ({ frames := 3, cells := 0, slots := 0, locals := 88 }) ss mm aa bb me cd G (va_A (pdW G r pl T) ss.heap.size) 5 0 0 (MQ bb (hQc G (pdW G r pl T) ss.heap.size (hR (some (.int (apdR pl x))) (pdW G r (apdL pl x) (apdT T pl x)))) aa ss 0 0 (va_A (pdW G r pl T) ss.heap.size)) (pdW G r (pl + i) (ptT T pl x m i)) 34 [(4, .int (nI (m - i) - 1)), (0, .ref (r 1)), (1, .long x)] [] := by
    intro d
    induction d with
    | zero =>
      intro m i em h8 hm q8 hi hd0
      exact absurd hd0 (Nat.not_lt_zero _)
    | succ d ih =>
      intro m i em h8 hm q8 hi hd0
      refine hiload X dX4_append_34 rfl ?_
      refine hif_lt (tgt := 77) X dX4_append_36 (by decide) (fun c1 => ?_) (fun c1 => ?_)
      · have ek : i = m := by
          rcases Nat.lt_or_ge i m with q | q
          · exact absurd c1 (by rw [pt_i q]; exact nI_pos (by omega))
          · omega
        refine haload_n X dX4_append_77 rfl ?_
        refine hget1 X (T := TX4) (N := 2) iX4 0 rfl rfl 1 (by decide) (by decide +kernel) rfl dX4_append_78 ?_
        refine hiret X dX4_append_81 ⟨congrArg (fun z => some (Value.int z)) (?_ : (nI (pl + i)) = apdR pl x), ?_⟩
        · first | (simp [apdR, hm]; done) | (simp [apdR, hm, q8]; done) | (simp [apdR, ← em, hm, q8, ek]; done)
        first | (simp [apdL, apdT, hm]; done) | (simp [apdL, apdT, hm, q8]; done) | (simp [apdL, apdT, ← em, hm, q8, ek]; done)
      · have hik : i < m := by
          rcases Nat.lt_or_ge i m with q | q
          · exact q
          · exact absurd (by rw [show m - i = 0 by omega]; decide) c1
        refine haload_n X dX4_append_39 rfl ?_
        refine hget1 X (T := TX4) (N := 2) iX4 0 rfl rfl 0 (by decide) (by decide +kernel) rfl dX4_append_40 ?_
        refine haload_n X dX4_append_43 rfl ?_
        refine hget1 X (T := TX4) (N := 2) iX4 0 rfl rfl 1 (by decide) (by decide +kernel) rfl dX4_append_44 ?_
        refine hlload_n X dX4_append_47 rfl ?_
        refine hbipush (v := 8) X dX4_append_48 rfl ?_
        refine hiload X dX4_append_50 rfl ?_
        refine hV_st (st' := [.int (nI (m - 1 - i)), .int 8, .long x, .int (nI (pl + i)), .ref (r 2)]) (congrArg (fun z => ([Value.int z, .int 8, .long x, .int (nI (pl + i)), .ref (r 2)] : List Value)) (pt_i hik)) ?_
        refine himul X dX4_append_52 ?_
        refine hlushr (v := (x.toUInt64 >>> ((8 * (nI (m - 1 - i))).toInt64.toUInt64 &&& Int64.toUInt64 63)).toInt64) X dX4_append_53 rfl ?_
        refine hldc2 (v := 255) X (by decide +kernel) dX4_append_54 ?_
        refine hland X dX4_append_57 ?_
        refine hl2i (v := (((x.toUInt64 >>> ((8 * (nI (m - 1 - i))).toInt64.toUInt64 &&& Int64.toUInt64 63)).toInt64) &&& 255).toInt32) X dX4_append_58 rfl ?_
        refine hV_st (st' := [.int (byt x (m - 1 - i)), .int (nI (pl + i)), .ref (r 2)]) (congrArg (fun z => ([Value.int z, .int (nI (pl + i)), .ref (r 2)] : List Value)) (rfl)) ?_
        refine hi2c (v := ((byt x (m - 1 - i)).toUInt32 % 65536).toInt32) X dX4_append_59 rfl ?_
        refine hcast (n := 80) (f := ptT T pl x m i) X 1 rfl (pl + i) rfl (by omega) (by decide) dX4_append_60 (ws' := pdW G r (pl + i) (upd (ptT T pl x m i) (pl + i) (vp_nar .char (((byt x (m - 1 - i)).toUInt32 % 65536).toInt32)))) (pdWs G r _ _ _ _) ?_
        refine haload_n X dX4_append_61 rfl ?_
        refine hdup X dX4_append_62 rfl ?_
        refine hget1 X (T := TX4) (N := 2) iX4 0 rfl rfl 1 (by decide) (by decide +kernel) rfl dX4_append_63 ?_
        refine hiconst (v := 1) X dX4_append_66 rfl ?_
        refine hiadd X dX4_append_67 ?_
        refine hV_st (st' := [.int (nI (pl + i + 1)), .ref (r 1)]) (congrArg (fun v9 => Value.int v9 :: [.ref (r 1)]) (nadd rfl rfl)) ?_
        refine hput1 X (T := TX4) (N := 2) iX4 tyX4 tyX4_ok nmX4 0 rfl rfl 1 (by decide) (by decide +kernel) (by decide +kernel) rfl rfl (Nat.le_of_ble_eq_true rfl) dX4_append_68 (ws' := pdW G r (pl + i + 1) (upd (ptT T pl x m i) (pl + i) (vp_nar .char (((byt x (m - 1 - i)).toUInt32 % 65536).toInt32)))) (pdWf G r _ _ _) ?_
        refine hiinc (v := nI (m - i) - 1 + (-1)) (lv' := [(4, .int (nI (m - i) - 1 + (-1))), (0, .ref (r 1)), (1, .long x)]) X dX4_append_71 rfl rfl (by decide) rfl ?_
        refine hgoto (tgt := 34) X dX4_append_74 (by decide) ?_
        have e2 : (nI (m - i) - 1 + (-1) : Int32) = nI (m - (i + 1)) - 1 := by
          rw [pt_i hik, show m - (i + 1) = m - 1 - i by omega, Int32.sub_eq_add_neg]
        exact hV_to (ws' := pdW G r (pl + (i + 1)) (ptT T pl x m (i + 1))) (lv' := [(4, .int (nI (m - (i + 1)) - 1)), (0, .ref (r 1)), (1, .long x)]) (st' := []) (by rfl) (congrArg (fun v9 => ([(4, .int v9), (0, .ref (r 1)), (1, .long x)] : List (Nat × Value))) e2) rfl (ih m (i + 1) em h8 hm q8 (by omega) (by omega))
  refine hlload_n X dX4_append_0 rfl ?_
  refine hcallSr (wsC := []) (wsR := pdW G r pl T) (As := [.long x]) (rest := []) (st' := [.int (nI (wfG 8 0 x))]) (w := []) X (kX4_wellFormed l G x) gX4_append_X4_wellFormed rfl (n := 1) (by decide +kernel) (by decide) rfl rfl (Nat.le_of_ble_eq_true rfl) dX4_append_1 rfl rfl (by decide) rfl ?_
  refine hV_to (ws' := pdW G r pl T) rfl rfl rfl ?_
  refine histore_n (lv' := [(3, .int (nI (wfG 8 0 x))), (0, .ref (r 1)), (1, .long x)]) X dX4_append_4 (by decide) rfl ?_
  refine hiload_n X dX4_append_5 rfl ?_
  refine hif_ne (tgt := 12) X dX4_append_6 (by decide) (fun c4 => ?_) (fun c4 => ?_)
  · have hm : ¬ wfG 8 0 x = 0 := fun z9 => c4 (by rw [z9]; rfl)
    refine haload_n X dX4_append_12 rfl ?_
    refine hget1 X (T := TX4) (N := 2) iX4 0 rfl rfl 1 (by decide) (by decide +kernel) rfl dX4_append_13 ?_
    refine hiload_n X dX4_append_16 rfl ?_
    refine hiadd X dX4_append_17 ?_
    refine haload_n X dX4_append_18 rfl ?_
    refine hget1 X (T := TX4) (N := 2) iX4 0 rfl rfl 0 (by decide) (by decide +kernel) rfl dX4_append_19 ?_
    refine hialen X 1 1 rfl rfl (v := 80) rfl dX4_append_22 ?_
    refine hicmp_le (tgt := 29) X dX4_append_23 (by decide) (fun c5 => ?_) (fun c5 => ?_)
    · have q8 : pl + wfG 8 0 x ≤ 80 := (nI_leI (a := pl + wfG 8 0 x) (b := 80) (by omega) (by decide)).mp (by rw [← nI_add]; exact c5)
      refine hiload_n X dX4_append_29 rfl ?_
      refine hiconst (v := 1) X dX4_append_30 rfl ?_
      refine hisub X dX4_append_31 ?_
      refine histore (lv' := [(4, .int ((nI (wfG 8 0 x)) - 1)), (3, .int (nI (wfG 8 0 x))), (0, .ref (r 1)), (1, .long x)]) X dX4_append_32 (by decide) rfl ?_
      refine hV_lv (lv' := [(4, .int ((nI (wfG 8 0 x)) - 1)), (0, .ref (r 1)), (1, .long x)]) [0, 2, 3] rfl ?_
      have e6 : ((nI (wfG 8 0 x)) - 1 : Int32) = nI (wfG 8 0 x - 0) - 1 := by
        rfl
      exact hV_to (ws' := pdW G r (pl + 0) (ptT T pl x (wfG 8 0 x) 0)) (lv' := [(4, .int (nI (wfG 8 0 x - 0) - 1)), (0, .ref (r 1)), (1, .long x)]) (st' := []) (by rfl) (congrArg (fun v9 => ([(4, .int v9), (0, .ref (r 1)), (1, .long x)] : List (Nat × Value))) e6) rfl (L1 _ (wfG 8 0 x) 0 rfl hm8 hm q8 (Nat.zero_le _) (Nat.lt_succ_self _))
    · have q8 : ¬ pl + wfG 8 0 x ≤ 80 := fun z9 => c5 (by rw [nI_add]; exact (nI_leI (a := pl + wfG 8 0 x) (b := 80) (by omega) (by decide)).mpr z9)
      refine hbipush (v := (-4)) X dX4_append_26 rfl ?_
      refine hiret X dX4_append_28 ⟨congrArg (fun z => some (Value.int z)) (?_ : (-4) = apdR pl x), ?_⟩
      · first | (simp [apdR, hm]; done) | (simp [apdR, hm, q8]; done) | (simp [apdR, ← em, hm, q8, ek]; done)
      first | (simp [apdL, apdT, hm]; done) | (simp [apdL, apdT, hm, q8]; done) | (simp [apdL, apdT, ← em, hm, q8, ek]; done)
  · have hm : wfG 8 0 x = 0 := (nI_eq (a := wfG 8 0 x) (b := 0) (by omega) (by decide)).mp c4
    refine hbipush (v := (-2)) X dX4_append_9 rfl ?_
    refine hiret X dX4_append_11 ⟨congrArg (fun z => some (Value.int z)) (?_ : (-2) = apdR pl x), ?_⟩
    · first | (simp [apdR, hm]; done) | (simp [apdR, hm, q8]; done) | (simp [apdR, ← em, hm, q8, ek]; done)
    first | (simp [apdL, apdT, hm]; done) | (simp [apdL, apdT, hm, q8]; done) | (simp [apdL, apdT, ← em, hm, q8, ek]; done)

