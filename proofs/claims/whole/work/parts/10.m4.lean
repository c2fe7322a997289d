set_option maxHeartbeats 4000000 in
set_option maxRecDepth 100000 in
theorem kX8_moves (l : Launch) (G : hG) (a b : Nat) (n1 n2 x t : Nat) (f g : Nat → Int32) (hx : x + 250 ≤ n1) (ht : t + 250 ≤ n2) (hn1 : n1 < 2 ^ 31) (hn2 : n2 < 2 ^ 31) : hM l G yX8_moves wsX8_moves ({ frames := 1, cells := 0, slots := 0, locals := 40 }) ([(a, .inl (G.2.1 0, n1, .inl f)), (b, .inl (G.2.1 0, n2, .inl g))]) [.ref a, .int (nI x), .ref b, .int (nI t)] (hR none ([(a, .inl (G.2.1 0, n1, .inl f)), (b, .inl (G.2.1 0, n2, .inl (mvN 250 f x g t)))])) := by
  refine hM_of (cc := cX8_moves) (maxL := 5) (ret := none) (by decide) rfl (Nat.le_of_ble_eq_true rfl) ?_
  intro pp ee ss mm aa bb me cd X hin
  have L : ∀ (d : Nat) (k : Nat), (k ≤ 250) → (250 - k) < d → hV pp l ee ({ frames := 1, cells := 0, slots := 0, locals := 40 }) ss mm aa bb me cd G (va_A ([(a, .inl (G.2.1 0, n1, .inl f)), (b, .inl (G.2.1 0, n2, .inl g))]) ss.heap.size) 5 0 0 (MQ bb (hQc G ([(a, .inl (G.2.1 0, n1, .inl f)), (b, .inl (G.2.1 0, n2, .inl g))]) ss.heap.size (hR none ([(a, .inl (G.2.1 0, n1, .inl f)), (b, .inl (G.2.1 0, n2, .inl (mvN 250 f x g t)))]))) aa ss 0 0 (va_A ([(a, .inl (G.2.1 0, n1, .inl f)), (b, .inl (G.2.1 0, n2, .inl g))]) ss.heap.size)) ([(a, .inl (G.2.1 0, n1, .inl f)), (b, .inl (G.2.1 0, n2, .inl (mvN k f x g t)))]) 3 [(4, .int (nI k)), (0, .ref a), (1, .int (nI x)), (2, .ref b), (3, .int (nI t))] [] := by
    intro d
    induction d with
    | zero =>
      intro k hk hd0
      exact absurd hd0 (Nat.not_lt_zero _)
    | succ d ih =>
      intro k hk hd0
      refine hiload X dX8_moves_3 rfl ?_
      refine hsipush (v := 250) X dX8_moves_5 rfl ?_
      refine hicmp_ge (tgt := 29) X dX8_moves_8 (by decide) (fun c1 => ?_) (fun c1 => ?_)
      · have ek := i_ge (n := 250) hk (by decide) c1
        refine hvret X dX8_moves_29 ⟨rfl, ?_⟩
        refine congrArg (fun z => ([(a, .inl (G.2.1 0, n1, .inl f)), (b, .inl (G.2.1 0, n2, .inl z))] : va_W)) (?_ : (mvN k f x g t : Nat → Int32) = mvN 250 f x g t)
        rw [ek]
      · have hk1 := i_lt (n := 250) hk (by decide) c1
        refine haload_n X dX8_moves_11 rfl ?_
        refine hiload_n X dX8_moves_12 rfl ?_
        refine hiload X dX8_moves_13 rfl ?_
        refine hiadd X dX8_moves_15 ?_
        refine haload_n X dX8_moves_16 rfl ?_
        refine hiload_n X dX8_moves_17 rfl ?_
        refine hiload X dX8_moves_18 rfl ?_
        refine hiadd X dX8_moves_20 ?_
        refine hiald (n := n1) (f := f) X 0 rfl (x + k) (nadd rfl rfl) (by omega) (by assumption) dX8_moves_21 ?_
        refine hiast (n := n2) (f := mvN k f x g t) X 1 rfl (t + k) (nadd rfl rfl) (by omega) (by assumption) dX8_moves_22 (ws' := [(a, .inl (G.2.1 0, n1, .inl f)), (b, .inl (G.2.1 0, n2, .inl (upd (mvN k f x g t) (t + k) (f (x + k)))))]) rfl ?_
        refine hiinc (v := nI (k + 1)) (lv' := [(4, .int (nI (k + 1))), (0, .ref a), (1, .int (nI x)), (2, .ref b), (3, .int (nI t))]) X dX8_moves_23 rfl (nI_1 _) (by decide) rfl ?_
        refine hgoto (tgt := 3) X dX8_moves_26 (by decide) ?_
        have w2 : (upd (mvN k f x g t) (t + k) (f (x + k)) : Nat → Int32) = mvN (k + 1) f x g t := by
          exact mv_step k f x g t
        exact hV_to (ws' := [(a, .inl (G.2.1 0, n1, .inl f)), (b, .inl (G.2.1 0, n2, .inl (mvN (k + 1) f x g t)))]) (lv' := [(4, .int (nI (k + 1))), (0, .ref a), (1, .int (nI x)), (2, .ref b), (3, .int (nI t))]) (st' := []) (congrArg (fun z => ([(a, .inl (G.2.1 0, n1, .inl f)), (b, .inl (G.2.1 0, n2, .inl z))] : va_W)) w2) rfl rfl (ih (k + 1) (by omega) (by omega))
  refine hiconst (v := 0) X dX8_moves_0 rfl ?_
  refine histore (lv' := [(4, .int 0), (0, .ref a), (1, .int (nI x)), (2, .ref b), (3, .int (nI t))]) X dX8_moves_1 (by decide) rfl ?_
  have w3 : (g : Nat → Int32) = mvN 0 f x g t := by
    exact mv_0 f x g t
  exact hV_to (ws' := [(a, .inl (G.2.1 0, n1, .inl f)), (b, .inl (G.2.1 0, n2, .inl (mvN 0 f x g t)))]) (lv' := [(4, .int 0), (0, .ref a), (1, .int (nI x)), (2, .ref b), (3, .int (nI t))]) (st' := []) (congrArg (fun z => ([(a, .inl (G.2.1 0, n1, .inl f)), (b, .inl (G.2.1 0, n2, .inl z))] : va_W)) w3) rfl rfl (L _ 0 (by omega) (Nat.lt_succ_self _))

set_option maxHeartbeats 4000000 in
set_option maxRecDepth 100000 in
theorem kX8_record6 (l : Launch) (G : hG) (q : Nat → Nat) (E : hF) (h60 : E 6 0 = 6) : hM l G yX8_record wsX8_record ({ frames := 2, cells := 0, slots := 0, locals := 64 }) (mW G q E) [.ref (q 0)] (hR none (mW G q (recE E 6))) := by
  refine hM_of (cc := cX8_record) (maxL := 2) (ret := none) (by decide) rfl (Nat.le_of_ble_eq_true rfl) ?_
  intro pp ee ss mm aa bb me cd X hin
  have iX8 : ∀ w ∈ wsX80, w ∈ wsX8_record := by decide +kernel
  have L : ∀ (d : Nat) (k : Nat), (k ≤ 1250) → (1250 - k) < d → hV pp l ee ({ frames := 2, cells := 0, slots := 0, locals := 64 }) ss mm aa bb me cd G (va_A (mW G q E) ss.heap.size) 2 0 0 (MQ bb (hQc G (mW G q E) ss.heap.size (hR none (mW G q (recE E 6)))) aa ss 0 0 (va_A (mW G q E) ss.heap.size)) (mW G q (fr E 2 (shN k (E 2)))) 11 [(1, .int (nI k)), (0, .ref (q 0))] [] := by
    intro d
    induction d with
    | zero =>
      intro k hk hd0
      exact absurd hd0 (Nat.not_lt_zero _)
    | succ d ih =>
      intro k hk hd0
      refine hiload_n X dX8_record_11 rfl ?_
      refine hsipush (v := 1250) X dX8_record_12 rfl ?_
      refine hicmp_ge (tgt := 40) X dX8_record_15 (by decide) (fun c1 => ?_) (fun c1 => ?_)
      · have ek := i_ge (n := 1250) hk (by decide) c1
        refine haload_n X dX8_record_40 rfl ?_
        refine hdup X dX8_record_41 rfl ?_
        refine hget1 X (T := TX8) (N := 14) iX8 0 rfl rfl 3 (by decide) (by decide +kernel) rfl dX8_record_42 ?_
        have r2 : ((fr E 2 (shN k (E 2))) 6 0 : Int32) = E 6 0 := by rw [fr_ne _ _ (by decide)]
        refine hV_st (st' := [.int (E 6 0), .ref (q 0)]) (congrArg (fun z => Value.int z :: [.ref (q 0)]) r2) ?_
        refine hV_st (st' := [.int 6, .ref (q 0)]) (congrArg (fun z => ([Value.int z, .ref (q 0)] : List Value)) ((show fr E 2 (shN k (E 2)) 6 0 = 6 from (congrFun (fr_ne E _ (by decide)) 0).trans h60))) ?_
        refine hiconst (v := 1) X dX8_record_45 rfl ?_
        refine hisub X dX8_record_46 ?_
        refine hV_st (st' := [.int 5, .ref (q 0)]) rfl ?_
        refine hput1 X (T := TX8) (N := 14) iX8 tyX8 tyX8_ok nmX8 0 rfl rfl 3 (by decide) (by decide +kernel) (by decide +kernel) rfl rfl (Nat.le_of_ble_eq_true rfl) dX8_record_47 (ws' := mW G q (fs (fr E 2 (shN k (E 2))) 6 0 5)) (mWf3 G q _ _) ?_
        refine haload_n X dX8_record_50 rfl ?_
        refine hget1 X (T := TX8) (N := 14) iX8 0 rfl rfl 0 (by decide) (by decide +kernel) rfl dX8_record_51 ?_
        refine hiconst (v := 0) X dX8_record_54 rfl ?_
        refine haload_n X dX8_record_55 rfl ?_
        refine hget1 X (T := TX8) (N := 14) iX8 0 rfl rfl 2 (by decide) (by decide +kernel) rfl dX8_record_56 ?_
        refine haload_n X dX8_record_59 rfl ?_
        refine hget1 X (T := TX8) (N := 14) iX8 0 rfl rfl 3 (by decide) (by decide +kernel) rfl dX8_record_60 ?_
        have r3 : ((fs (fr E 2 (shN k (E 2))) 6 0 5) 6 0 : Int32) = 5 := by rw [fs_same]
        refine hV_st (st' := [.int 5, .ref (q 3), .int 0, .ref (q 1)]) (congrArg (fun z => Value.int z :: [.ref (q 3), .int 0, .ref (q 1)]) r3) ?_
        refine hsipush (v := 250) X dX8_record_63 rfl ?_
        refine himul X dX8_record_66 ?_
        refine hV_st (st' := [.int 1250, .ref (q 3), .int 0, .ref (q 1)]) rfl ?_
        refine hV_perm (ws' := [(q 1, .inl (G.2.1 0, 250, .inl ((fs (fr E 2 (shN k (E 2))) 6 0 5) 0))), (q 3, .inl (G.2.1 0, 1500, .inl ((fs (fr E 2 (shN k (E 2))) 6 0 5) 2)))] ++ ((mW G q (fs (fr E 2 (shN k (E 2))) 6 0 5)).eraseIdx 1).eraseIdx 2) (pk2 (mW G q (fs (fr E 2 (shN k (E 2))) 6 0 5)) 1 2 (Nat.le_of_ble_eq_true rfl) (Nat.le_of_ble_eq_true rfl)) ?_
        refine hcallSr (wsC := [(q 1, .inl (G.2.1 0, 250, .inl ((fs (fr E 2 (shN k (E 2))) 6 0 5) 0))), (q 3, .inl (G.2.1 0, 1500, .inl ((fs (fr E 2 (shN k (E 2))) 6 0 5) 2)))]) (wsR := ((mW G q (fs (fr E 2 (shN k (E 2))) 6 0 5)).eraseIdx 1).eraseIdx 2) (As := [.ref (q 1), .int (nI 0), .ref (q 3), .int (nI 1250)]) (rest := []) (st' := []) (w := [(q 1, .inl (G.2.1 0, 250, .inl ((fs (fr E 2 (shN k (E 2))) 6 0 5) 0))), (q 3, .inl (G.2.1 0, 1500, .inl (mvN 250 ((fs (fr E 2 (shN k (E 2))) 6 0 5) 0) 0 ((fs (fr E 2 (shN k (E 2))) 6 0 5) 2) 1250)))]) X (kX8_moves l G (q 1) (q 3) 250 1500 0 1250 ((fs (fr E 2 (shN k (E 2))) 6 0 5) 0) ((fs (fr E 2 (shN k (E 2))) 6 0 5) 2) (by omega) (by omega) (by decide) (by decide)) gX8_record_X8_moves rfl (n := 4) (by decide +kernel) (by decide) rfl rfl (Nat.le_of_ble_eq_true rfl) dX8_record_67 rfl rfl (by decide) rfl ?_
        refine hV_perm (ws' := mW G q (fr (fs (fr E 2 (shN k (E 2))) 6 0 5) 2 (mvN 250 ((fs (fr E 2 (shN k (E 2))) 6 0 5) 0) 0 ((fs (fr E 2 (shN k (E 2))) 6 0 5) 2) 1250))) (pk2 (mW G q (fr (fs (fr E 2 (shN k (E 2))) 6 0 5) 2 (mvN 250 ((fs (fr E 2 (shN k (E 2))) 6 0 5) 0) 0 ((fs (fr E 2 (shN k (E 2))) 6 0 5) 2) 1250))) 1 2 (Nat.le_of_ble_eq_true rfl) (Nat.le_of_ble_eq_true rfl)).symm ?_
        refine haload_n X dX8_record_70 rfl ?_
        refine hdup X dX8_record_71 rfl ?_
        refine hget1 X (T := TX8) (N := 14) iX8 0 rfl rfl 3 (by decide) (by decide +kernel) rfl dX8_record_72 ?_
        have r4 : ((fr (fs (fr E 2 (shN k (E 2))) 6 0 5) 2 (mvN 250 ((fs (fr E 2 (shN k (E 2))) 6 0 5) 0) 0 ((fs (fr E 2 (shN k (E 2))) 6 0 5) 2) 1250)) 6 0 : Int32) = 5 := by rw [fr_ne _ _ (by decide), fs_same]
        refine hV_st (st' := [.int 5, .ref (q 0)]) (congrArg (fun z => Value.int z :: [.ref (q 0)]) r4) ?_
        refine hiconst (v := 1) X dX8_record_75 rfl ?_
        refine hiadd X dX8_record_76 ?_
        refine hV_st (st' := [.int 6, .ref (q 0)]) rfl ?_
        refine hput1 X (T := TX8) (N := 14) iX8 tyX8 tyX8_ok nmX8 0 rfl rfl 3 (by decide) (by decide +kernel) (by decide +kernel) rfl rfl (Nat.le_of_ble_eq_true rfl) dX8_record_77 (ws' := mW G q (fs (fr (fs (fr E 2 (shN k (E 2))) 6 0 5) 2 (mvN 250 ((fs (fr E 2 (shN k (E 2))) 6 0 5) 0) 0 ((fs (fr E 2 (shN k (E 2))) 6 0 5) 2) 1250)) 6 0 6)) (mWf3 G q _ _) ?_
        refine hvret X dX8_record_80 ⟨rfl, ?_⟩
        refine congrArg (mW G q) (?_ : (fs (fr (fs (fr E 2 (shN k (E 2))) 6 0 5) 2 (mvN 250 ((fs (fr E 2 (shN k (E 2))) 6 0 5) 0) 0 ((fs (fr E 2 (shN k (E 2))) 6 0 5) 2) 1250)) 6 0 6 : hF) = recE E 6)
        subst ek
        simp only [recE, if_pos]
        rfl
      · have hk1 := i_lt (n := 1250) hk (by decide) c1
        refine haload_n X dX8_record_18 rfl ?_
        refine hget1 X (T := TX8) (N := 14) iX8 0 rfl rfl 2 (by decide) (by decide +kernel) rfl dX8_record_19 ?_
        refine hiload_n X dX8_record_22 rfl ?_
        refine haload_n X dX8_record_23 rfl ?_
        refine hget1 X (T := TX8) (N := 14) iX8 0 rfl rfl 2 (by decide) (by decide +kernel) rfl dX8_record_24 ?_
        refine hiload_n X dX8_record_27 rfl ?_
        refine hsipush (v := 250) X dX8_record_28 rfl ?_
        refine hiadd X dX8_record_31 ?_
        refine hiald (n := 1500) (f := (fr E 2 (shN k (E 2))) 2) X 3 rfl (k + 250) (nadd rfl rfl) (by omega) (by decide) dX8_record_32 ?_
        refine hiast (n := 1500) (f := (fr E 2 (shN k (E 2))) 2) X 3 rfl k rfl (by omega) (by decide) dX8_record_33 (ws' := mW G q (fs (fr E 2 (shN k (E 2))) 2 k ((fr E 2 (shN k (E 2))) 2 (k + 250)))) (mWs2 G q _ _ _) ?_
        refine hiinc (v := nI (k + 1)) (lv' := [(1, .int (nI (k + 1))), (0, .ref (q 0))]) X dX8_record_34 rfl (nI_1 _) (by decide) rfl ?_
        refine hgoto (tgt := 11) X dX8_record_37 (by decide) ?_
        have w5 : (fs (fr E 2 (shN k (E 2))) 2 k ((fr E 2 (shN k (E 2))) 2 (k + 250)) : hF) = fr E 2 (shN (k + 1) (E 2)) := by
          exact sh_step E k
        exact hV_to (ws' := mW G q (fr E 2 (shN (k + 1) (E 2)))) (lv' := [(1, .int (nI (k + 1))), (0, .ref (q 0))]) (st' := []) (congrArg (mW G q) w5) rfl rfl (ih (k + 1) (by omega) (by omega))
  refine haload_n X dX8_record_0 rfl ?_
  refine hget1 X (T := TX8) (N := 14) iX8 0 rfl rfl 3 (by decide) (by decide +kernel) rfl dX8_record_1 ?_
  refine hV_st (st' := [.int 6]) (congrArg (fun z => ([Value.int z] : List Value)) (h60)) ?_
  refine hbipush (v := 6) X dX8_record_4 rfl ?_
  refine hicmp_ne (tgt := 50) X dX8_record_6 (by decide) (fun c6 => ?_) (fun c6 => ?_)
  · exact absurd (by decide) c6
  refine hiconst (v := 0) X dX8_record_9 rfl ?_
  refine histore_n (lv' := [(1, .int 0), (0, .ref (q 0))]) X dX8_record_10 (by decide) rfl ?_
  have w7 : (E : hF) = fr E 2 (shN 0 (E 2)) := by
    exact sh_0 E
  exact hV_to (ws' := mW G q (fr E 2 (shN 0 (E 2)))) (lv' := [(1, .int 0), (0, .ref (q 0))]) (st' := []) (congrArg (mW G q) w7) rfl rfl (L _ 0 (by omega) (Nat.lt_succ_self _))

set_option maxHeartbeats 4000000 in
set_option maxRecDepth 100000 in
theorem kX8_recordL (l : Launch) (G : hG) (q : Nat → Nat) (E : hF) (r : Nat) (hr : r < 6) (h60 : E 6 0 = nI r) : hM l G yX8_record wsX8_record ({ frames := 2, cells := 0, slots := 0, locals := 64 }) (mW G q E) [.ref (q 0)] (hR none (mW G q (recE E r))) := by
  refine hM_of (cc := cX8_record) (maxL := 2) (ret := none) (by decide) rfl (Nat.le_of_ble_eq_true rfl) ?_
  intro pp ee ss mm aa bb me cd X hin
  have iX8 : ∀ w ∈ wsX80, w ∈ wsX8_record := by decide +kernel
  refine haload_n X dX8_record_0 rfl ?_
  refine hget1 X (T := TX8) (N := 14) iX8 0 rfl rfl 3 (by decide) (by decide +kernel) rfl dX8_record_1 ?_
  refine hV_st (st' := [.int (nI r)]) (congrArg (fun z => ([Value.int z] : List Value)) (h60)) ?_
  refine hbipush (v := 6) X dX8_record_4 rfl ?_
  refine hicmp_ne (tgt := 50) X dX8_record_6 (by decide) (fun c1 => ?_) (fun c1 => ?_)
  · refine haload_n X dX8_record_50 rfl ?_
    refine hget1 X (T := TX8) (N := 14) iX8 0 rfl rfl 0 (by decide) (by decide +kernel) rfl dX8_record_51 ?_
    refine hiconst (v := 0) X dX8_record_54 rfl ?_
    refine haload_n X dX8_record_55 rfl ?_
    refine hget1 X (T := TX8) (N := 14) iX8 0 rfl rfl 2 (by decide) (by decide +kernel) rfl dX8_record_56 ?_
    refine haload_n X dX8_record_59 rfl ?_
    refine hget1 X (T := TX8) (N := 14) iX8 0 rfl rfl 3 (by decide) (by decide +kernel) rfl dX8_record_60 ?_
    refine hV_st (st' := [.int (nI r), .ref (q 3), .int 0, .ref (q 1)]) (congrArg (fun z => ([Value.int z, .ref (q 3), .int 0, .ref (q 1)] : List Value)) (h60)) ?_
    refine hsipush (v := 250) X dX8_record_63 rfl ?_
    refine himul X dX8_record_66 ?_
    refine hV_st (st' := [.int (nI (r * 250)), .ref (q 3), .int 0, .ref (q 1)]) (congrArg (fun z => ([Value.int z, .ref (q 3), .int 0, .ref (q 1)] : List Value)) ((nmul rfl rfl))) ?_
    refine hV_perm (ws' := [(q 1, .inl (G.2.1 0, 250, .inl (E 0))), (q 3, .inl (G.2.1 0, 1500, .inl (E 2)))] ++ ((mW G q E).eraseIdx 1).eraseIdx 2) (pk2 (mW G q E) 1 2 (Nat.le_of_ble_eq_true rfl) (Nat.le_of_ble_eq_true rfl)) ?_
    refine hcallSr (wsC := [(q 1, .inl (G.2.1 0, 250, .inl (E 0))), (q 3, .inl (G.2.1 0, 1500, .inl (E 2)))]) (wsR := ((mW G q E).eraseIdx 1).eraseIdx 2) (As := [.ref (q 1), .int (nI 0), .ref (q 3), .int (nI (r * 250))]) (rest := []) (st' := []) (w := [(q 1, .inl (G.2.1 0, 250, .inl (E 0))), (q 3, .inl (G.2.1 0, 1500, .inl (mvN 250 (E 0) 0 (E 2) (r * 250))))]) X (kX8_moves l G (q 1) (q 3) 250 1500 0 (r * 250) (E 0) (E 2) (by omega) (by omega) (by decide) (by decide)) gX8_record_X8_moves rfl (n := 4) (by decide +kernel) (by decide) rfl rfl (Nat.le_of_ble_eq_true rfl) dX8_record_67 rfl rfl (by decide) rfl ?_
    refine hV_perm (ws' := mW G q (fr E 2 (mvN 250 (E 0) 0 (E 2) (r * 250)))) (pk2 (mW G q (fr E 2 (mvN 250 (E 0) 0 (E 2) (r * 250)))) 1 2 (Nat.le_of_ble_eq_true rfl) (Nat.le_of_ble_eq_true rfl)).symm ?_
    refine haload_n X dX8_record_70 rfl ?_
    refine hdup X dX8_record_71 rfl ?_
    refine hget1 X (T := TX8) (N := 14) iX8 0 rfl rfl 3 (by decide) (by decide +kernel) rfl dX8_record_72 ?_
    have r2 : ((fr E 2 (mvN 250 (E 0) 0 (E 2) (r * 250))) 6 0 : Int32) = E 6 0 := by rw [fr_ne _ _ (by decide)]
    refine hV_st (st' := [.int (E 6 0), .ref (q 0)]) (congrArg (fun z => Value.int z :: [.ref (q 0)]) r2) ?_
    refine hV_st (st' := [.int (nI r), .ref (q 0)]) (congrArg (fun z => ([Value.int z, .ref (q 0)] : List Value)) (h60)) ?_
    refine hiconst (v := 1) X dX8_record_75 rfl ?_
    refine hiadd X dX8_record_76 ?_
    refine hput1 X (T := TX8) (N := 14) iX8 tyX8 tyX8_ok nmX8 0 rfl rfl 3 (by decide) (by decide +kernel) (by decide +kernel) rfl rfl (Nat.le_of_ble_eq_true rfl) dX8_record_77 (ws' := mW G q (fs (fr E 2 (mvN 250 (E 0) 0 (E 2) (r * 250))) 6 0 ((nI r) + 1))) (mWf3 G q _ _) ?_
    refine hvret X dX8_record_80 ⟨rfl, ?_⟩
    refine congrArg (mW G q) (?_ : (fs (fr E 2 (mvN 250 (E 0) 0 (E 2) (r * 250))) 6 0 ((nI r) + 1) : hF) = recE E r)
    simp [recE, show ¬ r = 6 by omega]
  · exact ((by have q9 := (nI_eq (a := r) (b := 6) (by omega) (by decide)).mp c1; omega : False)).elim

theorem kX8_record (l : Launch) (G : hG) (q : Nat → Nat) (E : hF) (r : Nat) (hr : r ≤ 6) (h60 : E 6 0 = nI r) : hM l G yX8_record wsX8_record ({ frames := 2, cells := 0, slots := 0, locals := 64 }) (mW G q E) [.ref (q 0)] (hR none (mW G q (recE E r))) := by
  by_cases h : r = 6
  · subst h
    exact kX8_record6 l G q E h60
  · exact kX8_recordL l G q E r (by omega) h60

set_option maxHeartbeats 4000000 in
set_option maxRecDepth 100000 in
theorem kX8_isValue (l : Launch) (G : hG) (x v : Int32) : hM l G yX8_isValue wsX8_isValue ({ frames := 2, cells := 0, slots := 0, locals := 62 }) ([]) [.int x, .int v] (hR (some (.int (bI (isvP x v)))) ([])) := by
  refine hM_of (cc := cX8_isValue) (maxL := 2) (ret := (some .boolean)) (by decide) rfl (Nat.le_of_ble_eq_true rfl) ?_
  intro pp ee ss mm aa bb me cd X hin
  refine hiload_n X dX8_isValue_0 rfl ?_
  refine hif_ne (tgt := 14) X dX8_isValue_1 (by decide) (fun c1 => ?_) (fun c1 => ?_)
  · refine hiload_n X dX8_isValue_14 rfl ?_
    refine hiconst (v := 1) X dX8_isValue_15 rfl ?_
    refine hicmp_ne (tgt := 29) X dX8_isValue_16 (by decide) (fun c2 => ?_) (fun c2 => ?_)
    · refine hiload_n X dX8_isValue_29 rfl ?_
      refine hiconst (v := 2) X dX8_isValue_30 rfl ?_
      refine hicmp_ne (tgt := 49) X dX8_isValue_31 (by decide) (fun c3 => ?_) (fun c3 => ?_)
      · refine hiconst (v := 0) X dX8_isValue_49 rfl ?_
        refine hzret X rfl dX8_isValue_50 ⟨congrArg (fun z => some (Value.int z)) (?_ : 0 = bI (isvP x v)), ?_⟩
        · simp [bI, isvP, c1, c2, c3]
        rfl
      · refine hiload_n X dX8_isValue_34 rfl ?_
        refine hiconst (v := 1) X dX8_isValue_35 rfl ?_
        refine hsipush (v := 999) X dX8_isValue_36 rfl ?_
        refine hcallSr (wsC := []) (wsR := []) (As := [.int v, .int 1, .int 999]) (rest := []) (st' := [.int (bI (wI v 1 999))]) (w := []) X (kX8_within l G v 1 999) gX8_isValue_X8_within rfl (n := 3) (by decide +kernel) (by decide) rfl rfl (Nat.le_of_ble_eq_true rfl) dX8_isValue_39 rfl rfl (by decide) rfl ?_
        refine hif_eqB (tgt := 49) X dX8_isValue_42 (by decide) (fun c4 => ?_) (fun c4 => ?_)
        · refine hiconst (v := 0) X dX8_isValue_49 rfl ?_
          refine hzret X rfl dX8_isValue_50 ⟨congrArg (fun z => some (Value.int z)) (?_ : 0 = bI (isvP x v)), ?_⟩
          · simp [bI, isvP, c1, c2, c3, c4]
          rfl
        · refine hiconst (v := 1) X dX8_isValue_45 rfl ?_
          refine hgoto (tgt := 50) X dX8_isValue_46 (by decide) ?_
          refine hzret X rfl dX8_isValue_50 ⟨congrArg (fun z => some (Value.int z)) (?_ : 1 = bI (isvP x v)), ?_⟩
          · simp [bI, isvP, c1, c2, c3, c4]
          rfl
    · refine hiload_n X dX8_isValue_19 rfl ?_
      refine hiconst (v := 1) X dX8_isValue_20 rfl ?_
      refine hbipush (v := 9) X dX8_isValue_21 rfl ?_
      refine hcallSr (wsC := []) (wsR := []) (As := [.int v, .int 1, .int 9]) (rest := []) (st' := [.int (bI (wI v 1 9))]) (w := []) X (kX8_within l G v 1 9) gX8_isValue_X8_within rfl (n := 3) (by decide +kernel) (by decide) rfl rfl (Nat.le_of_ble_eq_true rfl) dX8_isValue_23 rfl rfl (by decide) rfl ?_
      refine hgoto (tgt := 50) X dX8_isValue_26 (by decide) ?_
      refine hzret X bI_nar dX8_isValue_50 ⟨congrArg (fun z => some (Value.int z)) (?_ : (bI (wI v 1 9)) = bI (isvP x v)), ?_⟩
      · simp [bI, isvP, c1, c2]
      rfl
  · refine hiload_n X dX8_isValue_4 rfl ?_
    refine hiconst (v := 1) X dX8_isValue_5 rfl ?_
    refine hbipush (v := 60) X dX8_isValue_6 rfl ?_
    refine hcallSr (wsC := []) (wsR := []) (As := [.int v, .int 1, .int 60]) (rest := []) (st' := [.int (bI (wI v 1 60))]) (w := []) X (kX8_within l G v 1 60) gX8_isValue_X8_within rfl (n := 3) (by decide +kernel) (by decide) rfl rfl (Nat.le_of_ble_eq_true rfl) dX8_isValue_8 rfl rfl (by decide) rfl ?_
    refine hgoto (tgt := 50) X dX8_isValue_11 (by decide) ?_
    refine hzret X bI_nar dX8_isValue_50 ⟨congrArg (fun z => some (Value.int z)) (?_ : (bI (wI v 1 60)) = bI (isvP x v)), ?_⟩
    · simp [bI, isvP, c1]
    rfl

set_option maxHeartbeats 4000000 in
set_option maxRecDepth 100000 in
theorem kX8_set (l : Launch) (G : hG) (q : Nat → Nat) (E : hF) (r : Nat) (hr : r ≤ 6) (h60 : E 6 0 = nI r) (x v : Int32) : hM l G yX8_set wsX8_set ({ frames := 3, cells := 0, slots := 0, locals := 85 }) (mW G q E) [.ref (q 0), .int x, .int v] (hR (some (.int (setR E x v))) (mW G q (setE E r x v))) := by
  refine hM_of (cc := cX8_set) (maxL := 4) (ret := (some .int)) (by decide) rfl (Nat.le_of_ble_eq_true rfl) ?_
  intro pp ee ss mm aa bb me cd X hin
  have iX8 : ∀ w ∈ wsX80, w ∈ wsX8_set := by decide +kernel
  refine hiload_n X dX8_set_0 rfl ?_
  refine hiload_n X dX8_set_1 rfl ?_
  refine hcallSr (wsC := []) (wsR := mW G q E) (As := [.int x, .int v]) (rest := []) (st' := [.int (bI (isvP x v))]) (w := []) X (kX8_isValue l G x v) gX8_set_X8_isValue rfl (n := 2) (by decide +kernel) (by decide) rfl rfl (Nat.le_of_ble_eq_true rfl) dX8_set_2 rfl rfl (by decide) rfl ?_
  refine hif_neB (tgt := 11) X dX8_set_5 (by decide) (fun c1 => ?_) (fun c1 => ?_)
  · obtain ⟨j, hj, hx⟩ := isvP_n c1
    refine haload_n X dX8_set_11 rfl ?_
    refine hcallV0 (C := RX8) (T := TX8) (N := 14) (As := []) (rest := []) (st' := []) (w := mW G q (recE E r)) X (q0 := 0) (kX8_record l G q E r (hr) (h60)) gX8_set_X8_record rfl (n := 0) (by decide +kernel) (by decide) rfl rfl rfl rfl (Nat.le_of_ble_eq_true rfl) dX8_set_12 rfl rfl (by decide) rfl ?_
    refine haload_n X dX8_set_15 rfl ?_
    refine hget1 X (T := TX8) (N := 14) iX8 0 rfl rfl 0 (by decide) (by decide +kernel) rfl dX8_set_16 ?_
    refine hiload_n X dX8_set_19 rfl ?_
    refine hV_st (st' := [.int (nI j), .ref (q 1)]) (congrArg (fun z => ([Value.int z, .ref (q 1)] : List Value)) (hx)) ?_
    refine hiald (n := 250) (f := (recE E r) 0) X 1 rfl j rfl (by omega) (by decide) dX8_set_20 ?_
    refine histore_n (lv' := [(3, .int ((recE E r) 0 j)), (0, .ref (q 0)), (1, .int x), (2, .int v)]) X dX8_set_21 (by decide) rfl ?_
    refine haload_n X dX8_set_22 rfl ?_
    refine hget1 X (T := TX8) (N := 14) iX8 0 rfl rfl 0 (by decide) (by decide +kernel) rfl dX8_set_23 ?_
    refine hiload_n X dX8_set_26 rfl ?_
    refine hiload_n X dX8_set_27 rfl ?_
    refine hV_st (st' := [.int v, .int (nI j), .ref (q 1)]) (congrArg (fun z => ([.int v, Value.int z, .ref (q 1)] : List Value)) (hx)) ?_
    refine hiast (n := 250) (f := (recE E r) 0) X 1 rfl j rfl (by omega) (by decide) dX8_set_28 (ws' := mW G q (fs (recE E r) 0 j v)) (mWs0 G q _ _ _) ?_
    refine hiload_n X dX8_set_29 rfl ?_
    refine hiret X dX8_set_30 ⟨congrArg (fun z => some (Value.int z)) (?_ : ((recE E r) 0 j) = setR E x v), ?_⟩
    · first | (simp [setR, c1]; done) | (simp [setR, hx, nI_clamp (show j < 2 ^ 31 by omega), recE_0, c1]; done) | (subst hx; simp [setR, nI_clamp (show j < 2 ^ 31 by omega), recE_0, c1]; done)
    refine congrArg (mW G q) (?_ : (fs (recE E r) 0 j v : hF) = setE E r x v)
    first | (simp [setE, c1]; done) | (subst hx; simp [setE, nI_clamp (show j < 2 ^ 31 by omega), c1]; done)
  · refine hbipush (v := (-2)) X dX8_set_8 rfl ?_
    refine hiret X dX8_set_10 ⟨congrArg (fun z => some (Value.int z)) (?_ : (-2) = setR E x v), ?_⟩
    · first | (simp [setR, c1]; done) | (simp [setR, hx, nI_clamp (show j < 2 ^ 31 by omega), recE_0, c1]; done) | (subst hx; simp [setR, nI_clamp (show j < 2 ^ 31 by omega), recE_0, c1]; done)
    refine congrArg (mW G q) (?_ : (E : hF) = setE E r x v)
    first | (simp [setE, c1]; done) | (subst hx; simp [setE, nI_clamp (show j < 2 ^ 31 by omega), c1]; done)

set_option maxHeartbeats 4000000 in
set_option maxRecDepth 100000 in
theorem kX8_whyNoStand (l : Launch) (G : hG) (q : Nat → Nat) (E : hF) (n c : Nat) (h : mOk n c E) (w1 w2 w3 w4 : Int32) : hM l G yX8_whyNoStand wsX8_whyNoStand ({ frames := 3, cells := 0, slots := 0, locals := 84 }) (mW G q E) [.ref (q 0), .int w1, .int w2, .int w3, .int w4] (hR (some (.int (whyS E w1 w2 w3 w4))) (mW G q E)) := by
  refine hM_of (cc := cX8_whyNoStand) (maxL := 5) (ret := (some .int)) (by decide) rfl (Nat.le_of_ble_eq_true rfl) ?_
  intro pp ee ss mm aa bb me cd X hin
  have iX8 : ∀ w ∈ wsX80, w ∈ wsX8_whyNoStand := by decide +kernel
  have hn := h.hn
  refine hiload_n X dX8_whyNoStand_0 rfl ?_
  refine hiconst (v := 1) X dX8_whyNoStand_1 rfl ?_
  refine hbipush (v := 99) X dX8_whyNoStand_2 rfl ?_
  refine hcallSr (wsC := []) (wsR := mW G q E) (As := [.int w1, .int 1, .int 99]) (rest := []) (st' := [.int (bI (wI w1 1 99))]) (w := []) X (kX8_within l G w1 1 99) gX8_whyNoStand_X8_within rfl (n := 3) (by decide +kernel) (by decide) rfl rfl (Nat.le_of_ble_eq_true rfl) dX8_whyNoStand_4 rfl rfl (by decide) rfl ?_
  refine hif_eqB (tgt := 30) X dX8_whyNoStand_7 (by decide) (fun c1 => ?_) (fun c1 => ?_)
  · refine hbipush (v := (-2)) X dX8_whyNoStand_30 rfl ?_
    refine hiret X dX8_whyNoStand_32 ⟨congrArg (fun z => some (Value.int z)) (?_ : (-2) = whyS E w1 w2 w3 w4), ?_⟩
    · first | (simp [whyS, c1]; done) | (simp [whyS, hx, nI_clamp (show j < 2 ^ 31 by omega), c1]; done) | (subst hx; simp [whyS, nI_clamp (show j < 2 ^ 31 by omega), c1]; done)
    rfl
  · refine hiload_n X dX8_whyNoStand_10 rfl ?_
    refine hiconst (v := 1) X dX8_whyNoStand_11 rfl ?_
    refine hbipush (v := 20) X dX8_whyNoStand_12 rfl ?_
    refine hcallSr (wsC := []) (wsR := mW G q E) (As := [.int w2, .int 1, .int 20]) (rest := []) (st' := [.int (bI (wI w2 1 20))]) (w := []) X (kX8_within l G w2 1 20) gX8_whyNoStand_X8_within rfl (n := 3) (by decide +kernel) (by decide) rfl rfl (Nat.le_of_ble_eq_true rfl) dX8_whyNoStand_14 rfl rfl (by decide) rfl ?_
    refine hif_eqB (tgt := 30) X dX8_whyNoStand_17 (by decide) (fun c2 => ?_) (fun c2 => ?_)
    · refine hbipush (v := (-2)) X dX8_whyNoStand_30 rfl ?_
      refine hiret X dX8_whyNoStand_32 ⟨congrArg (fun z => some (Value.int z)) (?_ : (-2) = whyS E w1 w2 w3 w4), ?_⟩
      · first | (simp [whyS, c1, c2]; done) | (simp [whyS, hx, nI_clamp (show j < 2 ^ 31 by omega), c1, c2]; done) | (subst hx; simp [whyS, nI_clamp (show j < 2 ^ 31 by omega), c1, c2]; done)
      rfl
    · refine hiload_n X dX8_whyNoStand_20 rfl ?_
      refine hiconst (v := 0) X dX8_whyNoStand_21 rfl ?_
      refine hbipush (v := 99) X dX8_whyNoStand_22 rfl ?_
      refine hcallSr (wsC := []) (wsR := mW G q E) (As := [.int w3, .int 0, .int 99]) (rest := []) (st' := [.int (bI (wI w3 0 99))]) (w := []) X (kX8_within l G w3 0 99) gX8_whyNoStand_X8_within rfl (n := 3) (by decide +kernel) (by decide) rfl rfl (Nat.le_of_ble_eq_true rfl) dX8_whyNoStand_24 rfl rfl (by decide) rfl ?_
      refine hif_neB (tgt := 33) X dX8_whyNoStand_27 (by decide) (fun c3 => ?_) (fun c3 => ?_)
      · refine hiload X dX8_whyNoStand_33 rfl ?_
        refine hbipush (v := (-6)) X dX8_whyNoStand_35 rfl ?_
        refine hicmp_eq (tgt := 51) X dX8_whyNoStand_37 (by decide) (fun c4 => ?_) (fun c4 => ?_)
        · refine haload_n X dX8_whyNoStand_51 rfl ?_
          refine hget1 X (T := TX8) (N := 14) iX8 0 rfl rfl 0 (by decide) (by decide +kernel) rfl dX8_whyNoStand_52 ?_
          refine hiconst (v := 4) X dX8_whyNoStand_55 rfl ?_
          refine hiald (n := 250) (f := E 0) X 1 rfl 4 rfl (by omega) (by decide) dX8_whyNoStand_56 ?_
          refine hbipush (v := 20) X dX8_whyNoStand_57 rfl ?_
          refine hicmp_ne (tgt := 65) X dX8_whyNoStand_59 (by decide) (fun c5 => ?_) (fun c5 => ?_)
          · refine haload_n X dX8_whyNoStand_65 rfl ?_
            refine hget1 X (T := TX8) (N := 14) iX8 0 rfl rfl 0 (by decide) (by decide +kernel) rfl dX8_whyNoStand_66 ?_
            refine hbipush (v := 6) X dX8_whyNoStand_69 rfl ?_
            refine hiald (n := 250) (f := E 0) X 1 rfl 6 rfl (by omega) (by decide) dX8_whyNoStand_71 ?_
            refine hiconst (v := 1) X dX8_whyNoStand_72 rfl ?_
            refine hicmp_eq (tgt := 94) X dX8_whyNoStand_73 (by decide) (fun c6 => ?_) (fun c6 => ?_)
            · refine hbipush (v := (-5)) X dX8_whyNoStand_94 rfl ?_
              refine hgoto (tgt := 100) X dX8_whyNoStand_96 (by decide) ?_
              refine hiret X dX8_whyNoStand_100 ⟨congrArg (fun z => some (Value.int z)) (?_ : (-5) = whyS E w1 w2 w3 w4), ?_⟩
              · first | (simp [whyS, c1, c2, c3, c4, c5, c6]; done) | (simp [whyS, hx, nI_clamp (show j < 2 ^ 31 by omega), c1, c2, c3, c4, c5, c6]; done) | (subst hx; simp [whyS, nI_clamp (show j < 2 ^ 31 by omega), c1, c2, c3, c4, c5, c6]; done)
              rfl
            · refine hiload X dX8_whyNoStand_76 rfl ?_
              refine hbipush (v := (-6)) X dX8_whyNoStand_78 rfl ?_
              refine hicmp_eq (tgt := 99) X dX8_whyNoStand_80 (by decide) (fun c7 => ?_) (fun c7 => ?_)
              rotate_left
              · exact absurd c4 c7
              refine hiconst (v := 0) X dX8_whyNoStand_99 rfl ?_
              refine hiret X dX8_whyNoStand_100 ⟨congrArg (fun z => some (Value.int z)) (?_ : 0 = whyS E w1 w2 w3 w4), ?_⟩
              · first | (simp [whyS, c1, c2, c3, c4, c5, c6]; done) | (simp [whyS, hx, nI_clamp (show j < 2 ^ 31 by omega), c1, c2, c3, c4, c5, c6]; done) | (subst hx; simp [whyS, nI_clamp (show j < 2 ^ 31 by omega), c1, c2, c3, c4, c5, c6]; done)
              rfl
          · refine hbipush (v := (-4)) X dX8_whyNoStand_62 rfl ?_
            refine hiret X dX8_whyNoStand_64 ⟨congrArg (fun z => some (Value.int z)) (?_ : (-4) = whyS E w1 w2 w3 w4), ?_⟩
            · unfold whyS
              rw [if_neg (by simp [c1, c2, c3]), if_neg (fun q => q.1 c4), if_pos c5]
            rfl
        · refine haload_n X dX8_whyNoStand_40 rfl ?_
          refine hiload X dX8_whyNoStand_41 rfl ?_
          refine hcallV0 (C := RX8) (T := TX8) (N := 14) (As := [.int w4]) (rest := []) (st' := [.int (bI (wI w4 0 (E 0 4 - 1)))]) (w := mW G q E) X (q0 := 0) (kX8_isStand l G q E w4) gX8_whyNoStand_X8_isStand rfl (n := 1) (by decide +kernel) (by decide) rfl rfl rfl rfl (Nat.le_of_ble_eq_true rfl) dX8_whyNoStand_43 rfl rfl (by decide) rfl ?_
          refine hif_neB (tgt := 51) X dX8_whyNoStand_46 (by decide) (fun c8 => ?_) (fun c8 => ?_)
          · obtain ⟨j, hj, hx⟩ := wI_in (n := n) (by omega) (h.h4 ▸ c8)
            refine haload_n X dX8_whyNoStand_51 rfl ?_
            refine hget1 X (T := TX8) (N := 14) iX8 0 rfl rfl 0 (by decide) (by decide +kernel) rfl dX8_whyNoStand_52 ?_
            refine hiconst (v := 4) X dX8_whyNoStand_55 rfl ?_
            refine hiald (n := 250) (f := E 0) X 1 rfl 4 rfl (by omega) (by decide) dX8_whyNoStand_56 ?_
            refine hbipush (v := 20) X dX8_whyNoStand_57 rfl ?_
            refine hicmp_ne (tgt := 65) X dX8_whyNoStand_59 (by decide) (fun c9 => ?_) (fun c9 => ?_)
            · refine haload_n X dX8_whyNoStand_65 rfl ?_
              refine hget1 X (T := TX8) (N := 14) iX8 0 rfl rfl 0 (by decide) (by decide +kernel) rfl dX8_whyNoStand_66 ?_
              refine hbipush (v := 6) X dX8_whyNoStand_69 rfl ?_
              refine hiald (n := 250) (f := E 0) X 1 rfl 6 rfl (by omega) (by decide) dX8_whyNoStand_71 ?_
              refine hiconst (v := 1) X dX8_whyNoStand_72 rfl ?_
              refine hicmp_eq (tgt := 94) X dX8_whyNoStand_73 (by decide) (fun c10 => ?_) (fun c10 => ?_)
              · refine hbipush (v := (-5)) X dX8_whyNoStand_94 rfl ?_
                refine hgoto (tgt := 100) X dX8_whyNoStand_96 (by decide) ?_
                refine hiret X dX8_whyNoStand_100 ⟨congrArg (fun z => some (Value.int z)) (?_ : (-5) = whyS E w1 w2 w3 w4), ?_⟩
                · first | (simp [whyS, c1, c2, c3, c4, c8, c9, c10]; done) | (simp [whyS, hx, nI_clamp (show j < 2 ^ 31 by omega), c1, c2, c3, c4, c8, c9, c10]; done) | (subst hx; simp [whyS, nI_clamp (show j < 2 ^ 31 by omega), c1, c2, c3, c4, c8, c9, c10]; done)
                rfl
              · refine hiload X dX8_whyNoStand_76 rfl ?_
                refine hbipush (v := (-6)) X dX8_whyNoStand_78 rfl ?_
                refine hicmp_eq (tgt := 99) X dX8_whyNoStand_80 (by decide) (fun c11 => ?_) (fun c11 => ?_)
                · exact absurd c11 c4
                refine haload_n X dX8_whyNoStand_83 rfl ?_
                refine hiload X dX8_whyNoStand_84 rfl ?_
                refine hbipush (v := 6) X dX8_whyNoStand_86 rfl ?_
                refine hV_st (st' := [.int 6, .int (nI j), .ref (q 0)]) (congrArg (fun z => ([.int 6, Value.int z, .ref (q 0)] : List Value)) (hx)) ?_
                refine hcallV0 (C := RX8) (T := TX8) (N := 14) (As := [.int (nI j), .int 6]) (rest := []) (st' := [.int (bI (E 0 (8 + 10 * j + 4) = 6))]) (w := mW G q E) X (q0 := 0) (kX8_isHow l G q E j 6 (by first | assumption | omega | simp [fs_at, *])) gX8_whyNoStand_X8_isHow rfl (n := 2) (by decide +kernel) (by decide) rfl rfl rfl rfl (Nat.le_of_ble_eq_true rfl) dX8_whyNoStand_88 rfl rfl (by decide) rfl ?_
                refine hif_eqB (tgt := 99) X dX8_whyNoStand_91 (by decide) (fun c12 => ?_) (fun c12 => ?_)
                · refine hiconst (v := 0) X dX8_whyNoStand_99 rfl ?_
                  refine hiret X dX8_whyNoStand_100 ⟨congrArg (fun z => some (Value.int z)) (?_ : 0 = whyS E w1 w2 w3 w4), ?_⟩
                  · first | (simp [whyS, c1, c2, c3, c4, c8, c9, c10, c12]; done) | (simp [whyS, hx, nI_clamp (show j < 2 ^ 31 by omega), c1, c2, c3, c4, c8, c9, c10, c12]; done) | (subst hx; simp [whyS, nI_clamp (show j < 2 ^ 31 by omega), c1, c2, c3, c4, c8, c9, c10, c12]; done)
                  rfl
                · refine hbipush (v := (-5)) X dX8_whyNoStand_94 rfl ?_
                  refine hgoto (tgt := 100) X dX8_whyNoStand_96 (by decide) ?_
                  refine hiret X dX8_whyNoStand_100 ⟨congrArg (fun z => some (Value.int z)) (?_ : (-5) = whyS E w1 w2 w3 w4), ?_⟩
                  · first | (simp [whyS, c1, c2, c3, c4, c8, c9, c10, c12]; done) | (simp [whyS, hx, nI_clamp (show j < 2 ^ 31 by omega), c1, c2, c3, c4, c8, c9, c10, c12]; done) | (subst hx; simp [whyS, nI_clamp (show j < 2 ^ 31 by omega), c1, c2, c3, c4, c8, c9, c10, c12]; done)
                  rfl
            · refine hbipush (v := (-4)) X dX8_whyNoStand_62 rfl ?_
              refine hiret X dX8_whyNoStand_64 ⟨congrArg (fun z => some (Value.int z)) (?_ : (-4) = whyS E w1 w2 w3 w4), ?_⟩
              · unfold whyS
                rw [if_neg (by simp [c1, c2, c3]), if_neg (fun q => q.2 c8), if_pos c9]
              rfl
          · refine hiconst (v := (-1)) X dX8_whyNoStand_49 rfl ?_
            refine hiret X dX8_whyNoStand_50 ⟨congrArg (fun z => some (Value.int z)) (?_ : (-1) = whyS E w1 w2 w3 w4), ?_⟩
            · first | (simp [whyS, c1, c2, c3, c4, c8]; done) | (simp [whyS, hx, nI_clamp (show j < 2 ^ 31 by omega), c1, c2, c3, c4, c8]; done) | (subst hx; simp [whyS, nI_clamp (show j < 2 ^ 31 by omega), c1, c2, c3, c4, c8]; done)
            rfl
      · refine hbipush (v := (-2)) X dX8_whyNoStand_30 rfl ?_
        refine hiret X dX8_whyNoStand_32 ⟨congrArg (fun z => some (Value.int z)) (?_ : (-2) = whyS E w1 w2 w3 w4), ?_⟩
        · first | (simp [whyS, c1, c2, c3]; done) | (simp [whyS, hx, nI_clamp (show j < 2 ^ 31 by omega), c1, c2, c3]; done) | (subst hx; simp [whyS, nI_clamp (show j < 2 ^ 31 by omega), c1, c2, c3]; done)
        rfl

set_option maxHeartbeats 4000000 in
set_option maxRecDepth 100000 in
theorem kX8_comes (l : Launch) (G : hG) (q : Nat → Nat) (E : hF) (n c : Nat) (h : mOk n c E) (hn : n < 20) (w1 w2 w3 w4 : Int32) : hM l G yX8_comes wsX8_comes ({ frames := 2, cells := 0, slots := 0, locals := 63 }) (mW G q E) [.ref (q 0), .int w1, .int w2, .int w3, .int w4] (hR (some (.int (nI n))) (mW G q (cmsE E n w1 w2 w3 w4))) := by
  refine hM_of (cc := cX8_comes) (maxL := 6) (ret := (some .int)) (by decide) rfl (Nat.le_of_ble_eq_true rfl) ?_
  intro pp ee ss mm aa bb me cd X hin
  have iX8 : ∀ w ∈ wsX80, w ∈ wsX8_comes := by decide +kernel
  refine haload_n X dX8_comes_0 rfl ?_
  refine hget1 X (T := TX8) (N := 14) iX8 0 rfl rfl 0 (by decide) (by decide +kernel) rfl dX8_comes_1 ?_
  refine hiconst (v := 4) X dX8_comes_4 rfl ?_
  refine hiald (n := 250) (f := E 0) X 1 rfl 4 rfl (by omega) (by decide) dX8_comes_5 ?_
  refine hV_st (st' := [.int (nI n)]) (congrArg (fun z => Value.int z :: []) (h.h4)) ?_
  refine histore (lv' := [(5, .int (nI n)), (0, .ref (q 0)), (1, .int w1), (2, .int w2), (3, .int w3), (4, .int w4)]) X dX8_comes_6 (by decide) rfl ?_
  refine haload_n X dX8_comes_8 rfl ?_
  refine hiload X dX8_comes_9 rfl ?_
  refine hiconst (v := 0) X dX8_comes_11 rfl ?_
  refine hiload_n X dX8_comes_12 rfl ?_
  refine hcallV0 (C := RX8) (T := TX8) (N := 14) (As := [.int (nI n), .int (nI 0), .int w1]) (rest := []) (st' := []) (w := mW G q (fs E 0 (8 + 10 * n + 0) w1)) X (q0 := 0) (kX8_setPart l G q E n 0 w1 (by first | assumption | omega | simp [fs_at, *]) (by first | assumption | omega | simp [fs_at, *])) gX8_comes_X8_setPart rfl (n := 3) (by decide +kernel) (by decide) rfl rfl rfl rfl (Nat.le_of_ble_eq_true rfl) dX8_comes_13 rfl rfl (by decide) rfl ?_
  refine haload_n X dX8_comes_16 rfl ?_
  refine hiload X dX8_comes_17 rfl ?_
  refine hiconst (v := 1) X dX8_comes_19 rfl ?_
  refine hiload_n X dX8_comes_20 rfl ?_
  refine hcallV0 (C := RX8) (T := TX8) (N := 14) (As := [.int (nI n), .int (nI 1), .int w2]) (rest := []) (st' := []) (w := mW G q (fs (fs E 0 (8 + 10 * n + 0) w1) 0 (8 + 10 * n + 1) w2)) X (q0 := 0) (kX8_setPart l G q (fs E 0 (8 + 10 * n + 0) w1) n 1 w2 (by first | assumption | omega | simp [fs_at, *]) (by first | assumption | omega | simp [fs_at, *])) gX8_comes_X8_setPart rfl (n := 3) (by decide +kernel) (by decide) rfl rfl rfl rfl (Nat.le_of_ble_eq_true rfl) dX8_comes_21 rfl rfl (by decide) rfl ?_
  refine haload_n X dX8_comes_24 rfl ?_
  refine hiload X dX8_comes_25 rfl ?_
  refine hiconst (v := 2) X dX8_comes_27 rfl ?_
  refine hiload_n X dX8_comes_28 rfl ?_
  refine hcallV0 (C := RX8) (T := TX8) (N := 14) (As := [.int (nI n), .int (nI 2), .int w3]) (rest := []) (st' := []) (w := mW G q (fs (fs (fs E 0 (8 + 10 * n + 0) w1) 0 (8 + 10 * n + 1) w2) 0 (8 + 10 * n + 2) w3)) X (q0 := 0) (kX8_setPart l G q (fs (fs E 0 (8 + 10 * n + 0) w1) 0 (8 + 10 * n + 1) w2) n 2 w3 (by first | assumption | omega | simp [fs_at, *]) (by first | assumption | omega | simp [fs_at, *])) gX8_comes_X8_setPart rfl (n := 3) (by decide +kernel) (by decide) rfl rfl rfl rfl (Nat.le_of_ble_eq_true rfl) dX8_comes_29 rfl rfl (by decide) rfl ?_
  refine haload_n X dX8_comes_32 rfl ?_
  refine hiload X dX8_comes_33 rfl ?_
  refine hiconst (v := 3) X dX8_comes_35 rfl ?_
  refine hiload X dX8_comes_36 rfl ?_
  refine hcallV0 (C := RX8) (T := TX8) (N := 14) (As := [.int (nI n), .int (nI 3), .int w4]) (rest := []) (st' := []) (w := mW G q (fs (fs (fs (fs E 0 (8 + 10 * n + 0) w1) 0 (8 + 10 * n + 1) w2) 0 (8 + 10 * n + 2) w3) 0 (8 + 10 * n + 3) w4)) X (q0 := 0) (kX8_setPart l G q (fs (fs (fs E 0 (8 + 10 * n + 0) w1) 0 (8 + 10 * n + 1) w2) 0 (8 + 10 * n + 2) w3) n 3 w4 (by first | assumption | omega | simp [fs_at, *]) (by first | assumption | omega | simp [fs_at, *])) gX8_comes_X8_setPart rfl (n := 3) (by decide +kernel) (by decide) rfl rfl rfl rfl (Nat.le_of_ble_eq_true rfl) dX8_comes_38 rfl rfl (by decide) rfl ?_
  refine haload_n X dX8_comes_41 rfl ?_
  refine hiload X dX8_comes_42 rfl ?_
  refine hiconst (v := 4) X dX8_comes_44 rfl ?_
  refine hiconst (v := 0) X dX8_comes_45 rfl ?_
  refine hcallV0 (C := RX8) (T := TX8) (N := 14) (As := [.int (nI n), .int (nI 4), .int 0]) (rest := []) (st' := []) (w := mW G q (fs (fs (fs (fs (fs E 0 (8 + 10 * n + 0) w1) 0 (8 + 10 * n + 1) w2) 0 (8 + 10 * n + 2) w3) 0 (8 + 10 * n + 3) w4) 0 (8 + 10 * n + 4) 0)) X (q0 := 0) (kX8_setPart l G q (fs (fs (fs (fs E 0 (8 + 10 * n + 0) w1) 0 (8 + 10 * n + 1) w2) 0 (8 + 10 * n + 2) w3) 0 (8 + 10 * n + 3) w4) n 4 0 (by first | assumption | omega | simp [fs_at, *]) (by first | assumption | omega | simp [fs_at, *])) gX8_comes_X8_setPart rfl (n := 3) (by decide +kernel) (by decide) rfl rfl rfl rfl (Nat.le_of_ble_eq_true rfl) dX8_comes_46 rfl rfl (by decide) rfl ?_
  refine haload_n X dX8_comes_49 rfl ?_
  refine hiload X dX8_comes_50 rfl ?_
  refine hiconst (v := 5) X dX8_comes_52 rfl ?_
  refine hiload_n X dX8_comes_53 rfl ?_
  refine hcallV0 (C := RX8) (T := TX8) (N := 14) (As := [.int (nI n), .int (nI 5), .int w1]) (rest := []) (st' := []) (w := mW G q (fs (fs (fs (fs (fs (fs E 0 (8 + 10 * n + 0) w1) 0 (8 + 10 * n + 1) w2) 0 (8 + 10 * n + 2) w3) 0 (8 + 10 * n + 3) w4) 0 (8 + 10 * n + 4) 0) 0 (8 + 10 * n + 5) w1)) X (q0 := 0) (kX8_setPart l G q (fs (fs (fs (fs (fs E 0 (8 + 10 * n + 0) w1) 0 (8 + 10 * n + 1) w2) 0 (8 + 10 * n + 2) w3) 0 (8 + 10 * n + 3) w4) 0 (8 + 10 * n + 4) 0) n 5 w1 (by first | assumption | omega | simp [fs_at, *]) (by first | assumption | omega | simp [fs_at, *])) gX8_comes_X8_setPart rfl (n := 3) (by decide +kernel) (by decide) rfl rfl rfl rfl (Nat.le_of_ble_eq_true rfl) dX8_comes_54 rfl rfl (by decide) rfl ?_
  refine haload_n X dX8_comes_57 rfl ?_
  refine hiload X dX8_comes_58 rfl ?_
  refine hbipush (v := 6) X dX8_comes_60 rfl ?_
  refine hbipush (v := (-6)) X dX8_comes_62 rfl ?_
  refine hcallV0 (C := RX8) (T := TX8) (N := 14) (As := [.int (nI n), .int (nI 6), .int (-6)]) (rest := []) (st' := []) (w := mW G q (fs (fs (fs (fs (fs (fs (fs E 0 (8 + 10 * n + 0) w1) 0 (8 + 10 * n + 1) w2) 0 (8 + 10 * n + 2) w3) 0 (8 + 10 * n + 3) w4) 0 (8 + 10 * n + 4) 0) 0 (8 + 10 * n + 5) w1) 0 (8 + 10 * n + 6) (-6))) X (q0 := 0) (kX8_setPart l G q (fs (fs (fs (fs (fs (fs E 0 (8 + 10 * n + 0) w1) 0 (8 + 10 * n + 1) w2) 0 (8 + 10 * n + 2) w3) 0 (8 + 10 * n + 3) w4) 0 (8 + 10 * n + 4) 0) 0 (8 + 10 * n + 5) w1) n 6 (-6) (by first | assumption | omega | simp [fs_at, *]) (by first | assumption | omega | simp [fs_at, *])) gX8_comes_X8_setPart rfl (n := 3) (by decide +kernel) (by decide) rfl rfl rfl rfl (Nat.le_of_ble_eq_true rfl) dX8_comes_64 rfl rfl (by decide) rfl ?_
  refine haload_n X dX8_comes_67 rfl ?_
  refine hiload X dX8_comes_68 rfl ?_
  refine hbipush (v := 7) X dX8_comes_70 rfl ?_
  refine hbipush (v := (-6)) X dX8_comes_72 rfl ?_
  refine hcallV0 (C := RX8) (T := TX8) (N := 14) (As := [.int (nI n), .int (nI 7), .int (-6)]) (rest := []) (st' := []) (w := mW G q (fs (fs (fs (fs (fs (fs (fs (fs E 0 (8 + 10 * n + 0) w1) 0 (8 + 10 * n + 1) w2) 0 (8 + 10 * n + 2) w3) 0 (8 + 10 * n + 3) w4) 0 (8 + 10 * n + 4) 0) 0 (8 + 10 * n + 5) w1) 0 (8 + 10 * n + 6) (-6)) 0 (8 + 10 * n + 7) (-6))) X (q0 := 0) (kX8_setPart l G q (fs (fs (fs (fs (fs (fs (fs E 0 (8 + 10 * n + 0) w1) 0 (8 + 10 * n + 1) w2) 0 (8 + 10 * n + 2) w3) 0 (8 + 10 * n + 3) w4) 0 (8 + 10 * n + 4) 0) 0 (8 + 10 * n + 5) w1) 0 (8 + 10 * n + 6) (-6)) n 7 (-6) (by first | assumption | omega | simp [fs_at, *]) (by first | assumption | omega | simp [fs_at, *])) gX8_comes_X8_setPart rfl (n := 3) (by decide +kernel) (by decide) rfl rfl rfl rfl (Nat.le_of_ble_eq_true rfl) dX8_comes_74 rfl rfl (by decide) rfl ?_
  refine haload_n X dX8_comes_77 rfl ?_
  refine hiload X dX8_comes_78 rfl ?_
  refine hbipush (v := 8) X dX8_comes_80 rfl ?_
  refine hiconst (v := 0) X dX8_comes_82 rfl ?_
  refine hcallV0 (C := RX8) (T := TX8) (N := 14) (As := [.int (nI n), .int (nI 8), .int 0]) (rest := []) (st' := []) (w := mW G q (fs (fs (fs (fs (fs (fs (fs (fs (fs E 0 (8 + 10 * n + 0) w1) 0 (8 + 10 * n + 1) w2) 0 (8 + 10 * n + 2) w3) 0 (8 + 10 * n + 3) w4) 0 (8 + 10 * n + 4) 0) 0 (8 + 10 * n + 5) w1) 0 (8 + 10 * n + 6) (-6)) 0 (8 + 10 * n + 7) (-6)) 0 (8 + 10 * n + 8) 0)) X (q0 := 0) (kX8_setPart l G q (fs (fs (fs (fs (fs (fs (fs (fs E 0 (8 + 10 * n + 0) w1) 0 (8 + 10 * n + 1) w2) 0 (8 + 10 * n + 2) w3) 0 (8 + 10 * n + 3) w4) 0 (8 + 10 * n + 4) 0) 0 (8 + 10 * n + 5) w1) 0 (8 + 10 * n + 6) (-6)) 0 (8 + 10 * n + 7) (-6)) n 8 0 (by first | assumption | omega | simp [fs_at, *]) (by first | assumption | omega | simp [fs_at, *])) gX8_comes_X8_setPart rfl (n := 3) (by decide +kernel) (by decide) rfl rfl rfl rfl (Nat.le_of_ble_eq_true rfl) dX8_comes_83 rfl rfl (by decide) rfl ?_
  refine haload_n X dX8_comes_86 rfl ?_
  refine hiload X dX8_comes_87 rfl ?_
  refine hbipush (v := 9) X dX8_comes_89 rfl ?_
  refine hiconst (v := 0) X dX8_comes_91 rfl ?_
  refine hcallV0 (C := RX8) (T := TX8) (N := 14) (As := [.int (nI n), .int (nI 9), .int 0]) (rest := []) (st' := []) (w := mW G q (fs (fs (fs (fs (fs (fs (fs (fs (fs (fs E 0 (8 + 10 * n + 0) w1) 0 (8 + 10 * n + 1) w2) 0 (8 + 10 * n + 2) w3) 0 (8 + 10 * n + 3) w4) 0 (8 + 10 * n + 4) 0) 0 (8 + 10 * n + 5) w1) 0 (8 + 10 * n + 6) (-6)) 0 (8 + 10 * n + 7) (-6)) 0 (8 + 10 * n + 8) 0) 0 (8 + 10 * n + 9) 0)) X (q0 := 0) (kX8_setPart l G q (fs (fs (fs (fs (fs (fs (fs (fs (fs E 0 (8 + 10 * n + 0) w1) 0 (8 + 10 * n + 1) w2) 0 (8 + 10 * n + 2) w3) 0 (8 + 10 * n + 3) w4) 0 (8 + 10 * n + 4) 0) 0 (8 + 10 * n + 5) w1) 0 (8 + 10 * n + 6) (-6)) 0 (8 + 10 * n + 7) (-6)) 0 (8 + 10 * n + 8) 0) n 9 0 (by first | assumption | omega | simp [fs_at, *]) (by first | assumption | omega | simp [fs_at, *])) gX8_comes_X8_setPart rfl (n := 3) (by decide +kernel) (by decide) rfl rfl rfl rfl (Nat.le_of_ble_eq_true rfl) dX8_comes_92 rfl rfl (by decide) rfl ?_
  refine haload_n X dX8_comes_95 rfl ?_
  refine hget1 X (T := TX8) (N := 14) iX8 0 rfl rfl 0 (by decide) (by decide +kernel) rfl dX8_comes_96 ?_
  refine hiconst (v := 4) X dX8_comes_99 rfl ?_
  refine hdup2 X dX8_comes_100 rfl rfl ?_
  refine hiald (n := 250) (f := (fs (fs (fs (fs (fs (fs (fs (fs (fs (fs E 0 (8 + 10 * n + 0) w1) 0 (8 + 10 * n + 1) w2) 0 (8 + 10 * n + 2) w3) 0 (8 + 10 * n + 3) w4) 0 (8 + 10 * n + 4) 0) 0 (8 + 10 * n + 5) w1) 0 (8 + 10 * n + 6) (-6)) 0 (8 + 10 * n + 7) (-6)) 0 (8 + 10 * n + 8) 0) 0 (8 + 10 * n + 9) 0) 0) X 1 rfl 4 rfl (by omega) (by decide) dX8_comes_101 ?_
  have r1 : ((fs (fs (fs (fs (fs (fs (fs (fs (fs (fs E 0 (8 + 10 * n + 0) w1) 0 (8 + 10 * n + 1) w2) 0 (8 + 10 * n + 2) w3) 0 (8 + 10 * n + 3) w4) 0 (8 + 10 * n + 4) 0) 0 (8 + 10 * n + 5) w1) 0 (8 + 10 * n + 6) (-6)) 0 (8 + 10 * n + 7) (-6)) 0 (8 + 10 * n + 8) 0) 0 (8 + 10 * n + 9) 0) 0 4 : Int32) = E 0 4 := by rw [fs_at, if_neg (by omega), fs_at, if_neg (by omega), fs_at, if_neg (by omega), fs_at, if_neg (by omega), fs_at, if_neg (by omega), fs_at, if_neg (by omega), fs_at, if_neg (by omega), fs_at, if_neg (by omega), fs_at, if_neg (by omega), fs_at, if_neg (by omega)]
  refine hV_st (st' := [.int (E 0 4), .int 4, .ref (q 1)]) (congrArg (fun z => Value.int z :: [.int 4, .ref (q 1)]) r1) ?_
  refine hV_st (st' := [.int (nI n), .int 4, .ref (q 1)]) (congrArg (fun z => Value.int z :: [.int 4, .ref (q 1)]) (h.h4)) ?_
  refine hiconst (v := 1) X dX8_comes_102 rfl ?_
  refine hiadd X dX8_comes_103 ?_
  refine hiast (n := 250) (f := (fs (fs (fs (fs (fs (fs (fs (fs (fs (fs E 0 (8 + 10 * n + 0) w1) 0 (8 + 10 * n + 1) w2) 0 (8 + 10 * n + 2) w3) 0 (8 + 10 * n + 3) w4) 0 (8 + 10 * n + 4) 0) 0 (8 + 10 * n + 5) w1) 0 (8 + 10 * n + 6) (-6)) 0 (8 + 10 * n + 7) (-6)) 0 (8 + 10 * n + 8) 0) 0 (8 + 10 * n + 9) 0) 0) X 1 rfl 4 rfl (by omega) (by decide) dX8_comes_104 (ws' := mW G q (fs (fs (fs (fs (fs (fs (fs (fs (fs (fs (fs E 0 (8 + 10 * n + 0) w1) 0 (8 + 10 * n + 1) w2) 0 (8 + 10 * n + 2) w3) 0 (8 + 10 * n + 3) w4) 0 (8 + 10 * n + 4) 0) 0 (8 + 10 * n + 5) w1) 0 (8 + 10 * n + 6) (-6)) 0 (8 + 10 * n + 7) (-6)) 0 (8 + 10 * n + 8) 0) 0 (8 + 10 * n + 9) 0) 0 4 ((nI n) + 1))) (mWs0 G q _ _ _) ?_
  refine hiload X dX8_comes_105 rfl ?_
  refine hiret X dX8_comes_107 ⟨rfl, ?_⟩
  refine congrArg (mW G q) (?_ : (fs (fs (fs (fs (fs (fs (fs (fs (fs (fs (fs E 0 (8 + 10 * n + 0) w1) 0 (8 + 10 * n + 1) w2) 0 (8 + 10 * n + 2) w3) 0 (8 + 10 * n + 3) w4) 0 (8 + 10 * n + 4) 0) 0 (8 + 10 * n + 5) w1) 0 (8 + 10 * n + 6) (-6)) 0 (8 + 10 * n + 7) (-6)) 0 (8 + 10 * n + 8) 0) 0 (8 + 10 * n + 9) 0) 0 4 ((nI n) + 1) : hF) = cmsE E n w1 w2 w3 w4)
  simp [cmsE]

