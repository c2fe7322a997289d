set_option maxHeartbeats 4000000 in
set_option maxRecDepth 100000 in
theorem kX8_goesOn (l : Launch) (G : hG) (q : Nat → Nat) (E : hF) (n c : Nat) (h : mOk n c E) : hM l G yX8_goesOn wsX8_goesOn ({ frames := 7, cells := 0, slots := 0, locals := 176 }) (mW G q E) [.ref (q 0)] (hR (some (.int (goR n c E))) (mW G q (fr E 0 (E 1)))) := by
  refine hM_of (cc := cX8_goesOn) (maxL := 2) (ret := (some .int)) (by decide) rfl (Nat.le_of_ble_eq_true rfl) ?_
  intro pp ee ss mm aa bb me cd X hin
  have iX8 : ∀ w ∈ wsX80, w ∈ wsX8_goesOn := by decide +kernel
  have L : ∀ (d : Nat) (k : Nat) (E' : hF), (k ≤ 1001) → (mOk n c E') → (sr0 E E') → (goN n c (1001 - k) k E' = goN n c 1001 0 E) → (1001 - k) < d → hV pp l ee ({ frames := 7, cells := 0, slots := 0, locals := 176 }) ss mm aa bb me cd G (va_A (mW G q E) ss.heap.size) 2 0 0 (MQ bb (hQc G (mW G q E) ss.heap.size (hR (some (.int (goR n c E))) (mW G q (fr E 0 (E 1))))) aa ss 0 0 (va_A (mW G q E) ss.heap.size)) (mW G q E') 2 [(1, .int (nI k)), (0, .ref (q 0))] [] := by
    intro d
    induction d with
    | zero =>
      intro k E' hk hI hrow hE hd0
      exact absurd hd0 (Nat.not_lt_zero _)
    | succ d ih =>
      intro k E' hk hI hrow hE hd0
      refine haload_n X dX8_goesOn_2 rfl ?_
      refine hcallV0 (C := RX8) (T := TX8) (N := 14) (As := []) (rest := []) (st' := [.int (bI (adP n E'))]) (w := mW G q E') X (q0 := 0) (kX8_isAllDone l G q E' n c (hI)) gX8_goesOn_X8_isAllDone rfl (n := 0) (by decide +kernel) (by decide) rfl rfl rfl rfl (Nat.le_of_ble_eq_true rfl) dX8_goesOn_3 rfl rfl (by decide) rfl ?_
      refine hif_neB (tgt := 27) X dX8_goesOn_6 (by decide) (fun c1 => ?_) (fun c1 => ?_)
      · have eg : goN n c 1001 0 E = k := hE.symm.trans (goN_done c1 _ _)
        refine haload_n X dX8_goesOn_27 rfl ?_
        refine hget1 X (T := TX8) (N := 14) iX8 0 rfl rfl 1 (by decide) (by decide +kernel) rfl dX8_goesOn_28 ?_
        refine hiconst (v := 0) X dX8_goesOn_31 rfl ?_
        refine haload_n X dX8_goesOn_32 rfl ?_
        refine hget1 X (T := TX8) (N := 14) iX8 0 rfl rfl 0 (by decide) (by decide +kernel) rfl dX8_goesOn_33 ?_
        refine hiconst (v := 0) X dX8_goesOn_36 rfl ?_
        refine hV_perm (ws' := [(q 2, .inl (G.2.1 0, 250, .inl (E' 1))), (q 1, .inl (G.2.1 0, 250, .inl (E' 0)))] ++ ((mW G q E').eraseIdx 2).eraseIdx 1) (pk2 (mW G q E') 2 1 (Nat.le_of_ble_eq_true rfl) (Nat.le_of_ble_eq_true rfl)) ?_
        refine hcallSr (wsC := [(q 2, .inl (G.2.1 0, 250, .inl (E' 1))), (q 1, .inl (G.2.1 0, 250, .inl (E' 0)))]) (wsR := ((mW G q E').eraseIdx 2).eraseIdx 1) (As := [.ref (q 2), .int (nI 0), .ref (q 1), .int (nI 0)]) (rest := []) (st' := []) (w := [(q 2, .inl (G.2.1 0, 250, .inl (E' 1))), (q 1, .inl (G.2.1 0, 250, .inl (mvN 250 (E' 1) 0 (E' 0) 0)))]) X (kX8_moves l G (q 2) (q 1) 250 250 0 0 (E' 1) (E' 0) (by omega) (by omega) (by decide) (by decide)) gX8_goesOn_X8_moves rfl (n := 4) (by decide +kernel) (by decide) rfl rfl (Nat.le_of_ble_eq_true rfl) dX8_goesOn_37 rfl rfl (by decide) rfl ?_
        refine hV_perm (ws' := mW G q (fr E' 0 (mvN 250 (E' 1) 0 (E' 0) 0))) (pk2 (mW G q (fr E' 0 (mvN 250 (E' 1) 0 (E' 0) 0))) 2 1 (Nat.le_of_ble_eq_true rfl) (Nat.le_of_ble_eq_true rfl)).symm ?_
        refine hV_mW (F := fr E' 0 (mvN 250 (E' 1) 0 (E' 0) 0)) (F' := fr E 0 (E 1)) (fun i hi => (congrFun (fr_same _ _ _) i).trans ((mv_all hi).trans ((congrFun (hrow 1 (by decide)) i).trans (congrFun (fr_same E 0 _) i).symm))) (fun i hi => (congrFun (fr_ne _ _ (by decide)) i).trans ((congrFun (hrow 1 (by decide)) i).trans (congrFun (fr_ne E _ (by decide)) i).symm)) (fun i hi => (congrFun (fr_ne _ _ (by decide)) i).trans ((congrFun (hrow 2 (by decide)) i).trans (congrFun (fr_ne E _ (by decide)) i).symm)) (fun i hi => (congrFun (fr_ne _ _ (by decide)) i).trans ((congrFun (hrow 3 (by decide)) i).trans (congrFun (fr_ne E _ (by decide)) i).symm)) (fun i hi => (congrFun (fr_ne _ _ (by decide)) i).trans ((congrFun (hrow 4 (by decide)) i).trans (congrFun (fr_ne E _ (by decide)) i).symm)) (fun i hi => (congrFun (fr_ne _ _ (by decide)) i).trans ((congrFun (hrow 5 (by decide)) i).trans (congrFun (fr_ne E _ (by decide)) i).symm)) (fun i hi => (congrFun (fr_ne _ _ (by decide)) i).trans ((congrFun (hrow 6 (by decide)) i).trans (congrFun (fr_ne E _ (by decide)) i).symm)) ?_
        refine hiload_n X dX8_goesOn_40 rfl ?_
        refine hsipush (v := 1000) X dX8_goesOn_41 rfl ?_
        refine hicmp_le (tgt := 52) X dX8_goesOn_44 (by decide) (fun c2 => ?_) (fun c2 => ?_)
        · refine hiload_n X dX8_goesOn_52 rfl ?_
          refine hiret X dX8_goesOn_53 ⟨congrArg (fun z => some (Value.int z)) (?_ : (nI k) = goR n c E), ?_⟩
          · have q9 : k ≤ 1000 := (nI_leI (a := k) (b := 1000) (by omega) (by decide)).mp c2
            simp [goR, eg, q9]
          rfl
        · refine hbipush (v := (-6)) X dX8_goesOn_47 rfl ?_
          refine hgoto (tgt := 53) X dX8_goesOn_49 (by decide) ?_
          refine hiret X dX8_goesOn_53 ⟨congrArg (fun z => some (Value.int z)) (?_ : (-6) = goR n c E), ?_⟩
          · have q9 : ¬ k ≤ 1000 := fun z => c2 ((nI_leI (a := k) (b := 1000) (by omega) (by decide)).mpr z)
            simp [goR, eg, q9]
          rfl
      · refine hiload_n X dX8_goesOn_9 rfl ?_
        refine hsipush (v := 1000) X dX8_goesOn_10 rfl ?_
        refine hicmp_gt (tgt := 27) X dX8_goesOn_13 (by decide) (fun c3 => ?_) (fun c3 => ?_)
        · have k9 : 1000 < k := (nI_ltI (a := 1000) (b := k) (by decide) (by omega)).mp c3
          have eg : goN n c 1001 0 E = k := by rw [← hE, show 1001 - k = 0 by omega]; rfl
          refine haload_n X dX8_goesOn_27 rfl ?_
          refine hget1 X (T := TX8) (N := 14) iX8 0 rfl rfl 1 (by decide) (by decide +kernel) rfl dX8_goesOn_28 ?_
          refine hiconst (v := 0) X dX8_goesOn_31 rfl ?_
          refine haload_n X dX8_goesOn_32 rfl ?_
          refine hget1 X (T := TX8) (N := 14) iX8 0 rfl rfl 0 (by decide) (by decide +kernel) rfl dX8_goesOn_33 ?_
          refine hiconst (v := 0) X dX8_goesOn_36 rfl ?_
          refine hV_perm (ws' := [(q 2, .inl (G.2.1 0, 250, .inl (E' 1))), (q 1, .inl (G.2.1 0, 250, .inl (E' 0)))] ++ ((mW G q E').eraseIdx 2).eraseIdx 1) (pk2 (mW G q E') 2 1 (Nat.le_of_ble_eq_true rfl) (Nat.le_of_ble_eq_true rfl)) ?_
          refine hcallSr (wsC := [(q 2, .inl (G.2.1 0, 250, .inl (E' 1))), (q 1, .inl (G.2.1 0, 250, .inl (E' 0)))]) (wsR := ((mW G q E').eraseIdx 2).eraseIdx 1) (As := [.ref (q 2), .int (nI 0), .ref (q 1), .int (nI 0)]) (rest := []) (st' := []) (w := [(q 2, .inl (G.2.1 0, 250, .inl (E' 1))), (q 1, .inl (G.2.1 0, 250, .inl (mvN 250 (E' 1) 0 (E' 0) 0)))]) X (kX8_moves l G (q 2) (q 1) 250 250 0 0 (E' 1) (E' 0) (by omega) (by omega) (by decide) (by decide)) gX8_goesOn_X8_moves rfl (n := 4) (by decide +kernel) (by decide) rfl rfl (Nat.le_of_ble_eq_true rfl) dX8_goesOn_37 rfl rfl (by decide) rfl ?_
          refine hV_perm (ws' := mW G q (fr E' 0 (mvN 250 (E' 1) 0 (E' 0) 0))) (pk2 (mW G q (fr E' 0 (mvN 250 (E' 1) 0 (E' 0) 0))) 2 1 (Nat.le_of_ble_eq_true rfl) (Nat.le_of_ble_eq_true rfl)).symm ?_
          refine hV_mW (F := fr E' 0 (mvN 250 (E' 1) 0 (E' 0) 0)) (F' := fr E 0 (E 1)) (fun i hi => (congrFun (fr_same _ _ _) i).trans ((mv_all hi).trans ((congrFun (hrow 1 (by decide)) i).trans (congrFun (fr_same E 0 _) i).symm))) (fun i hi => (congrFun (fr_ne _ _ (by decide)) i).trans ((congrFun (hrow 1 (by decide)) i).trans (congrFun (fr_ne E _ (by decide)) i).symm)) (fun i hi => (congrFun (fr_ne _ _ (by decide)) i).trans ((congrFun (hrow 2 (by decide)) i).trans (congrFun (fr_ne E _ (by decide)) i).symm)) (fun i hi => (congrFun (fr_ne _ _ (by decide)) i).trans ((congrFun (hrow 3 (by decide)) i).trans (congrFun (fr_ne E _ (by decide)) i).symm)) (fun i hi => (congrFun (fr_ne _ _ (by decide)) i).trans ((congrFun (hrow 4 (by decide)) i).trans (congrFun (fr_ne E _ (by decide)) i).symm)) (fun i hi => (congrFun (fr_ne _ _ (by decide)) i).trans ((congrFun (hrow 5 (by decide)) i).trans (congrFun (fr_ne E _ (by decide)) i).symm)) (fun i hi => (congrFun (fr_ne _ _ (by decide)) i).trans ((congrFun (hrow 6 (by decide)) i).trans (congrFun (fr_ne E _ (by decide)) i).symm)) ?_
          refine hiload_n X dX8_goesOn_40 rfl ?_
          refine hsipush (v := 1000) X dX8_goesOn_41 rfl ?_
          refine hicmp_le (tgt := 52) X dX8_goesOn_44 (by decide) (fun c4 => ?_) (fun c4 => ?_)
          · refine hiload_n X dX8_goesOn_52 rfl ?_
            refine hiret X dX8_goesOn_53 ⟨congrArg (fun z => some (Value.int z)) (?_ : (nI k) = goR n c E), ?_⟩
            · have q9 : k ≤ 1000 := (nI_leI (a := k) (b := 1000) (by omega) (by decide)).mp c4
              simp [goR, eg, q9]
            rfl
          · refine hbipush (v := (-6)) X dX8_goesOn_47 rfl ?_
            refine hgoto (tgt := 53) X dX8_goesOn_49 (by decide) ?_
            refine hiret X dX8_goesOn_53 ⟨congrArg (fun z => some (Value.int z)) (?_ : (-6) = goR n c E), ?_⟩
            · have q9 : ¬ k ≤ 1000 := fun z => c4 ((nI_leI (a := k) (b := 1000) (by omega) (by decide)).mpr z)
              simp [goR, eg, q9]
            rfl
        · have k8 : ¬ 1000 < k := fun z => c3 ((nI_ltI (a := 1000) (b := k) (by decide) (by omega)).mpr z)
          refine haload_n X dX8_goesOn_16 rfl ?_
          refine hcallV0 (C := RX8) (T := TX8) (N := 14) (As := []) (rest := []) (st' := [.int (poR n c E')]) (w := mW G q (poE n c E')) X (q0 := 0) (kX8_passesOne l G q E' n c (hI)) gX8_goesOn_X8_passesOne rfl (n := 0) (by decide +kernel) (by decide) rfl rfl rfl rfl (Nat.le_of_ble_eq_true rfl) dX8_goesOn_17 rfl rfl (by decide) rfl ?_
          refine hpop X dX8_goesOn_20 rfl ?_
          refine hiinc (v := nI (k + 1)) (lv' := [(1, .int (nI (k + 1))), (0, .ref (q 0))]) X dX8_goesOn_21 rfl (nI_1 _) (by decide) rfl ?_
          refine hgoto (tgt := 2) X dX8_goesOn_24 (by decide) ?_
          exact hV_to (ws' := mW G q (poE n c E')) (lv' := [(1, .int (nI (k + 1))), (0, .ref (q 0))]) (st' := []) rfl rfl rfl (ih (k + 1) (poE n c E') (by omega) (mpoE hI) (hrow.tr (sr_poE n c E')) ((goN_step c1 (by omega)).symm.trans hE) (by omega))
  refine hiconst (v := 0) X dX8_goesOn_0 rfl ?_
  refine histore_n (lv' := [(1, .int 0), (0, .ref (q 0))]) X dX8_goesOn_1 (by decide) rfl ?_
  exact hV_to (ws' := mW G q E) (lv' := [(1, .int 0), (0, .ref (q 0))]) (st' := []) rfl rfl rfl (L _ 0 E (Nat.zero_le _) h sr0.rfl' rfl (Nat.lt_succ_self _))

set_option maxHeartbeats 4000000 in
set_option maxRecDepth 100000 in
theorem kX8_allIn (l : Launch) (G : hG) (q : Nat → Nat) (E : hF) (n c : Nat) (h : mOk n c E) : hM l G yX8_allIn wsX8_allIn ({ frames := 8, cells := 0, slots := 0, locals := 197 }) (mW G q E) [.ref (q 0)] (hR (some (.int (goR n c (fr E 1 (E 0))))) (mW G q (fr E 1 (E 0)))) := by
  refine hM_of (cc := cX8_allIn) (maxL := 1) (ret := (some .int)) (by decide) rfl (Nat.le_of_ble_eq_true rfl) ?_
  intro pp ee ss mm aa bb me cd X hin
  have iX8 : ∀ w ∈ wsX80, w ∈ wsX8_allIn := by decide +kernel
  refine haload_n X dX8_allIn_0 rfl ?_
  refine hget1 X (T := TX8) (N := 14) iX8 0 rfl rfl 0 (by decide) (by decide +kernel) rfl dX8_allIn_1 ?_
  refine hiconst (v := 0) X dX8_allIn_4 rfl ?_
  refine haload_n X dX8_allIn_5 rfl ?_
  refine hget1 X (T := TX8) (N := 14) iX8 0 rfl rfl 1 (by decide) (by decide +kernel) rfl dX8_allIn_6 ?_
  refine hiconst (v := 0) X dX8_allIn_9 rfl ?_
  refine hV_perm (ws' := [(q 1, .inl (G.2.1 0, 250, .inl (E 0))), (q 2, .inl (G.2.1 0, 250, .inl (E 1)))] ++ ((mW G q E).eraseIdx 1).eraseIdx 1) (pk2 (mW G q E) 1 1 (Nat.le_of_ble_eq_true rfl) (Nat.le_of_ble_eq_true rfl)) ?_
  refine hcallSr (wsC := [(q 1, .inl (G.2.1 0, 250, .inl (E 0))), (q 2, .inl (G.2.1 0, 250, .inl (E 1)))]) (wsR := ((mW G q E).eraseIdx 1).eraseIdx 1) (As := [.ref (q 1), .int (nI 0), .ref (q 2), .int (nI 0)]) (rest := []) (st' := []) (w := [(q 1, .inl (G.2.1 0, 250, .inl (E 0))), (q 2, .inl (G.2.1 0, 250, .inl (mvN 250 (E 0) 0 (E 1) 0)))]) X (kX8_moves l G (q 1) (q 2) 250 250 0 0 (E 0) (E 1) (by omega) (by omega) (by decide) (by decide)) gX8_allIn_X8_moves rfl (n := 4) (by decide +kernel) (by decide) rfl rfl (Nat.le_of_ble_eq_true rfl) dX8_allIn_10 rfl rfl (by decide) rfl ?_
  refine hV_perm (ws' := mW G q (fr E 1 (mvN 250 (E 0) 0 (E 1) 0))) (pk2 (mW G q (fr E 1 (mvN 250 (E 0) 0 (E 1) 0))) 1 1 (Nat.le_of_ble_eq_true rfl) (Nat.le_of_ble_eq_true rfl)).symm ?_
  refine hV_mW (F := fr E 1 (mvN 250 (E 0) 0 (E 1) 0)) (F' := fr E 1 (E 0)) (fun i _ => congrFun (fr_ne _ _ (by decide)) i |>.trans (congrFun (fr_ne E _ (by decide)) i).symm) (fun i hi => (congrFun (fr_same _ _ _) i).trans ((mv_all hi).trans (congrFun (fr_same E 1 _) i).symm)) (fun i _ => (congrFun (fr_ne _ _ (by decide)) i).trans (congrFun (fr_ne E _ (by decide)) i).symm) (fun i _ => (congrFun (fr_ne _ _ (by decide)) i).trans (congrFun (fr_ne E _ (by decide)) i).symm) (fun i _ => (congrFun (fr_ne _ _ (by decide)) i).trans (congrFun (fr_ne E _ (by decide)) i).symm) (fun i _ => (congrFun (fr_ne _ _ (by decide)) i).trans (congrFun (fr_ne E _ (by decide)) i).symm) (fun i _ => (congrFun (fr_ne _ _ (by decide)) i).trans (congrFun (fr_ne E _ (by decide)) i).symm) ?_
  refine haload_n X dX8_allIn_13 rfl ?_
  refine hcallV0 (C := RX8) (T := TX8) (N := 14) (As := []) (rest := []) (st' := [.int (goR n c (fr E 1 (E 0)))]) (w := mW G q (fr (fr E 1 (E 0)) 0 ((fr E 1 (E 0)) 1))) X (q0 := 0) (kX8_goesOn l G q (fr E 1 (E 0)) n c (h.of0 (fr_ne _ _ (by decide)))) gX8_allIn_X8_goesOn rfl (n := 0) (by decide +kernel) (by decide) rfl rfl rfl rfl (Nat.le_of_ble_eq_true rfl) dX8_allIn_14 rfl rfl (by decide) rfl ?_
  refine hiret X dX8_allIn_17 ⟨rfl, ?_⟩
  refine congrArg (mW G q) (?_ : (fr (fr E 1 (E 0)) 0 ((fr E 1 (E 0)) 1) : hF) = fr E 1 (E 0))
  rw [fr_row1]
  exact fr_back2 E

set_option maxHeartbeats 4000000 in
set_option maxRecDepth 100000 in
theorem kX8_withCrew (l : Launch) (G : hG) (q : Nat → Nat) (E : hF) (n c : Nat) (h : mOk n c E) (x : Int32) : hM l G yX8_withCrew wsX8_withCrew ({ frames := 8, cells := 0, slots := 0, locals := 197 }) (mW G q E) [.ref (q 0), .int x] (hR (some (.int (wcR n c E x))) (mW G q (wcE E x))) := by
  refine hM_of (cc := cX8_withCrew) (maxL := 3) (ret := (some .int)) (by decide) rfl (Nat.le_of_ble_eq_true rfl) ?_
  intro pp ee ss mm aa bb me cd X hin
  have iX8 : ∀ w ∈ wsX80, w ∈ wsX8_withCrew := by decide +kernel
  refine haload_n X dX8_withCrew_0 rfl ?_
  refine hiload_n X dX8_withCrew_1 rfl ?_
  refine hiconst (v := 0) X dX8_withCrew_2 rfl ?_
  refine hcallV0 (C := RX8) (T := TX8) (N := 14) (As := [.int x, .int 0]) (rest := []) (st' := [.int (whcS E x 0)]) (w := mW G q E) X (q0 := 0) (kX8_whyNoCrew l G q E x 0) gX8_withCrew_X8_whyNoCrew rfl (n := 2) (by decide +kernel) (by decide) rfl rfl rfl rfl (Nat.le_of_ble_eq_true rfl) dX8_withCrew_3 rfl rfl (by decide) rfl ?_
  refine histore_n (lv' := [(2, .int (whcS E x 0)), (0, .ref (q 0)), (1, .int x)]) X dX8_withCrew_6 (by decide) rfl ?_
  refine hiload_n X dX8_withCrew_7 rfl ?_
  refine hif_ge (tgt := 13) X dX8_withCrew_8 (by decide) (fun c1 => ?_) (fun c1 => ?_)
  · have hc6 := whcS_n h c1
    refine haload_n X dX8_withCrew_13 rfl ?_
    refine hget1 X (T := TX8) (N := 14) iX8 0 rfl rfl 0 (by decide) (by decide +kernel) rfl dX8_withCrew_14 ?_
    refine hiconst (v := 0) X dX8_withCrew_17 rfl ?_
    refine haload_n X dX8_withCrew_18 rfl ?_
    refine hget1 X (T := TX8) (N := 14) iX8 0 rfl rfl 1 (by decide) (by decide +kernel) rfl dX8_withCrew_19 ?_
    refine hiconst (v := 0) X dX8_withCrew_22 rfl ?_
    refine hV_perm (ws' := [(q 1, .inl (G.2.1 0, 250, .inl (E 0))), (q 2, .inl (G.2.1 0, 250, .inl (E 1)))] ++ ((mW G q E).eraseIdx 1).eraseIdx 1) (pk2 (mW G q E) 1 1 (Nat.le_of_ble_eq_true rfl) (Nat.le_of_ble_eq_true rfl)) ?_
    refine hcallSr (wsC := [(q 1, .inl (G.2.1 0, 250, .inl (E 0))), (q 2, .inl (G.2.1 0, 250, .inl (E 1)))]) (wsR := ((mW G q E).eraseIdx 1).eraseIdx 1) (As := [.ref (q 1), .int (nI 0), .ref (q 2), .int (nI 0)]) (rest := []) (st' := []) (w := [(q 1, .inl (G.2.1 0, 250, .inl (E 0))), (q 2, .inl (G.2.1 0, 250, .inl (mvN 250 (E 0) 0 (E 1) 0)))]) X (kX8_moves l G (q 1) (q 2) 250 250 0 0 (E 0) (E 1) (by omega) (by omega) (by decide) (by decide)) gX8_withCrew_X8_moves rfl (n := 4) (by decide +kernel) (by decide) rfl rfl (Nat.le_of_ble_eq_true rfl) dX8_withCrew_23 rfl rfl (by decide) rfl ?_
    refine hV_perm (ws' := mW G q (fr E 1 (mvN 250 (E 0) 0 (E 1) 0))) (pk2 (mW G q (fr E 1 (mvN 250 (E 0) 0 (E 1) 0))) 1 1 (Nat.le_of_ble_eq_true rfl) (Nat.le_of_ble_eq_true rfl)).symm ?_
    refine hV_mW (F := fr E 1 (mvN 250 (E 0) 0 (E 1) 0)) (F' := fr E 1 (E 0)) (fun i _ => congrFun (fr_ne _ _ (by decide)) i |>.trans (congrFun (fr_ne E _ (by decide)) i).symm) (fun i hi => (congrFun (fr_same _ _ _) i).trans ((mv_all hi).trans (congrFun (fr_same E 1 _) i).symm)) (fun i _ => (congrFun (fr_ne _ _ (by decide)) i).trans (congrFun (fr_ne E _ (by decide)) i).symm) (fun i _ => (congrFun (fr_ne _ _ (by decide)) i).trans (congrFun (fr_ne E _ (by decide)) i).symm) (fun i _ => (congrFun (fr_ne _ _ (by decide)) i).trans (congrFun (fr_ne E _ (by decide)) i).symm) (fun i _ => (congrFun (fr_ne _ _ (by decide)) i).trans (congrFun (fr_ne E _ (by decide)) i).symm) (fun i _ => (congrFun (fr_ne _ _ (by decide)) i).trans (congrFun (fr_ne E _ (by decide)) i).symm) ?_
    refine haload_n X dX8_withCrew_26 rfl ?_
    refine hiload_n X dX8_withCrew_27 rfl ?_
    refine hiconst (v := 0) X dX8_withCrew_28 rfl ?_
    refine hcallV0 (C := RX8) (T := TX8) (N := 14) (As := [.int x, .int 0]) (rest := []) (st' := [.int (nI c)]) (w := mW G q (cmcE (fr E 1 (E 0)) c x 0)) X (q0 := 0) (kX8_comesCrew l G q (fr E 1 (E 0)) n c (h.of0 (fr_ne _ _ (by decide))) (by first | assumption | omega) x 0) gX8_withCrew_X8_comesCrew rfl (n := 2) (by decide +kernel) (by decide) rfl rfl rfl rfl (Nat.le_of_ble_eq_true rfl) dX8_withCrew_29 rfl rfl (by decide) rfl ?_
    refine hpop X dX8_withCrew_32 rfl ?_
    refine haload_n X dX8_withCrew_33 rfl ?_
    refine hcallV0 (C := RX8) (T := TX8) (N := 14) (As := []) (rest := []) (st' := [.int (goR n (c + 1) (cmcE (fr E 1 (E 0)) c x 0))]) (w := mW G q (fr (cmcE (fr E 1 (E 0)) c x 0) 0 ((cmcE (fr E 1 (E 0)) c x 0) 1))) X (q0 := 0) (kX8_goesOn l G q (cmcE (fr E 1 (E 0)) c x 0) n (c + 1) (mcmcE (h.of0 (fr_ne _ _ (by decide))) hc6 x 0)) gX8_withCrew_X8_goesOn rfl (n := 0) (by decide +kernel) (by decide) rfl rfl rfl rfl (Nat.le_of_ble_eq_true rfl) dX8_withCrew_34 rfl rfl (by decide) rfl ?_
    refine hiret X dX8_withCrew_37 ⟨congrArg (fun z => some (Value.int z)) (?_ : (goR n (c + 1) (cmcE (fr E 1 (E 0)) c x 0)) = wcR n c E x), ?_⟩
    · simp [wcR, c1]
    refine congrArg (mW G q) (?_ : (fr (cmcE (fr E 1 (E 0)) c x 0) 0 ((cmcE (fr E 1 (E 0)) c x 0) 1) : hF) = wcE E x)
    first | (simp [wcE, c1]; done) | (simp only [wcE, if_pos c1]; exact fr_back3 E c x 0)
  · refine hiload_n X dX8_withCrew_11 rfl ?_
    refine hiret X dX8_withCrew_12 ⟨congrArg (fun z => some (Value.int z)) (?_ : (whcS E x 0) = wcR n c E x), ?_⟩
    · simp [wcR, c1]
    refine congrArg (mW G q) (?_ : (E : hF) = wcE E x)
    first | (simp [wcE, c1]; done) | (simp only [wcE, if_pos c1]; exact fr_back3 E c x 0)

set_option maxHeartbeats 4000000 in
set_option maxRecDepth 100000 in
theorem kX8_allWith (l : Launch) (G : hG) (q : Nat → Nat) (E : hF) (n c : Nat) (h : mOk n c E) (x : Int32) : hM l G yX8_allWith wsX8_allWith ({ frames := 8, cells := 0, slots := 0, locals := 197 }) (mW G q E) [.ref (q 0), .int x] (hR (some (.int (awR n c E x))) (mW G q (fr E 1 (E 0)))) := by
  refine hM_of (cc := cX8_allWith) (maxL := 2) (ret := (some .int)) (by decide) rfl (Nat.le_of_ble_eq_true rfl) ?_
  intro pp ee ss mm aa bb me cd X hin
  have iX8 : ∀ w ∈ wsX80, w ∈ wsX8_allWith := by decide +kernel
  refine haload_n X dX8_allWith_0 rfl ?_
  refine hget1 X (T := TX8) (N := 14) iX8 0 rfl rfl 0 (by decide) (by decide +kernel) rfl dX8_allWith_1 ?_
  refine hiconst (v := 0) X dX8_allWith_4 rfl ?_
  refine haload_n X dX8_allWith_5 rfl ?_
  refine hget1 X (T := TX8) (N := 14) iX8 0 rfl rfl 1 (by decide) (by decide +kernel) rfl dX8_allWith_6 ?_
  refine hiconst (v := 0) X dX8_allWith_9 rfl ?_
  refine hV_perm (ws' := [(q 1, .inl (G.2.1 0, 250, .inl (E 0))), (q 2, .inl (G.2.1 0, 250, .inl (E 1)))] ++ ((mW G q E).eraseIdx 1).eraseIdx 1) (pk2 (mW G q E) 1 1 (Nat.le_of_ble_eq_true rfl) (Nat.le_of_ble_eq_true rfl)) ?_
  refine hcallSr (wsC := [(q 1, .inl (G.2.1 0, 250, .inl (E 0))), (q 2, .inl (G.2.1 0, 250, .inl (E 1)))]) (wsR := ((mW G q E).eraseIdx 1).eraseIdx 1) (As := [.ref (q 1), .int (nI 0), .ref (q 2), .int (nI 0)]) (rest := []) (st' := []) (w := [(q 1, .inl (G.2.1 0, 250, .inl (E 0))), (q 2, .inl (G.2.1 0, 250, .inl (mvN 250 (E 0) 0 (E 1) 0)))]) X (kX8_moves l G (q 1) (q 2) 250 250 0 0 (E 0) (E 1) (by omega) (by omega) (by decide) (by decide)) gX8_allWith_X8_moves rfl (n := 4) (by decide +kernel) (by decide) rfl rfl (Nat.le_of_ble_eq_true rfl) dX8_allWith_10 rfl rfl (by decide) rfl ?_
  refine hV_perm (ws' := mW G q (fr E 1 (mvN 250 (E 0) 0 (E 1) 0))) (pk2 (mW G q (fr E 1 (mvN 250 (E 0) 0 (E 1) 0))) 1 1 (Nat.le_of_ble_eq_true rfl) (Nat.le_of_ble_eq_true rfl)).symm ?_
  refine hV_mW (F := fr E 1 (mvN 250 (E 0) 0 (E 1) 0)) (F' := fr E 1 (E 0)) (fun i _ => congrFun (fr_ne _ _ (by decide)) i |>.trans (congrFun (fr_ne E _ (by decide)) i).symm) (fun i hi => (congrFun (fr_same _ _ _) i).trans ((mv_all hi).trans (congrFun (fr_same E 1 _) i).symm)) (fun i _ => (congrFun (fr_ne _ _ (by decide)) i).trans (congrFun (fr_ne E _ (by decide)) i).symm) (fun i _ => (congrFun (fr_ne _ _ (by decide)) i).trans (congrFun (fr_ne E _ (by decide)) i).symm) (fun i _ => (congrFun (fr_ne _ _ (by decide)) i).trans (congrFun (fr_ne E _ (by decide)) i).symm) (fun i _ => (congrFun (fr_ne _ _ (by decide)) i).trans (congrFun (fr_ne E _ (by decide)) i).symm) (fun i _ => (congrFun (fr_ne _ _ (by decide)) i).trans (congrFun (fr_ne E _ (by decide)) i).symm) ?_
  refine haload_n X dX8_allWith_13 rfl ?_
  refine hget1 X (T := TX8) (N := 14) iX8 0 rfl rfl 0 (by decide) (by decide +kernel) rfl dX8_allWith_14 ?_
  refine hiconst (v := 0) X dX8_allWith_17 rfl ?_
  refine hiload_n X dX8_allWith_18 rfl ?_
  refine hiast (n := 250) (f := (fr E 1 (E 0)) 0) X 1 rfl 0 rfl (by omega) (by decide) dX8_allWith_19 (ws' := mW G q (fs (fr E 1 (E 0)) 0 0 x)) (mWs0 G q _ _ _) ?_
  refine haload_n X dX8_allWith_20 rfl ?_
  refine hcallV0 (C := RX8) (T := TX8) (N := 14) (As := []) (rest := []) (st' := [.int (goR n c (fs (fr E 1 (E 0)) 0 0 x))]) (w := mW G q (fr (fs (fr E 1 (E 0)) 0 0 x) 0 ((fs (fr E 1 (E 0)) 0 0 x) 1))) X (q0 := 0) (kX8_goesOn l G q (fs (fr E 1 (E 0)) 0 0 x) n c ((h.of0 (fr_ne _ _ (by decide))).head _ (by decide) (by decide) (by decide))) gX8_allWith_X8_goesOn rfl (n := 0) (by decide +kernel) (by decide) rfl rfl rfl rfl (Nat.le_of_ble_eq_true rfl) dX8_allWith_21 rfl rfl (by decide) rfl ?_
  refine hiret X dX8_allWith_24 ⟨congrArg (fun z => some (Value.int z)) (?_ : (goR n c (fs (fr E 1 (E 0)) 0 0 x)) = awR n c E x), ?_⟩
  · rfl
  refine congrArg (mW G q) (?_ : (fr (fs (fr E 1 (E 0)) 0 0 x) 0 ((fs (fr E 1 (E 0)) 0 0 x) 1) : hF) = fr E 1 (E 0))
  rw [fs_ne _ _ _ (by decide), fr_row1]
  exact fr_back E x

set_option maxHeartbeats 4000000 in
set_option maxRecDepth 100000 in
theorem kX8_leastDock (l : Launch) (G : hG) (q : Nat → Nat) (E : hF) (n c : Nat) (h : mOk n c E) : hM l G yX8_leastDock wsX8_leastDock ({ frames := 9, cells := 0, slots := 0, locals := 218 }) (mW G q E) [.ref (q 0)] (hR (some (.int (ldE n c E))) (mW G q (fr E 1 (E 0)))) := by
  refine hM_of (cc := cX8_leastDock) (maxL := 4) (ret := (some .int)) (by decide) rfl (Nat.le_of_ble_eq_true rfl) ?_
  intro pp ee ss mm aa bb me cd X hin
  have L : ∀ (d : Nat) (k : Nat), (k ≤ 60) → (1 ≤ k) → (ldN n c E (60 - k) k = ldN n c E 59 1) → (¬ awR n c E 60 = -6) → (60 - k) < d → hV pp l ee ({ frames := 9, cells := 0, slots := 0, locals := 218 }) ss mm aa bb me cd G (va_A (mW G q E) ss.heap.size) 4 0 0 (MQ bb (hQc G (mW G q E) ss.heap.size (hR (some (.int (ldE n c E))) (mW G q (fr E 1 (E 0))))) aa ss 0 0 (va_A (mW G q E) ss.heap.size)) (mW G q (fr E 1 (E 0))) 18 [(2, .int (nI k)), (1, .int (awR n c E 60)), (0, .ref (q 0))] [] := by
    intro d
    induction d with
    | zero =>
      intro k hk hk0 hE h60 hd0
      exact absurd hd0 (Nat.not_lt_zero _)
    | succ d ih =>
      intro k hk hk0 hE h60 hd0
      refine hiload_n X dX8_leastDock_18 rfl ?_
      refine hbipush (v := 60) X dX8_leastDock_19 rfl ?_
      refine hicmp_ge (tgt := 49) X dX8_leastDock_21 (by decide) (fun c1 => ?_) (fun c1 => ?_)
      · have ek := i_ge (n := 60) hk (by decide) c1
        refine hbipush (v := 60) X dX8_leastDock_49 rfl ?_
        refine hiret X dX8_leastDock_51 ⟨congrArg (fun z => some (Value.int z)) (?_ : 60 = ldE n c E), ?_⟩
        · first | (simp [ldE, c1]; done) | (rw [ldE, if_neg h60, ← hE, ek]; rfl) | (rw [ldE, if_neg h60, ← hE, show 60 - k = (60 - (k + 1)) + 1 by omega]; simp [ldN, c1]; done)
        rfl
      · have hk1 := i_lt (n := 60) hk (by decide) c1
        refine haload_n X dX8_leastDock_24 rfl ?_
        refine hiload_n X dX8_leastDock_25 rfl ?_
        refine hcallV0 (C := RX8) (T := TX8) (N := 14) (As := [.int (nI k)]) (rest := []) (st' := [.int (awR n c (fr E 1 (E 0)) (nI k))]) (w := mW G q (fr (fr E 1 (E 0)) 1 ((fr E 1 (E 0)) 0))) X (q0 := 0) (kX8_allWith l G q (fr E 1 (E 0)) n c (h.of0 (fr_ne _ _ (by decide))) (nI k)) gX8_leastDock_X8_allWith rfl (n := 1) (by decide +kernel) (by decide) rfl rfl rfl rfl (Nat.le_of_ble_eq_true rfl) dX8_leastDock_26 rfl rfl (by decide) rfl ?_
        refine hV_to (ws' := mW G q (fr E 1 (E 0))) (st' := [.int (awR n c E (nI k))]) (congrArg (mW G q) (fr_twice E)) rfl (by rw [show awR n c (fr E 1 (E 0)) (nI k) = awR n c E (nI k) from by unfold awR; rw [fr_twice]]) ?_
        refine histore_n (lv' := [(3, .int (awR n c E (nI k))), (2, .int (nI k)), (1, .int (awR n c E 60)), (0, .ref (q 0))]) X dX8_leastDock_29 (by decide) rfl ?_
        refine hiload_n X dX8_leastDock_30 rfl ?_
        refine hbipush (v := (-6)) X dX8_leastDock_31 rfl ?_
        refine hicmp_eq (tgt := 43) X dX8_leastDock_33 (by decide) (fun c2 => ?_) (fun c2 => ?_)
        · refine hiinc (v := nI (k + 1)) (lv' := [(2, .int (nI (k + 1))), (3, .int (awR n c E (nI k))), (1, .int (awR n c E 60)), (0, .ref (q 0))]) X dX8_leastDock_43 rfl (nI_1 _) (by decide) rfl ?_
          refine hgoto (tgt := 18) X dX8_leastDock_46 (by decide) ?_
          refine hV_lv (lv' := [(2, .int (nI (k + 1))), (1, .int (awR n c E 60)), (0, .ref (q 0))]) [0, 2, 3] rfl ?_
          exact hV_to (ws' := mW G q (fr E 1 (E 0))) (lv' := [(2, .int (nI (k + 1))), (1, .int (awR n c E 60)), (0, .ref (q 0))]) (st' := []) rfl rfl rfl (ih (k + 1) (by omega) (by omega) (by rw [show 60 - k = (60 - (k + 1)) + 1 by omega] at hE; simpa [ldN, c1, c2] using hE) h60 (by omega))
        · refine hiload_n X dX8_leastDock_36 rfl ?_
          refine hiload_n X dX8_leastDock_37 rfl ?_
          refine hicmp_gt (tgt := 43) X dX8_leastDock_38 (by decide) (fun c3 => ?_) (fun c3 => ?_)
          · refine hiinc (v := nI (k + 1)) (lv' := [(2, .int (nI (k + 1))), (3, .int (awR n c E (nI k))), (1, .int (awR n c E 60)), (0, .ref (q 0))]) X dX8_leastDock_43 rfl (nI_1 _) (by decide) rfl ?_
            refine hgoto (tgt := 18) X dX8_leastDock_46 (by decide) ?_
            refine hV_lv (lv' := [(2, .int (nI (k + 1))), (1, .int (awR n c E 60)), (0, .ref (q 0))]) [0, 2, 3] rfl ?_
            exact hV_to (ws' := mW G q (fr E 1 (E 0))) (lv' := [(2, .int (nI (k + 1))), (1, .int (awR n c E 60)), (0, .ref (q 0))]) (st' := []) rfl rfl rfl (ih (k + 1) (by omega) (by omega) (by rw [show 60 - k = (60 - (k + 1)) + 1 by omega] at hE; simpa [ldN, c1, c2, c3] using hE) h60 (by omega))
          · refine hiload_n X dX8_leastDock_41 rfl ?_
            refine hiret X dX8_leastDock_42 ⟨congrArg (fun z => some (Value.int z)) (?_ : (nI k) = ldE n c E), ?_⟩
            · first | (simp [ldE, c1, c2, c3]; done) | (rw [ldE, if_neg h60, ← hE, ek]; rfl) | (rw [ldE, if_neg h60, ← hE, show 60 - k = (60 - (k + 1)) + 1 by omega]; simp [ldN, c1, c2, c3]; done)
            rfl
  refine haload_n X dX8_leastDock_0 rfl ?_
  refine hbipush (v := 60) X dX8_leastDock_1 rfl ?_
  refine hcallV0 (C := RX8) (T := TX8) (N := 14) (As := [.int 60]) (rest := []) (st' := [.int (awR n c E 60)]) (w := mW G q (fr E 1 (E 0))) X (q0 := 0) (kX8_allWith l G q E n c (h) 60) gX8_leastDock_X8_allWith rfl (n := 1) (by decide +kernel) (by decide) rfl rfl rfl rfl (Nat.le_of_ble_eq_true rfl) dX8_leastDock_3 rfl rfl (by decide) rfl ?_
  refine histore_n (lv' := [(1, .int (awR n c E 60)), (0, .ref (q 0))]) X dX8_leastDock_6 (by decide) rfl ?_
  refine hiload_n X dX8_leastDock_7 rfl ?_
  refine hbipush (v := (-6)) X dX8_leastDock_8 rfl ?_
  refine hicmp_ne (tgt := 16) X dX8_leastDock_10 (by decide) (fun c4 => ?_) (fun c4 => ?_)
  · have c60 := c4
    refine hiconst (v := 1) X dX8_leastDock_16 rfl ?_
    refine histore_n (lv' := [(2, .int 1), (1, .int (awR n c E 60)), (0, .ref (q 0))]) X dX8_leastDock_17 (by decide) rfl ?_
    exact hV_to (ws' := mW G q (fr E 1 (E 0))) (lv' := [(2, .int 1), (1, .int (awR n c E 60)), (0, .ref (q 0))]) (st' := []) rfl rfl rfl (L _ 1 (by decide) (by decide) rfl c60 (Nat.lt_succ_self _))
  · refine hbipush (v := (-6)) X dX8_leastDock_13 rfl ?_
    refine hiret X dX8_leastDock_15 ⟨congrArg (fun z => some (Value.int z)) (?_ : (-6) = ldE n c E), ?_⟩
    · first | (simp [ldE, c4]; done) | (rw [ldE, if_neg h60, ← hE, ek]; rfl) | (rw [ldE, if_neg h60, ← hE, show 60 - k = (60 - (k + 1)) + 1 by omega]; simp [ldN, c4]; done)
    rfl

