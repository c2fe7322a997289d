set_option maxHeartbeats 4000000 in
set_option maxRecDepth 100000 in
theorem kX1_crewsTakeStands (l : Launch) (G : hG) (h : Nat → Nat) (F : hF) (n c : Nat) (hn : n ≤ 20) (hc : c ≤ 6) : hM l G yX1_crewsTakeStands wsX1_crewsTakeStands ({ frames := 4, cells := 0, slots := 0, locals := 104 }) (haW G h n c F) [.ref (h 0)] (hR none (haW G h n c (ctN n c 0 F))) := by
  refine hM_of (cc := cX1_crewsTakeStands) (maxL := 3) (ret := none) (by decide) rfl (Nat.le_of_ble_eq_true rfl) ?_
  intro pp ee ss mm aa bb me cd X hin
  have iX0 : ∀ w ∈ wsX00, w ∈ wsX1_crewsTakeStands := by decide +kernel
  have iX1 : ∀ w ∈ wsX10, w ∈ wsX1_crewsTakeStands := by decide +kernel
  have iX6 : ∀ w ∈ wsX60, w ∈ wsX1_crewsTakeStands := by decide +kernel
  have L : ∀ (d : Nat) (k : Nat) (F' : hF), (k ≤ c) → (ctN n (c - k) k F' = ctN n c 0 F) → (c - k) < d → hV pp l ee ({ frames := 4, cells := 0, slots := 0, locals := 104 }) ss mm aa bb me cd G (va_A (haW G h n c F) ss.heap.size) 3 0 0 (MQ bb (hQc G (haW G h n c F) ss.heap.size (hR none (haW G h n c (ctN n c 0 F)))) aa ss 0 0 (va_A (haW G h n c F) ss.heap.size)) (haW G h n c F') 2 [(1, .int (nI k)), (0, .ref (h 0))] [] := by
    intro d
    induction d with
    | zero =>
      intro k F' hk hE hd0
      exact absurd hd0 (Nat.not_lt_zero _)
    | succ d ih =>
      intro k F' hk hE hd0
      refine hiload_n X dX1_crewsTakeStands_2 rfl ?_
      refine haload_n X dX1_crewsTakeStands_3 rfl ?_
      refine hget1 X (T := TX1) (N := 7) iX1 0 rfl rfl 3 (by decide) (by decide +kernel) rfl dX1_crewsTakeStands_4 ?_
      refine hgetN X (T := TX0) (N := 7) iX0 14 rfl rfl 0 (by decide) (by decide +kernel) rfl dX1_crewsTakeStands_7 ?_
      refine hicmp_ge (tgt := 118) X dX1_crewsTakeStands_10 (by decide) (fun c1 => ?_) (fun c1 => ?_)
      · have ek := i_ge hk (by omega) c1
        refine hvret X dX1_crewsTakeStands_118 ⟨rfl, ?_⟩
        refine congrArg (haW G h n c) (?_ : (F' : hF) = ctN n c 0 F)
        rw [← hE, ek, Nat.sub_self]
        first | done | rfl
      · have hk1 := i_lt hk (by omega) c1
        refine haload_n X dX1_crewsTakeStands_13 rfl ?_
        refine hget1 X (T := TX1) (N := 7) iX1 0 rfl rfl 3 (by decide) (by decide +kernel) rfl dX1_crewsTakeStands_14 ?_
        refine hgetN X (T := TX0) (N := 7) iX0 14 rfl rfl 3 (by decide) (by decide +kernel) rfl dX1_crewsTakeStands_17 ?_
        refine hiload_n X dX1_crewsTakeStands_20 rfl ?_
        refine hiald (n := 6) (f := F' 12) X 17 rfl k rfl (by omega) (by decide) dX1_crewsTakeStands_21 ?_
        refine hbipush (v := (-6)) X dX1_crewsTakeStands_22 rfl ?_
        refine hicmp_eq (tgt := 30) X dX1_crewsTakeStands_24 (by decide) (fun c2 => ?_) (fun c2 => ?_)
        · refine haload_n X dX1_crewsTakeStands_30 rfl ?_
          refine hget1 X (T := TX1) (N := 7) iX1 0 rfl rfl 5 (by decide) (by decide +kernel) rfl dX1_crewsTakeStands_31 ?_
          refine hif_eq (tgt := 47) X dX1_crewsTakeStands_34 (by decide) (fun c3 => ?_) (fun c3 => ?_)
          · refine haload_n X dX1_crewsTakeStands_47 rfl ?_
            refine hget1 X (T := TX1) (N := 7) iX1 0 rfl rfl 2 (by decide) (by decide +kernel) rfl dX1_crewsTakeStands_48 ?_
            refine hV_perm (ws' := stW G h n F' ++ hrS G h c F') (pmS G h _ _ _) ?_
            refine hcallVr (C := RX6) (T := TX6) (N := 11) (As := []) (rest := []) (st' := [.int (nbN n F' n 0)]) (w := stW G h n F') X (q0 := 0) (kX6_nextToBuild l G h F' n (by first | assumption | omega | simp [fs_at, *])) gX1_crewsTakeStands_X6_nextToBuild rfl (n := 0) (by decide +kernel) (by decide) rfl rfl rfl rfl (Nat.le_of_ble_eq_true rfl) dX1_crewsTakeStands_51 rfl rfl (by decide) rfl ?_
            refine hV_perm (ws' := haW G h n c F') (pmS G h _ _ _).symm ?_
            refine histore_n (lv' := [(2, .int (nbN n F' n 0)), (1, .int (nI k)), (0, .ref (h 0))]) X dX1_crewsTakeStands_54 (by decide) rfl ?_
            refine haload_n X dX1_crewsTakeStands_55 rfl ?_
            refine hget1 X (T := TX1) (N := 7) iX1 0 rfl rfl 2 (by decide) (by decide +kernel) rfl dX1_crewsTakeStands_56 ?_
            refine hiload_n X dX1_crewsTakeStands_59 rfl ?_
            refine hV_perm (ws' := stW G h n F' ++ hrS G h c F') (pmS G h _ _ _) ?_
            refine hcallVr (C := RX6) (T := TX6) (N := 11) (As := [.int (nbN n F' n 0)]) (rest := []) (st' := [.int (bI (hhas n (nbN n F' n 0)))]) (w := stW G h n F') X (q0 := 0) (kX6_has l G h F' n (nbN n F' n 0)) gX1_crewsTakeStands_X6_has rfl (n := 1) (by decide +kernel) (by decide) rfl rfl rfl rfl (Nat.le_of_ble_eq_true rfl) dX1_crewsTakeStands_60 rfl rfl (by decide) rfl ?_
            refine hV_perm (ws' := haW G h n c F') (pmS G h _ _ _).symm ?_
            refine hif_neB (tgt := 67) X dX1_crewsTakeStands_63 (by decide) (fun c4 => ?_) (fun c4 => ?_)
            · obtain ⟨s, hs, hx⟩ := has_in (by omega) c4
              have e1 : nxH n F' = nI s := by rw [nxH, if_pos c3]; exact hx
              have h1 : hhas n (nxH n F') := by rw [e1]; exact has_nI (by omega) hs
              have b5 : nbN n F' n 0 = nI s := hx
              rw [b5]
              refine haload_n X dX1_crewsTakeStands_67 rfl ?_
              refine hget1 X (T := TX1) (N := 7) iX1 0 rfl rfl 3 (by decide) (by decide +kernel) rfl dX1_crewsTakeStands_68 ?_
              refine hgetN X (T := TX0) (N := 7) iX0 14 rfl rfl 3 (by decide) (by decide +kernel) rfl dX1_crewsTakeStands_71 ?_
              refine hiload_n X dX1_crewsTakeStands_74 rfl ?_
              refine hiload_n X dX1_crewsTakeStands_75 rfl ?_
              refine hiast (n := 6) (f := F' 12) X 17 rfl k rfl (by omega) (by decide) dX1_crewsTakeStands_76 (ws' := haW G h n c (fs F' 12 k (nI s))) (haWs12 G h _ _ _ _ _) ?_
              refine haload_n X dX1_crewsTakeStands_77 rfl ?_
              refine hget1 X (T := TX1) (N := 7) iX1 0 rfl rfl 2 (by decide) (by decide +kernel) rfl dX1_crewsTakeStands_78 ?_
              refine hgetN X (T := TX6) (N := 11) iX6 3 rfl rfl 8 (by decide) (by decide +kernel) rfl dX1_crewsTakeStands_81 ?_
              refine hiload_n X dX1_crewsTakeStands_84 rfl ?_
              refine hiload_n X dX1_crewsTakeStands_85 rfl ?_
              refine hiast (n := 20) (f := (fs F' 12 k (nI s)) 7) X 11 rfl s rfl (by omega) (by decide) dX1_crewsTakeStands_86 (ws' := haW G h n c (fs (fs F' 12 k (nI s)) 7 s (nI k))) (haWs7 G h _ _ _ _ _) ?_
              refine haload_n X dX1_crewsTakeStands_87 rfl ?_
              refine hget1 X (T := TX1) (N := 7) iX1 0 rfl rfl 5 (by decide) (by decide +kernel) rfl dX1_crewsTakeStands_88 ?_
              have r6 : ((fs (fs F' 12 k (nI s)) 7 s (nI k)) 18 1 : Int32) = F' 18 1 := by rw [fs_ne _ _ _ (by decide), fs_ne _ _ _ (by decide)]
              refine hV_st (st' := [.int (F' 18 1)]) (congrArg (fun z => Value.int z :: []) r6) ?_
              refine hif_eq (tgt := 102) X dX1_crewsTakeStands_91 (by decide) (fun c7 => ?_) (fun c7 => ?_)
              rotate_left
              · exact absurd c3 c7
              refine haload_n X dX1_crewsTakeStands_102 rfl ?_
              refine hget1 X (T := TX1) (N := 7) iX1 0 rfl rfl 2 (by decide) (by decide +kernel) rfl dX1_crewsTakeStands_103 ?_
              refine hgetN X (T := TX6) (N := 11) iX6 3 rfl rfl 5 (by decide) (by decide +kernel) rfl dX1_crewsTakeStands_106 ?_
              refine hiload_n X dX1_crewsTakeStands_109 rfl ?_
              refine hiconst (v := 3) X dX1_crewsTakeStands_110 rfl ?_
              refine hiast (n := 20) (f := (fs (fs F' 12 k (nI s)) 7 s (nI k)) 4) X 8 rfl s rfl (by omega) (by decide) dX1_crewsTakeStands_111 (ws' := haW G h n c (fs (fs (fs F' 12 k (nI s)) 7 s (nI k)) 4 s 3)) (haWs4 G h _ _ _ _ _) ?_
              refine hiinc (v := nI (k + 1)) (lv' := [(1, .int (nI (k + 1))), (2, .int (nI s)), (0, .ref (h 0))]) X dX1_crewsTakeStands_112 rfl (nI_1 _) (by decide) rfl ?_
              refine hgoto (tgt := 2) X dX1_crewsTakeStands_115 (by decide) ?_
              refine hV_lv (lv' := [(1, .int (nI (k + 1))), (0, .ref (h 0))]) [0, 2] rfl ?_
              exact hV_to (ws' := haW G h n c (fs (fs (fs F' 12 k (nI s)) 7 s (nI k)) 4 s 3)) (lv' := [(1, .int (nI (k + 1))), (0, .ref (h 0))]) (st' := []) rfl rfl rfl (ih (k + 1) (fs (fs (fs F' 12 k (nI s)) 7 s (nI k)) 4 s 3) (by omega) (by rw [← hE, show c - k = (c - (k + 1)) + 1 by omega, ctN, if_pos c2, if_pos h1, e1, nI_clamp (show s < 2 ^ 31 by omega), tkH, if_pos c3]) (by omega))
            · have h0 : ¬ hhas n (nxH n F') := by rw [nxH, if_pos c3]; exact c4
              refine hvret X dX1_crewsTakeStands_66 ⟨rfl, ?_⟩
              refine congrArg (haW G h n c) (?_ : (F' : hF) = ctN n c 0 F)
              rw [← hE, show c - k = (c - (k + 1)) + 1 by omega, ctN, if_pos c2, if_neg h0]
          · refine haload_n X dX1_crewsTakeStands_37 rfl ?_
            refine hget1 X (T := TX1) (N := 7) iX1 0 rfl rfl 2 (by decide) (by decide +kernel) rfl dX1_crewsTakeStands_38 ?_
            refine hV_perm (ws' := stW G h n F' ++ hrS G h c F') (pmS G h _ _ _) ?_
            refine hcallVr (C := RX6) (T := TX6) (N := 11) (As := []) (rest := []) (st' := [.int (ndN n F' n)]) (w := stW G h n F') X (q0 := 0) (kX6_nextToDismantle l G h F' n (by first | assumption | omega | simp [fs_at, *])) gX1_crewsTakeStands_X6_nextToDismantle rfl (n := 0) (by decide +kernel) (by decide) rfl rfl rfl rfl (Nat.le_of_ble_eq_true rfl) dX1_crewsTakeStands_41 rfl rfl (by decide) rfl ?_
            refine hV_perm (ws' := haW G h n c F') (pmS G h _ _ _).symm ?_
            refine hgoto (tgt := 54) X dX1_crewsTakeStands_44 (by decide) ?_
            refine histore_n (lv' := [(2, .int (ndN n F' n)), (1, .int (nI k)), (0, .ref (h 0))]) X dX1_crewsTakeStands_54 (by decide) rfl ?_
            refine haload_n X dX1_crewsTakeStands_55 rfl ?_
            refine hget1 X (T := TX1) (N := 7) iX1 0 rfl rfl 2 (by decide) (by decide +kernel) rfl dX1_crewsTakeStands_56 ?_
            refine hiload_n X dX1_crewsTakeStands_59 rfl ?_
            refine hV_perm (ws' := stW G h n F' ++ hrS G h c F') (pmS G h _ _ _) ?_
            refine hcallVr (C := RX6) (T := TX6) (N := 11) (As := [.int (ndN n F' n)]) (rest := []) (st' := [.int (bI (hhas n (ndN n F' n)))]) (w := stW G h n F') X (q0 := 0) (kX6_has l G h F' n (ndN n F' n)) gX1_crewsTakeStands_X6_has rfl (n := 1) (by decide +kernel) (by decide) rfl rfl rfl rfl (Nat.le_of_ble_eq_true rfl) dX1_crewsTakeStands_60 rfl rfl (by decide) rfl ?_
            refine hV_perm (ws' := haW G h n c F') (pmS G h _ _ _).symm ?_
            refine hif_neB (tgt := 67) X dX1_crewsTakeStands_63 (by decide) (fun c8 => ?_) (fun c8 => ?_)
            · obtain ⟨s, hs, hx⟩ := has_in (by omega) c8
              have e1 : nxH n F' = nI s := by rw [nxH, if_neg c3]; exact hx
              have h1 : hhas n (nxH n F') := by rw [e1]; exact has_nI (by omega) hs
              have b9 : ndN n F' n = nI s := hx
              rw [b9]
              refine haload_n X dX1_crewsTakeStands_67 rfl ?_
              refine hget1 X (T := TX1) (N := 7) iX1 0 rfl rfl 3 (by decide) (by decide +kernel) rfl dX1_crewsTakeStands_68 ?_
              refine hgetN X (T := TX0) (N := 7) iX0 14 rfl rfl 3 (by decide) (by decide +kernel) rfl dX1_crewsTakeStands_71 ?_
              refine hiload_n X dX1_crewsTakeStands_74 rfl ?_
              refine hiload_n X dX1_crewsTakeStands_75 rfl ?_
              refine hiast (n := 6) (f := F' 12) X 17 rfl k rfl (by omega) (by decide) dX1_crewsTakeStands_76 (ws' := haW G h n c (fs F' 12 k (nI s))) (haWs12 G h _ _ _ _ _) ?_
              refine haload_n X dX1_crewsTakeStands_77 rfl ?_
              refine hget1 X (T := TX1) (N := 7) iX1 0 rfl rfl 2 (by decide) (by decide +kernel) rfl dX1_crewsTakeStands_78 ?_
              refine hgetN X (T := TX6) (N := 11) iX6 3 rfl rfl 8 (by decide) (by decide +kernel) rfl dX1_crewsTakeStands_81 ?_
              refine hiload_n X dX1_crewsTakeStands_84 rfl ?_
              refine hiload_n X dX1_crewsTakeStands_85 rfl ?_
              refine hiast (n := 20) (f := (fs F' 12 k (nI s)) 7) X 11 rfl s rfl (by omega) (by decide) dX1_crewsTakeStands_86 (ws' := haW G h n c (fs (fs F' 12 k (nI s)) 7 s (nI k))) (haWs7 G h _ _ _ _ _) ?_
              refine haload_n X dX1_crewsTakeStands_87 rfl ?_
              refine hget1 X (T := TX1) (N := 7) iX1 0 rfl rfl 5 (by decide) (by decide +kernel) rfl dX1_crewsTakeStands_88 ?_
              have r10 : ((fs (fs F' 12 k (nI s)) 7 s (nI k)) 18 1 : Int32) = F' 18 1 := by rw [fs_ne _ _ _ (by decide), fs_ne _ _ _ (by decide)]
              refine hV_st (st' := [.int (F' 18 1)]) (congrArg (fun z => Value.int z :: []) r10) ?_
              refine hif_eq (tgt := 102) X dX1_crewsTakeStands_91 (by decide) (fun c11 => ?_) (fun c11 => ?_)
              · exact absurd c11 c3
              refine haload_n X dX1_crewsTakeStands_94 rfl ?_
              refine hiload_n X dX1_crewsTakeStands_95 rfl ?_
              refine hcallV0 (C := RX1) (T := TX1) (N := 7) (As := [.int (nI s)]) (rest := []) (st' := []) (w := haW G h n c (btD (fs (fs F' 12 k (nI s)) 7 s (nI k)) s)) X (q0 := 0) (kX1_beginToDismantle l G h (fs (fs F' 12 k (nI s)) 7 s (nI k)) n c (by first | assumption | omega | simp [fs_at, *]) (by first | assumption | omega | simp [fs_at, *]) s (by first | assumption | omega | simp [fs_at, *])) gX1_crewsTakeStands_X1_beginToDismantle rfl (n := 1) (by decide +kernel) (by decide) rfl rfl rfl rfl (Nat.le_of_ble_eq_true rfl) dX1_crewsTakeStands_96 rfl rfl (by decide) rfl ?_
              refine hgoto (tgt := 112) X dX1_crewsTakeStands_99 (by decide) ?_
              refine hiinc (v := nI (k + 1)) (lv' := [(1, .int (nI (k + 1))), (2, .int (nI s)), (0, .ref (h 0))]) X dX1_crewsTakeStands_112 rfl (nI_1 _) (by decide) rfl ?_
              refine hgoto (tgt := 2) X dX1_crewsTakeStands_115 (by decide) ?_
              refine hV_lv (lv' := [(1, .int (nI (k + 1))), (0, .ref (h 0))]) [0, 2] rfl ?_
              exact hV_to (ws' := haW G h n c (btD (fs (fs F' 12 k (nI s)) 7 s (nI k)) s)) (lv' := [(1, .int (nI (k + 1))), (0, .ref (h 0))]) (st' := []) rfl rfl rfl (ih (k + 1) (btD (fs (fs F' 12 k (nI s)) 7 s (nI k)) s) (by omega) (by rw [← hE, show c - k = (c - (k + 1)) + 1 by omega, ctN, if_pos c2, if_pos h1, e1, nI_clamp (show s < 2 ^ 31 by omega), tkH, if_neg c3]) (by omega))
            · have h0 : ¬ hhas n (nxH n F') := by rw [nxH, if_neg c3]; exact c8
              refine hvret X dX1_crewsTakeStands_66 ⟨rfl, ?_⟩
              refine congrArg (haW G h n c) (?_ : (F' : hF) = ctN n c 0 F)
              rw [← hE, show c - k = (c - (k + 1)) + 1 by omega, ctN, if_pos c2, if_neg h0]
        · refine hgoto (tgt := 112) X dX1_crewsTakeStands_27 (by decide) ?_
          refine hiinc (v := nI (k + 1)) (lv' := [(1, .int (nI (k + 1))), (0, .ref (h 0))]) X dX1_crewsTakeStands_112 rfl (nI_1 _) (by decide) rfl ?_
          refine hgoto (tgt := 2) X dX1_crewsTakeStands_115 (by decide) ?_
          exact hV_to (ws' := haW G h n c F') (lv' := [(1, .int (nI (k + 1))), (0, .ref (h 0))]) (st' := []) rfl rfl rfl (ih (k + 1) F' (by omega) (by rw [← hE, show c - k = (c - (k + 1)) + 1 by omega, ctN, if_neg c2]) (by omega))
  refine hiconst (v := 0) X dX1_crewsTakeStands_0 rfl ?_
  refine histore_n (lv' := [(1, .int 0), (0, .ref (h 0))]) X dX1_crewsTakeStands_1 (by decide) rfl ?_
  exact hV_to (ws' := haW G h n c F) (lv' := [(1, .int 0), (0, .ref (h 0))]) (st' := []) rfl rfl rfl (L _ 0 F (Nat.zero_le _) rfl (Nat.lt_succ_self _))

set_option maxHeartbeats 4000000 in
set_option maxRecDepth 100000 in
theorem kX1_passOneHour (l : Launch) (G : hG) (h : Nat → Nat) (F : hF) (n c : Nat) (hn : n ≤ 20) (hc : c ≤ 6) : hM l G yX1_passOneHour wsX1_passOneHour ({ frames := 5, cells := 0, slots := 0, locals := 130 }) (haW G h n c F) [.ref (h 0)] (hR (some (.int (p1R n c F))) (haW G h n c (p1H n c F))) := by
  refine hM_of (cc := cX1_passOneHour) (maxL := 2) (ret := (some .int)) (by decide) rfl (Nat.le_of_ble_eq_true rfl) ?_
  intro pp ee ss mm aa bb me cd X hin
  have iX1 : ∀ w ∈ wsX10, w ∈ wsX1_passOneHour := by decide +kernel
  refine haload_n X dX1_passOneHour_0 rfl ?_
  refine hcallV0 (C := RX1) (T := TX1) (N := 7) (As := []) (rest := []) (st' := []) (w := haW G h n c (itN n llS F)) X (q0 := 0) (kX1_lorriesLeave l G h F n c (by first | assumption | omega | simp [fs_at, *]) (by first | assumption | omega | simp [fs_at, *])) gX1_passOneHour_X1_lorriesLeave rfl (n := 0) (by decide +kernel) (by decide) rfl rfl rfl rfl (Nat.le_of_ble_eq_true rfl) dX1_passOneHour_1 rfl rfl (by decide) rfl ?_
  refine haload_n X dX1_passOneHour_4 rfl ?_
  refine hcallV0 (C := RX1) (T := TX1) (N := 7) (As := []) (rest := []) (st' := []) (w := haW G h n c (lcN n 0 (hmet n (itN n llS F)) (itN n llS F))) X (q0 := 0) (kX1_lorriesCome l G h (itN n llS F) n c (by first | assumption | omega | simp [fs_at, *]) (by first | assumption | omega | simp [fs_at, *])) gX1_passOneHour_X1_lorriesCome rfl (n := 0) (by decide +kernel) (by decide) rfl rfl rfl rfl (Nat.le_of_ble_eq_true rfl) dX1_passOneHour_5 rfl rfl (by decide) rfl ?_
  refine haload_n X dX1_passOneHour_8 rfl ?_
  refine hcallV0 (C := RX1) (T := TX1) (N := 7) (As := []) (rest := []) (st' := []) (w := haW G h n c (ctN n c 0 (lcN n 0 (hmet n (itN n llS F)) (itN n llS F)))) X (q0 := 0) (kX1_crewsTakeStands l G h (lcN n 0 (hmet n (itN n llS F)) (itN n llS F)) n c (by first | assumption | omega | simp [fs_at, *]) (by first | assumption | omega | simp [fs_at, *])) gX1_passOneHour_X1_crewsTakeStands rfl (n := 0) (by decide +kernel) (by decide) rfl rfl rfl rfl (Nat.le_of_ble_eq_true rfl) dX1_passOneHour_9 rfl rfl (by decide) rfl ?_
  refine haload_n X dX1_passOneHour_12 rfl ?_
  refine hiconst (v := 1) X dX1_passOneHour_13 rfl ?_
  refine hcallV0 (C := RX1) (T := TX1) (N := 7) (As := [.int 1]) (rest := []) (st' := [.int ((cwH n c 1 (ctN n c 0 (lcN n 0 (hmet n (itN n llS F)) (itN n llS F)))).2)]) (w := haW G h n c ((cwH n c 1 (ctN n c 0 (lcN n 0 (hmet n (itN n llS F)) (itN n llS F)))).1)) X (q0 := 0) (kX1_crewsWork l G h (ctN n c 0 (lcN n 0 (hmet n (itN n llS F)) (itN n llS F))) n c (by first | assumption | omega | simp [fs_at, *]) (by first | assumption | omega | simp [fs_at, *]) 1) gX1_passOneHour_X1_crewsWork rfl (n := 1) (by decide +kernel) (by decide) rfl rfl rfl rfl (Nat.le_of_ble_eq_true rfl) dX1_passOneHour_14 rfl rfl (by decide) rfl ?_
  refine histore_n (lv' := [(1, .int ((cwH n c 1 (ctN n c 0 (lcN n 0 (hmet n (itN n llS F)) (itN n llS F)))).2)), (0, .ref (h 0))]) X dX1_passOneHour_17 (by decide) rfl ?_
  refine haload_n X dX1_passOneHour_18 rfl ?_
  refine hdup X dX1_passOneHour_19 rfl ?_
  refine hget1 X (T := TX1) (N := 7) iX1 0 rfl rfl 4 (by decide) (by decide +kernel) rfl dX1_passOneHour_20 ?_
  refine hiconst (v := 1) X dX1_passOneHour_23 rfl ?_
  refine hiadd X dX1_passOneHour_24 ?_
  refine hput1 X (T := TX1) (N := 7) iX1 tyX1 tyX1_ok nmX1 0 rfl rfl 4 (by decide) (by decide +kernel) (by decide +kernel) rfl rfl (Nat.le_of_ble_eq_true rfl) dX1_passOneHour_25 (ws' := haW G h n c (fs ((cwH n c 1 (ctN n c 0 (lcN n 0 (hmet n (itN n llS F)) (itN n llS F)))).1) 18 0 ((((cwH n c 1 (ctN n c 0 (lcN n 0 (hmet n (itN n llS F)) (itN n llS F)))).1) 18 0) + 1))) (haWf4 G h _ _ _ _) ?_
  refine hiload_n X dX1_passOneHour_28 rfl ?_
  refine hiret X dX1_passOneHour_29 ⟨congrArg (fun z => some (Value.int z)) (?_ : ((cwH n c 1 (ctN n c 0 (lcN n 0 (hmet n (itN n llS F)) (itN n llS F)))).2) = p1R n c F), ?_⟩
  · rfl
  refine congrArg (haW G h n c) (?_ : (fs ((cwH n c 1 (ctN n c 0 (lcN n 0 (hmet n (itN n llS F)) (itN n llS F)))).1) 18 0 ((((cwH n c 1 (ctN n c 0 (lcN n 0 (hmet n (itN n llS F)) (itN n llS F)))).1) 18 0) + 1) : hF) = p1H n c F)
  rfl

set_option maxHeartbeats 4000000 in
set_option maxRecDepth 100000 in
theorem kX1_passQuietHours (l : Launch) (G : hG) (h : Nat → Nat) (F : hF) (n c : Nat) (hn : n ≤ 20) (hc : c ≤ 6) (x : Int32) : hM l G yX1_passQuietHours wsX1_passQuietHours ({ frames := 5, cells := 0, slots := 0, locals := 130 }) (haW G h n c F) [.ref (h 0), .int x] (hR none (haW G h n c (pqH n c x F))) := by
  refine hM_of (cc := cX1_passQuietHours) (maxL := 2) (ret := none) (by decide) rfl (Nat.le_of_ble_eq_true rfl) ?_
  intro pp ee ss mm aa bb me cd X hin
  have iX1 : ∀ w ∈ wsX10, w ∈ wsX1_passQuietHours := by decide +kernel
  refine hiload_n X dX1_passQuietHours_0 rfl ?_
  refine hif_gt (tgt := 5) X dX1_passQuietHours_1 (by decide) (fun c1 => ?_) (fun c1 => ?_)
  · refine haload_n X dX1_passQuietHours_5 rfl ?_
    refine hiload_n X dX1_passQuietHours_6 rfl ?_
    refine hcallV0 (C := RX1) (T := TX1) (N := 7) (As := [.int x]) (rest := []) (st' := [.int ((cwH n c x F).2)]) (w := haW G h n c ((cwH n c x F).1)) X (q0 := 0) (kX1_crewsWork l G h F n c (by first | assumption | omega | simp [fs_at, *]) (by first | assumption | omega | simp [fs_at, *]) x) gX1_passQuietHours_X1_crewsWork rfl (n := 1) (by decide +kernel) (by decide) rfl rfl rfl rfl (Nat.le_of_ble_eq_true rfl) dX1_passQuietHours_7 rfl rfl (by decide) rfl ?_
    refine hpop X dX1_passQuietHours_10 rfl ?_
    refine haload_n X dX1_passQuietHours_11 rfl ?_
    refine hdup X dX1_passQuietHours_12 rfl ?_
    refine hget1 X (T := TX1) (N := 7) iX1 0 rfl rfl 4 (by decide) (by decide +kernel) rfl dX1_passQuietHours_13 ?_
    refine hiload_n X dX1_passQuietHours_16 rfl ?_
    refine hiadd X dX1_passQuietHours_17 ?_
    refine hput1 X (T := TX1) (N := 7) iX1 tyX1 tyX1_ok nmX1 0 rfl rfl 4 (by decide) (by decide +kernel) (by decide +kernel) rfl rfl (Nat.le_of_ble_eq_true rfl) dX1_passQuietHours_18 (ws' := haW G h n c (fs ((cwH n c x F).1) 18 0 ((((cwH n c x F).1) 18 0) + x))) (haWf4 G h _ _ _ _) ?_
    refine hvret X dX1_passQuietHours_21 ⟨rfl, ?_⟩
    refine congrArg (haW G h n c) (?_ : (fs ((cwH n c x F).1) 18 0 ((((cwH n c x F).1) 18 0) + x) : hF) = pqH n c x F)
    simp [pqH, c1]
  · refine hvret X dX1_passQuietHours_4 ⟨rfl, ?_⟩
    refine congrArg (haW G h n c) (?_ : (F : hF) = pqH n c x F)
    simp [pqH, c1]

set_option maxHeartbeats 4000000 in
set_option maxRecDepth 100000 in
theorem kX1_quietHours (l : Launch) (G : hG) (h : Nat → Nat) (F : hF) (n c : Nat) (hn : n ≤ 20) (hc : c ≤ 6) : hM l G yX1_quietHours wsX1_quietHours ({ frames := 2, cells := 0, slots := 0, locals := 61 }) (haW G h n c F) [.ref (h 0)] (hR (some (.int (qhH n c F))) (haW G h n c F)) := by
  refine hM_of (cc := cX1_quietHours) (maxL := 5) (ret := (some .int)) (by decide) rfl (Nat.le_of_ble_eq_true rfl) ?_
  intro pp ee ss mm aa bb me cd X hin
  have iX0 : ∀ w ∈ wsX00, w ∈ wsX1_quietHours := by decide +kernel
  have iX1 : ∀ w ∈ wsX10, w ∈ wsX1_quietHours := by decide +kernel
  have iX6 : ∀ w ∈ wsX60, w ∈ wsX1_quietHours := by decide +kernel
  have L2 : ∀ (d : Nat) (k : Nat), (k ≤ c) → (c - k) < d → hV pp l ee ({ frames := 2, cells := 0, slots := 0, locals := 61 }) ss mm aa bb me cd G (va_A (haW G h n c F) ss.heap.size) 5 0 0 (MQ bb (hQc G (haW G h n c F) ss.heap.size (hR (some (.int (qhH n c F))) (haW G h n c F))) aa ss 0 0 (va_A (haW G h n c F) ss.heap.size)) (haW G h n c F) 57 [(2, .int (nI k)), (1, .int (itN k (qbS n F) (itN n (qaS F) 1000))), (0, .ref (h 0))] [] := by
    intro d
    induction d with
    | zero =>
      intro k hk hd0
      exact absurd hd0 (Nat.not_lt_zero _)
    | succ d ih =>
      intro k hk hd0
      refine hiload_n X dX1_quietHours_57 rfl ?_
      refine haload_n X dX1_quietHours_58 rfl ?_
      refine hget1 X (T := TX1) (N := 7) iX1 0 rfl rfl 3 (by decide) (by decide +kernel) rfl dX1_quietHours_59 ?_
      refine hgetN X (T := TX0) (N := 7) iX0 14 rfl rfl 0 (by decide) (by decide +kernel) rfl dX1_quietHours_62 ?_
      refine hicmp_ge (tgt := 130) X dX1_quietHours_65 (by decide) (fun c1 => ?_) (fun c1 => ?_)
      · have ek := i_ge hk (by omega) c1
        refine hiload_n X dX1_quietHours_130 rfl ?_
        refine hiret X dX1_quietHours_131 ⟨congrArg (fun z => some (Value.int z)) (?_ : (itN k (qbS n F) (itN n (qaS F) 1000)) = qhH n c F), ?_⟩
        · simp [qhH, ek]
        rfl
      · have hk1 := i_lt hk (by omega) c1
        refine haload_n X dX1_quietHours_68 rfl ?_
        refine hget1 X (T := TX1) (N := 7) iX1 0 rfl rfl 3 (by decide) (by decide +kernel) rfl dX1_quietHours_69 ?_
        refine hgetN X (T := TX0) (N := 7) iX0 14 rfl rfl 3 (by decide) (by decide +kernel) rfl dX1_quietHours_72 ?_
        refine hiload_n X dX1_quietHours_75 rfl ?_
        refine hiald (n := 6) (f := F 12) X 17 rfl k rfl (by omega) (by decide) dX1_quietHours_76 ?_
        refine histore_n (lv' := [(3, .int (F 12 k)), (2, .int (nI k)), (1, .int (itN k (qbS n F) (itN n (qaS F) 1000))), (0, .ref (h 0))]) X dX1_quietHours_77 (by decide) rfl ?_
        refine haload_n X dX1_quietHours_78 rfl ?_
        refine hget1 X (T := TX1) (N := 7) iX1 0 rfl rfl 3 (by decide) (by decide +kernel) rfl dX1_quietHours_79 ?_
        refine hgetN X (T := TX0) (N := 7) iX0 14 rfl rfl 1 (by decide) (by decide +kernel) rfl dX1_quietHours_82 ?_
        refine hiload_n X dX1_quietHours_85 rfl ?_
        refine hiald (n := 6) (f := F 10) X 15 rfl k rfl (by omega) (by decide) dX1_quietHours_86 ?_
        refine histore (lv' := [(4, .int (F 10 k)), (3, .int (F 12 k)), (2, .int (nI k)), (1, .int (itN k (qbS n F) (itN n (qaS F) 1000))), (0, .ref (h 0))]) X dX1_quietHours_87 (by decide) rfl ?_
        refine haload_n X dX1_quietHours_89 rfl ?_
        refine hget1 X (T := TX1) (N := 7) iX1 0 rfl rfl 2 (by decide) (by decide +kernel) rfl dX1_quietHours_90 ?_
        refine hiload_n X dX1_quietHours_93 rfl ?_
        refine hV_perm (ws' := stW G h n F ++ hrS G h c F) (pmS G h _ _ _) ?_
        refine hcallVr (C := RX6) (T := TX6) (N := 11) (As := [.int (F 12 k)]) (rest := []) (st' := [.int (bI (hhas n (F 12 k)))]) (w := stW G h n F) X (q0 := 0) (kX6_has l G h F n (F 12 k)) gX1_quietHours_X6_has rfl (n := 1) (by decide +kernel) (by decide) rfl rfl rfl rfl (Nat.le_of_ble_eq_true rfl) dX1_quietHours_94 rfl rfl (by decide) rfl ?_
        refine hV_perm (ws' := haW G h n c F) (pmS G h _ _ _).symm ?_
        refine hif_eqB (tgt := 124) X dX1_quietHours_97 (by decide) (fun c2 => ?_) (fun c2 => ?_)
        · refine hiinc (v := nI (k + 1)) (lv' := [(2, .int (nI (k + 1))), (4, .int (F 10 k)), (3, .int (F 12 k)), (1, .int (itN k (qbS n F) (itN n (qaS F) 1000))), (0, .ref (h 0))]) X dX1_quietHours_124 rfl (nI_1 _) (by decide) rfl ?_
          refine hgoto (tgt := 57) X dX1_quietHours_127 (by decide) ?_
          refine hV_lv (lv' := [(2, .int (nI (k + 1))), (1, .int (itN k (qbS n F) (itN n (qaS F) 1000))), (0, .ref (h 0))]) [0, 3, 4] rfl ?_
          have e3 : (itN k (qbS n F) (itN n (qaS F) 1000) : Int32) = itN (k + 1) (qbS n F) (itN n (qaS F) 1000) := by
            simp only [itN, qbS]
            rw [if_neg c2]
          exact hV_to (ws' := haW G h n c F) (lv' := [(2, .int (nI (k + 1))), (1, .int (itN (k + 1) (qbS n F) (itN n (qaS F) 1000))), (0, .ref (h 0))]) (st' := []) rfl (congrArg (fun z => ([(2, .int (nI (k + 1))), (1, .int z), (0, .ref (h 0))] : List (Nat × Value))) e3) rfl (ih (k + 1) (by omega) (by omega))
        · obtain ⟨s, hs, hx⟩ := has_in (by omega) c2
          refine hiload X dX1_quietHours_100 rfl ?_
          refine hif_le (tgt := 124) X dX1_quietHours_102 (by decide) (fun c4 => ?_) (fun c4 => ?_)
          · refine hiinc (v := nI (k + 1)) (lv' := [(2, .int (nI (k + 1))), (4, .int (F 10 k)), (3, .int (F 12 k)), (1, .int (itN k (qbS n F) (itN n (qaS F) 1000))), (0, .ref (h 0))]) X dX1_quietHours_124 rfl (nI_1 _) (by decide) rfl ?_
            refine hgoto (tgt := 57) X dX1_quietHours_127 (by decide) ?_
            refine hV_lv (lv' := [(2, .int (nI (k + 1))), (1, .int (itN k (qbS n F) (itN n (qaS F) 1000))), (0, .ref (h 0))]) [0, 3, 4] rfl ?_
            have e5 : (itN k (qbS n F) (itN n (qaS F) 1000) : Int32) = itN (k + 1) (qbS n F) (itN n (qaS F) 1000) := by
              simp only [itN, qbS]
              rw [if_pos c2, if_pos c4]
            exact hV_to (ws' := haW G h n c F) (lv' := [(2, .int (nI (k + 1))), (1, .int (itN (k + 1) (qbS n F) (itN n (qaS F) 1000))), (0, .ref (h 0))]) (st' := []) rfl (congrArg (fun z => ([(2, .int (nI (k + 1))), (1, .int z), (0, .ref (h 0))] : List (Nat × Value))) e5) rfl (ih (k + 1) (by omega) (by omega))
          · refine hiload_n X dX1_quietHours_105 rfl ?_
            refine haload_n X dX1_quietHours_106 rfl ?_
            refine hget1 X (T := TX1) (N := 7) iX1 0 rfl rfl 2 (by decide) (by decide +kernel) rfl dX1_quietHours_107 ?_
            refine hgetN X (T := TX6) (N := 11) iX6 3 rfl rfl 6 (by decide) (by decide +kernel) rfl dX1_quietHours_110 ?_
            refine hiload_n X dX1_quietHours_113 rfl ?_
            refine hV_st (st' := [.int (nI s), .ref (h 9), .int (itN k (qbS n F) (itN n (qaS F) 1000))]) (congrArg (fun z => ([Value.int z, .ref (h 9), .int (itN k (qbS n F) (itN n (qaS F) 1000))] : List Value)) (hx)) ?_
            refine hiald (n := 20) (f := F 5) X 9 rfl s rfl (by omega) (by decide) dX1_quietHours_114 ?_
            refine hiconst (v := 1) X dX1_quietHours_115 rfl ?_
            refine hisub X dX1_quietHours_116 ?_
            refine hiload X dX1_quietHours_117 rfl ?_
            refine hidiv X dX1_quietHours_119 (by exact fun z9 => c4 (by rw [z9]; decide)) ?_
            refine hmmin X (by decide +kernel) (by decide +kernel) (by decide +kernel) (by decide +kernel) (by decide) (Nat.le_of_ble_eq_true rfl) (by decide) (by decide) dX1_quietHours_120 ?_
            refine histore_n (lv' := [(1, .int (if ((F 5 s) - 1) / (F 10 k) < itN k (qbS n F) (itN n (qaS F) 1000) then ((F 5 s) - 1) / (F 10 k) else itN k (qbS n F) (itN n (qaS F) 1000))), (4, .int (F 10 k)), (3, .int (F 12 k)), (2, .int (nI k)), (0, .ref (h 0))]) X dX1_quietHours_123 (by decide) rfl ?_
            refine hiinc (v := nI (k + 1)) (lv' := [(2, .int (nI (k + 1))), (1, .int (if ((F 5 s) - 1) / (F 10 k) < itN k (qbS n F) (itN n (qaS F) 1000) then ((F 5 s) - 1) / (F 10 k) else itN k (qbS n F) (itN n (qaS F) 1000))), (4, .int (F 10 k)), (3, .int (F 12 k)), (0, .ref (h 0))]) X dX1_quietHours_124 rfl (nI_1 _) (by decide) rfl ?_
            refine hgoto (tgt := 57) X dX1_quietHours_127 (by decide) ?_
            refine hV_lv (lv' := [(2, .int (nI (k + 1))), (1, .int (if ((F 5 s) - 1) / (F 10 k) < itN k (qbS n F) (itN n (qaS F) 1000) then ((F 5 s) - 1) / (F 10 k) else itN k (qbS n F) (itN n (qaS F) 1000))), (0, .ref (h 0))]) [0, 1, 4] rfl ?_
            have e6 : ((if ((F 5 s) - 1) / (F 10 k) < itN k (qbS n F) (itN n (qaS F) 1000) then ((F 5 s) - 1) / (F 10 k) else itN k (qbS n F) (itN n (qaS F) 1000)) : Int32) = itN (k + 1) (qbS n F) (itN n (qaS F) 1000) := by
              simp only [itN, qbS]
              rw [if_pos c2, if_neg c4]
              simp only [hx, nI_clamp (show s < 2 ^ 31 by omega)]
            exact hV_to (ws' := haW G h n c F) (lv' := [(2, .int (nI (k + 1))), (1, .int (itN (k + 1) (qbS n F) (itN n (qaS F) 1000))), (0, .ref (h 0))]) (st' := []) rfl (congrArg (fun z => ([(2, .int (nI (k + 1))), (1, .int z), (0, .ref (h 0))] : List (Nat × Value))) e6) rfl (ih (k + 1) (by omega) (by omega))
  have L1 : ∀ (d : Nat) (k : Nat), (k ≤ n) → (n - k) < d → hV pp l ee ({ frames := 2, cells := 0, slots := 0, locals := 61 }) ss mm aa bb me cd G (va_A (haW G h n c F) ss.heap.size) 5 0 0 (MQ bb (hQc G (haW G h n c F) ss.heap.size (hR (some (.int (qhH n c F))) (haW G h n c F))) aa ss 0 0 (va_A (haW G h n c F) ss.heap.size)) (haW G h n c F) 6 [(2, .int (nI k)), (1, .int (itN k (qaS F) 1000)), (0, .ref (h 0))] [] := by
    intro d
    induction d with
    | zero =>
      intro k hk hd0
      exact absurd hd0 (Nat.not_lt_zero _)
    | succ d ih =>
      intro k hk hd0
      refine hiload_n X dX1_quietHours_6 rfl ?_
      refine haload_n X dX1_quietHours_7 rfl ?_
      refine hget1 X (T := TX1) (N := 7) iX1 0 rfl rfl 2 (by decide) (by decide +kernel) rfl dX1_quietHours_8 ?_
      refine hgetN X (T := TX6) (N := 11) iX6 3 rfl rfl 0 (by decide) (by decide +kernel) rfl dX1_quietHours_11 ?_
      refine hicmp_ge (tgt := 55) X dX1_quietHours_14 (by decide) (fun c7 => ?_) (fun c7 => ?_)
      · have ek := i_ge hk (by omega) c7
        refine hiconst (v := 0) X dX1_quietHours_55 rfl ?_
        refine histore_n (lv' := [(2, .int 0), (1, .int (itN k (qaS F) 1000)), (0, .ref (h 0))]) X dX1_quietHours_56 (by decide) rfl ?_
        have e8 : (itN k (qaS F) 1000 : Int32) = itN 0 (qbS n F) (itN n (qaS F) 1000) := by
          rw [ek]
          first | done | rfl
        exact hV_to (ws' := haW G h n c F) (lv' := [(2, .int 0), (1, .int (itN 0 (qbS n F) (itN n (qaS F) 1000))), (0, .ref (h 0))]) (st' := []) rfl (congrArg (fun z => ([(2, .int 0), (1, .int z), (0, .ref (h 0))] : List (Nat × Value))) e8) rfl (L2 _ 0 (by omega) (Nat.lt_succ_self _))
      · have hk1 := i_lt hk (by omega) c7
        refine haload_n X dX1_quietHours_17 rfl ?_
        refine hget1 X (T := TX1) (N := 7) iX1 0 rfl rfl 2 (by decide) (by decide +kernel) rfl dX1_quietHours_18 ?_
        refine hgetN X (T := TX6) (N := 11) iX6 3 rfl rfl 5 (by decide) (by decide +kernel) rfl dX1_quietHours_21 ?_
        refine hiload_n X dX1_quietHours_24 rfl ?_
        refine hiald (n := 20) (f := F 4) X 8 rfl k rfl (by omega) (by decide) dX1_quietHours_25 ?_
        refine hiconst (v := 1) X dX1_quietHours_26 rfl ?_
        refine hicmp_ne (tgt := 49) X dX1_quietHours_27 (by decide) (fun c9 => ?_) (fun c9 => ?_)
        · refine hiinc (v := nI (k + 1)) (lv' := [(2, .int (nI (k + 1))), (1, .int (itN k (qaS F) 1000)), (0, .ref (h 0))]) X dX1_quietHours_49 rfl (nI_1 _) (by decide) rfl ?_
          refine hgoto (tgt := 6) X dX1_quietHours_52 (by decide) ?_
          have e10 : (itN k (qaS F) 1000 : Int32) = itN (k + 1) (qaS F) 1000 := by
            simp [itN, qaS, c7, c9]
          exact hV_to (ws' := haW G h n c F) (lv' := [(2, .int (nI (k + 1))), (1, .int (itN (k + 1) (qaS F) 1000)), (0, .ref (h 0))]) (st' := []) rfl (congrArg (fun z => ([(2, .int (nI (k + 1))), (1, .int z), (0, .ref (h 0))] : List (Nat × Value))) e10) rfl (ih (k + 1) (by omega) (by omega))
        · refine hiload_n X dX1_quietHours_30 rfl ?_
          refine haload_n X dX1_quietHours_31 rfl ?_
          refine hget1 X (T := TX1) (N := 7) iX1 0 rfl rfl 2 (by decide) (by decide +kernel) rfl dX1_quietHours_32 ?_
          refine hgetN X (T := TX6) (N := 11) iX6 3 rfl rfl 10 (by decide) (by decide +kernel) rfl dX1_quietHours_35 ?_
          refine hiload_n X dX1_quietHours_38 rfl ?_
          refine hiald (n := 20) (f := F 9) X 13 rfl k rfl (by omega) (by decide) dX1_quietHours_39 ?_
          refine haload_n X dX1_quietHours_40 rfl ?_
          refine hget1 X (T := TX1) (N := 7) iX1 0 rfl rfl 4 (by decide) (by decide +kernel) rfl dX1_quietHours_41 ?_
          refine hisub X dX1_quietHours_44 ?_
          refine hmmin X (by decide +kernel) (by decide +kernel) (by decide +kernel) (by decide +kernel) (by decide) (Nat.le_of_ble_eq_true rfl) (by decide) (by decide) dX1_quietHours_45 ?_
          refine histore_n (lv' := [(1, .int (if (F 9 k) - (F 18 0) < itN k (qaS F) 1000 then (F 9 k) - (F 18 0) else itN k (qaS F) 1000)), (2, .int (nI k)), (0, .ref (h 0))]) X dX1_quietHours_48 (by decide) rfl ?_
          refine hiinc (v := nI (k + 1)) (lv' := [(2, .int (nI (k + 1))), (1, .int (if (F 9 k) - (F 18 0) < itN k (qaS F) 1000 then (F 9 k) - (F 18 0) else itN k (qaS F) 1000)), (0, .ref (h 0))]) X dX1_quietHours_49 rfl (nI_1 _) (by decide) rfl ?_
          refine hgoto (tgt := 6) X dX1_quietHours_52 (by decide) ?_
          have e11 : ((if (F 9 k) - (F 18 0) < itN k (qaS F) 1000 then (F 9 k) - (F 18 0) else itN k (qaS F) 1000) : Int32) = itN (k + 1) (qaS F) 1000 := by
            simp [itN, qaS, c7, c9]
          exact hV_to (ws' := haW G h n c F) (lv' := [(2, .int (nI (k + 1))), (1, .int (itN (k + 1) (qaS F) 1000)), (0, .ref (h 0))]) (st' := []) rfl (congrArg (fun z => ([(2, .int (nI (k + 1))), (1, .int z), (0, .ref (h 0))] : List (Nat × Value))) e11) rfl (ih (k + 1) (by omega) (by omega))
  refine hsipush (v := 1000) X dX1_quietHours_0 rfl ?_
  refine histore_n (lv' := [(1, .int 1000), (0, .ref (h 0))]) X dX1_quietHours_3 (by decide) rfl ?_
  refine hiconst (v := 0) X dX1_quietHours_4 rfl ?_
  refine histore_n (lv' := [(2, .int 0), (1, .int 1000), (0, .ref (h 0))]) X dX1_quietHours_5 (by decide) rfl ?_
  have e12 : (1000 : Int32) = itN 0 (qaS F) 1000 := by
    rfl
  exact hV_to (ws' := haW G h n c F) (lv' := [(2, .int 0), (1, .int (itN 0 (qaS F) 1000)), (0, .ref (h 0))]) (st' := []) rfl (congrArg (fun z => ([(2, .int 0), (1, .int z), (0, .ref (h 0))] : List (Nat × Value))) e12) rfl (L1 _ 0 (by omega) (Nat.lt_succ_self _))

set_option maxHeartbeats 4000000 in
set_option maxRecDepth 100000 in
theorem kX1_allAreIn (l : Launch) (G : hG) (h : Nat → Nat) (F : hF) (n c : Nat) (hn : n ≤ 20) (hc : c ≤ 6) : hM l G yX1_allAreIn wsX1_allAreIn ({ frames := 2, cells := 0, slots := 0, locals := 63 }) (haW G h n c F) [.ref (h 0)] (hR (some (.int (bI (aiP n F)))) (haW G h n c F)) := by
  refine hM_of (cc := cX1_allAreIn) (maxL := 2) (ret := (some .boolean)) (by decide) rfl (Nat.le_of_ble_eq_true rfl) ?_
  intro pp ee ss mm aa bb me cd X hin
  have iX1 : ∀ w ∈ wsX10, w ∈ wsX1_allAreIn := by decide +kernel
  have iX6 : ∀ w ∈ wsX60, w ∈ wsX1_allAreIn := by decide +kernel
  refine haload_n X dX1_allAreIn_0 rfl ?_
  refine hget1 X (T := TX1) (N := 7) iX1 0 rfl rfl 2 (by decide) (by decide +kernel) rfl dX1_allAreIn_1 ?_
  refine hbipush (v := 6) X dX1_allAreIn_4 rfl ?_
  refine hV_perm (ws' := stW G h n F ++ hrS G h c F) (pmS G h _ _ _) ?_
  refine hcallVr (C := RX6) (T := TX6) (N := 11) (As := [.int 6]) (rest := []) (st' := [.int (hcnt n F 6)]) (w := stW G h n F) X (q0 := 0) (kX6_countIn l G h F n 6 (by first | assumption | omega)) gX1_allAreIn_X6_countIn rfl (n := 1) (by decide +kernel) (by decide) rfl rfl rfl rfl (Nat.le_of_ble_eq_true rfl) dX1_allAreIn_6 rfl rfl (by decide) rfl ?_
  refine hV_perm (ws' := haW G h n c F) (pmS G h _ _ _).symm ?_
  refine histore_n (lv' := [(1, .int (hcnt n F 6)), (0, .ref (h 0))]) X dX1_allAreIn_9 (by decide) rfl ?_
  refine haload_n X dX1_allAreIn_10 rfl ?_
  refine hget1 X (T := TX1) (N := 7) iX1 0 rfl rfl 2 (by decide) (by decide +kernel) rfl dX1_allAreIn_11 ?_
  refine hgetN X (T := TX6) (N := 11) iX6 3 rfl rfl 0 (by decide) (by decide +kernel) rfl dX1_allAreIn_14 ?_
  refine haload_n X dX1_allAreIn_17 rfl ?_
  refine hget1 X (T := TX1) (N := 7) iX1 0 rfl rfl 5 (by decide) (by decide +kernel) rfl dX1_allAreIn_18 ?_
  refine hif_eq (tgt := 28) X dX1_allAreIn_21 (by decide) (fun c1 => ?_) (fun c1 => ?_)
  · refine hiload_n X dX1_allAreIn_28 rfl ?_
    refine haload_n X dX1_allAreIn_29 rfl ?_
    refine hget1 X (T := TX1) (N := 7) iX1 0 rfl rfl 2 (by decide) (by decide +kernel) rfl dX1_allAreIn_30 ?_
    refine hiconst (v := 4) X dX1_allAreIn_33 rfl ?_
    refine hV_perm (ws' := stW G h n F ++ hrS G h c F) (pmS G h _ _ _) ?_
    refine hcallVr (C := RX6) (T := TX6) (N := 11) (As := [.int 4]) (rest := [.int (hcnt n F 6), .int (nI n)]) (st' := [.int (hcnt n F 4), .int (hcnt n F 6), .int (nI n)]) (w := stW G h n F) X (q0 := 0) (kX6_countIn l G h F n 4 (by first | assumption | omega)) gX1_allAreIn_X6_countIn rfl (n := 1) (by decide +kernel) (by decide) rfl rfl rfl rfl (Nat.le_of_ble_eq_true rfl) dX1_allAreIn_34 rfl rfl (by decide) rfl ?_
    refine hV_perm (ws' := haW G h n c F) (pmS G h _ _ _).symm ?_
    refine hiadd X dX1_allAreIn_37 ?_
    refine hicmp_ne (tgt := 45) X dX1_allAreIn_38 (by decide) (fun c2 => ?_) (fun c2 => ?_)
    · refine hiconst (v := 0) X dX1_allAreIn_45 rfl ?_
      refine hzret X rfl dX1_allAreIn_46 ⟨congrArg (fun z => some (Value.int z)) (?_ : 0 = bI (aiP n F)), ?_⟩
      · simp [bI, aiP, c1, c2]
      rfl
    · refine hiconst (v := 1) X dX1_allAreIn_41 rfl ?_
      refine hgoto (tgt := 46) X dX1_allAreIn_42 (by decide) ?_
      refine hzret X rfl dX1_allAreIn_46 ⟨congrArg (fun z => some (Value.int z)) (?_ : 1 = bI (aiP n F)), ?_⟩
      · simp [bI, aiP, c1, c2]
      rfl
  · refine hiload_n X dX1_allAreIn_24 rfl ?_
    refine hgoto (tgt := 38) X dX1_allAreIn_25 (by decide) ?_
    refine hicmp_ne (tgt := 45) X dX1_allAreIn_38 (by decide) (fun c3 => ?_) (fun c3 => ?_)
    · refine hiconst (v := 0) X dX1_allAreIn_45 rfl ?_
      refine hzret X rfl dX1_allAreIn_46 ⟨congrArg (fun z => some (Value.int z)) (?_ : 0 = bI (aiP n F)), ?_⟩
      · simp [bI, aiP, c1, c3]
      rfl
    · refine hiconst (v := 1) X dX1_allAreIn_41 rfl ?_
      refine hgoto (tgt := 46) X dX1_allAreIn_42 (by decide) ?_
      refine hzret X rfl dX1_allAreIn_46 ⟨congrArg (fun z => some (Value.int z)) (?_ : 1 = bI (aiP n F)), ?_⟩
      · simp [bI, aiP, c1, c3]
      rfl

set_option maxHeartbeats 4000000 in
set_option maxRecDepth 100000 in
theorem kX1_hoursUntilAllIn (l : Launch) (G : hG) (h : Nat → Nat) (F : hF) (n c : Nat) (hn : n ≤ 20) (hc : c ≤ 6) (mo : Nat) (hmo : mo ≤ 1000) : hM l G yX1_hoursUntilAllIn wsX1_hoursUntilAllIn ({ frames := 6, cells := 0, slots := 0, locals := 151 }) (haW G h n c F) [.ref (h 0), .int (nI mo)] (hR (some (.int ((huN n c (F 18 0) (nI mo) mo F).1))) (haW G h n c ((huN n c (F 18 0) (nI mo) mo F).2))) := by
  refine hM_of (cc := cX1_hoursUntilAllIn) (maxL := 6) (ret := (some .int)) (by decide) rfl (Nat.le_of_ble_eq_true rfl) ?_
  intro pp ee ss mm aa bb me cd X hin
  have iX1 : ∀ w ∈ wsX10, w ∈ wsX1_hoursUntilAllIn := by decide +kernel
  have L : ∀ (d : Nat) (k : Nat) (F' : hF), (k ≤ mo) → (huN n c (F 18 0) (nI mo) (mo - k) F' = huN n c (F 18 0) (nI mo) mo F) → (mo - k) < d → hV pp l ee ({ frames := 6, cells := 0, slots := 0, locals := 151 }) ss mm aa bb me cd G (va_A (haW G h n c F) ss.heap.size) 6 0 0 (MQ bb (hQc G (haW G h n c F) ss.heap.size (hR (some (.int ((huN n c (F 18 0) (nI mo) mo F).1))) (haW G h n c ((huN n c (F 18 0) (nI mo) mo F).2)))) aa ss 0 0 (va_A (haW G h n c F) ss.heap.size)) (haW G h n c F') 7 [(3, .int (nI k)), (2, .int (F 18 0)), (0, .ref (h 0)), (1, .int (nI mo))] [] := by
    intro d
    induction d with
    | zero =>
      intro k F' hk hE hd0
      exact absurd hd0 (Nat.not_lt_zero _)
    | succ d ih =>
      intro k F' hk hE hd0
      refine hiload_n X dX1_hoursUntilAllIn_7 rfl ?_
      refine hiload_n X dX1_hoursUntilAllIn_8 rfl ?_
      refine hicmp_ge (tgt := 77) X dX1_hoursUntilAllIn_9 (by decide) (fun c1 => ?_) (fun c1 => ?_)
      · have ek := i_ge hk (by omega) c1
        refine haload_n X dX1_hoursUntilAllIn_77 rfl ?_
        refine hcallV0 (C := RX1) (T := TX1) (N := 7) (As := []) (rest := []) (st' := [.int (bI (aiP n F'))]) (w := haW G h n c F') X (q0 := 0) (kX1_allAreIn l G h F' n c (by first | assumption | omega | simp [fs_at, *]) (by first | assumption | omega | simp [fs_at, *])) gX1_hoursUntilAllIn_X1_allAreIn rfl (n := 0) (by decide +kernel) (by decide) rfl rfl rfl rfl (Nat.le_of_ble_eq_true rfl) dX1_hoursUntilAllIn_78 rfl rfl (by decide) rfl ?_
        refine hif_eqB (tgt := 93) X dX1_hoursUntilAllIn_81 (by decide) (fun c2 => ?_) (fun c2 => ?_)
        · refine hbipush (v := (-6)) X dX1_hoursUntilAllIn_93 rfl ?_
          refine hiret X dX1_hoursUntilAllIn_95 ⟨congrArg (fun z => some (Value.int z)) (?_ : (-6) = (huN n c (F 18 0) (nI mo) mo F).1), ?_⟩
          · rw [← hE, ek, Nat.sub_self, huN, if_neg c2]
            first | done | rfl
          refine congrArg (haW G h n c) (?_ : (F' : hF) = (huN n c (F 18 0) (nI mo) mo F).2)
          rw [← hE, ek, Nat.sub_self, huN]
          first | done | rfl
        · refine haload_n X dX1_hoursUntilAllIn_84 rfl ?_
          refine hget1 X (T := TX1) (N := 7) iX1 0 rfl rfl 4 (by decide) (by decide +kernel) rfl dX1_hoursUntilAllIn_85 ?_
          refine hiload_n X dX1_hoursUntilAllIn_88 rfl ?_
          refine hisub X dX1_hoursUntilAllIn_89 ?_
          refine hgoto (tgt := 95) X dX1_hoursUntilAllIn_90 (by decide) ?_
          refine hiret X dX1_hoursUntilAllIn_95 ⟨congrArg (fun z => some (Value.int z)) (?_ : ((F' 18 0) - (F 18 0)) = (huN n c (F 18 0) (nI mo) mo F).1), ?_⟩
          · rw [← hE, ek, Nat.sub_self, huN, if_pos c2]
            first | done | rfl
          refine congrArg (haW G h n c) (?_ : (F' : hF) = (huN n c (F 18 0) (nI mo) mo F).2)
          rw [← hE, ek, Nat.sub_self, huN]
          first | done | rfl
      · have hk1 := i_lt hk (by omega) c1
        refine haload_n X dX1_hoursUntilAllIn_12 rfl ?_
        refine hcallV0 (C := RX1) (T := TX1) (N := 7) (As := []) (rest := []) (st' := [.int (bI (aiP n F'))]) (w := haW G h n c F') X (q0 := 0) (kX1_allAreIn l G h F' n c (by first | assumption | omega | simp [fs_at, *]) (by first | assumption | omega | simp [fs_at, *])) gX1_hoursUntilAllIn_X1_allAreIn rfl (n := 0) (by decide +kernel) (by decide) rfl rfl rfl rfl (Nat.le_of_ble_eq_true rfl) dX1_hoursUntilAllIn_13 rfl rfl (by decide) rfl ?_
        refine hif_neB (tgt := 77) X dX1_hoursUntilAllIn_16 (by decide) (fun c3 => ?_) (fun c3 => ?_)
        · refine haload_n X dX1_hoursUntilAllIn_77 rfl ?_
          refine hcallV0 (C := RX1) (T := TX1) (N := 7) (As := []) (rest := []) (st' := [.int (bI (aiP n F'))]) (w := haW G h n c F') X (q0 := 0) (kX1_allAreIn l G h F' n c (by first | assumption | omega | simp [fs_at, *]) (by first | assumption | omega | simp [fs_at, *])) gX1_hoursUntilAllIn_X1_allAreIn rfl (n := 0) (by decide +kernel) (by decide) rfl rfl rfl rfl (Nat.le_of_ble_eq_true rfl) dX1_hoursUntilAllIn_78 rfl rfl (by decide) rfl ?_
          refine hif_eqB (tgt := 93) X dX1_hoursUntilAllIn_81 (by decide) (fun c4 => ?_) (fun c4 => ?_)
          · exact absurd c3 c4
          refine haload_n X dX1_hoursUntilAllIn_84 rfl ?_
          refine hget1 X (T := TX1) (N := 7) iX1 0 rfl rfl 4 (by decide) (by decide +kernel) rfl dX1_hoursUntilAllIn_85 ?_
          refine hiload_n X dX1_hoursUntilAllIn_88 rfl ?_
          refine hisub X dX1_hoursUntilAllIn_89 ?_
          refine hgoto (tgt := 95) X dX1_hoursUntilAllIn_90 (by decide) ?_
          refine hiret X dX1_hoursUntilAllIn_95 ⟨congrArg (fun z => some (Value.int z)) (?_ : ((F' 18 0) - (F 18 0)) = (huN n c (F 18 0) (nI mo) mo F).1), ?_⟩
          · rw [← hE, show mo - k = (mo - (k + 1)) + 1 by omega, huN, if_pos c3]
            first | done | rfl
          refine congrArg (haW G h n c) (?_ : (F' : hF) = (huN n c (F 18 0) (nI mo) mo F).2)
          rw [← hE, show mo - k = (mo - (k + 1)) + 1 by omega, huN, if_pos c3]
          first | done | rfl
        · refine hiload_n X dX1_hoursUntilAllIn_19 rfl ?_
          refine hiload_n X dX1_hoursUntilAllIn_20 rfl ?_
          refine hiadd X dX1_hoursUntilAllIn_21 ?_
          refine haload_n X dX1_hoursUntilAllIn_22 rfl ?_
          refine hget1 X (T := TX1) (N := 7) iX1 0 rfl rfl 4 (by decide) (by decide +kernel) rfl dX1_hoursUntilAllIn_23 ?_
          refine hisub X dX1_hoursUntilAllIn_26 ?_
          refine histore (lv' := [(4, .int (((F 18 0) + (nI mo)) - (F' 18 0))), (3, .int (nI k)), (2, .int (F 18 0)), (0, .ref (h 0)), (1, .int (nI mo))]) X dX1_hoursUntilAllIn_27 (by decide) rfl ?_
          refine hiload X dX1_hoursUntilAllIn_29 rfl ?_
          refine hif_gt (tgt := 37) X dX1_hoursUntilAllIn_31 (by decide) (fun c5 => ?_) (fun c5 => ?_)
          · refine haload_n X dX1_hoursUntilAllIn_37 rfl ?_
            refine hcallV0 (C := RX1) (T := TX1) (N := 7) (As := []) (rest := []) (st' := [.int (p1R n c F')]) (w := haW G h n c (p1H n c F')) X (q0 := 0) (kX1_passOneHour l G h F' n c (by first | assumption | omega | simp [fs_at, *]) (by first | assumption | omega | simp [fs_at, *])) gX1_hoursUntilAllIn_X1_passOneHour rfl (n := 0) (by decide +kernel) (by decide) rfl rfl rfl rfl (Nat.le_of_ble_eq_true rfl) dX1_hoursUntilAllIn_38 rfl rfl (by decide) rfl ?_
            refine hif_ne (tgt := 48) X dX1_hoursUntilAllIn_41 (by decide) (fun c6 => ?_) (fun c6 => ?_)
            · refine hiconst (v := 0) X dX1_hoursUntilAllIn_48 rfl ?_
              refine histore (lv' := [(5, .int 0), (4, .int (((F 18 0) + (nI mo)) - (F' 18 0))), (3, .int (nI k)), (2, .int (F 18 0)), (0, .ref (h 0)), (1, .int (nI mo))]) X dX1_hoursUntilAllIn_49 (by decide) rfl ?_
              refine hiload X dX1_hoursUntilAllIn_51 rfl ?_
              refine hif_eq (tgt := 71) X dX1_hoursUntilAllIn_53 (by decide) (fun c7 => ?_) (fun c7 => ?_)
              rotate_left
              · exact absurd (by decide) c7
              refine hiinc (v := nI (k + 1)) (lv' := [(3, .int (nI (k + 1))), (5, .int 0), (4, .int (((F 18 0) + (nI mo)) - (F' 18 0))), (2, .int (F 18 0)), (0, .ref (h 0)), (1, .int (nI mo))]) X dX1_hoursUntilAllIn_71 rfl (nI_1 _) (by decide) rfl ?_
              refine hgoto (tgt := 7) X dX1_hoursUntilAllIn_74 (by decide) ?_
              refine hV_lv (lv' := [(3, .int (nI (k + 1))), (2, .int (F 18 0)), (0, .ref (h 0)), (1, .int (nI mo))]) [0, 3, 4, 5] rfl ?_
              exact hV_to (ws' := haW G h n c (p1H n c F')) (lv' := [(3, .int (nI (k + 1))), (2, .int (F 18 0)), (0, .ref (h 0)), (1, .int (nI mo))]) (st' := []) rfl rfl rfl (ih (k + 1) (p1H n c F') (by omega) (by rw [← hE, show mo - k = (mo - (k + 1)) + 1 by omega, huN, if_neg c3, if_pos c5, if_neg c6]) (by omega))
            · refine hiconst (v := 1) X dX1_hoursUntilAllIn_44 rfl ?_
              refine hgoto (tgt := 49) X dX1_hoursUntilAllIn_45 (by decide) ?_
              refine histore (lv' := [(5, .int 1), (4, .int (((F 18 0) + (nI mo)) - (F' 18 0))), (3, .int (nI k)), (2, .int (F 18 0)), (0, .ref (h 0)), (1, .int (nI mo))]) X dX1_hoursUntilAllIn_49 (by decide) rfl ?_
              refine hiload X dX1_hoursUntilAllIn_51 rfl ?_
              refine hif_eq (tgt := 71) X dX1_hoursUntilAllIn_53 (by decide) (fun c8 => ?_) (fun c8 => ?_)
              · exact absurd c8 (by decide)
              refine haload_n X dX1_hoursUntilAllIn_56 rfl ?_
              refine haload_n X dX1_hoursUntilAllIn_57 rfl ?_
              refine hcallV0 (C := RX1) (T := TX1) (N := 7) (As := []) (rest := [.ref (h 0)]) (st' := [.int (qhH n c (p1H n c F')), .ref (h 0)]) (w := haW G h n c (p1H n c F')) X (q0 := 0) (kX1_quietHours l G h (p1H n c F') n c (by first | assumption | omega | simp [fs_at, *]) (by first | assumption | omega | simp [fs_at, *])) gX1_hoursUntilAllIn_X1_quietHours rfl (n := 0) (by decide +kernel) (by decide) rfl rfl rfl rfl (Nat.le_of_ble_eq_true rfl) dX1_hoursUntilAllIn_58 rfl rfl (by decide) rfl ?_
              refine hiload X dX1_hoursUntilAllIn_61 rfl ?_
              refine hiconst (v := 1) X dX1_hoursUntilAllIn_63 rfl ?_
              refine hisub X dX1_hoursUntilAllIn_64 ?_
              refine hmmin X (by decide +kernel) (by decide +kernel) (by decide +kernel) (by decide +kernel) (by decide) (Nat.le_of_ble_eq_true rfl) (by decide) (by decide) dX1_hoursUntilAllIn_65 ?_
              refine hV_st (st' := [.int (mnI (qhH n c (p1H n c F')) ((((F 18 0) + (nI mo)) - (F' 18 0)) - 1)), .ref (h 0)]) (congrArg (fun z => ([Value.int z, .ref (h 0)] : List Value)) (rfl)) ?_
              refine hcallV0 (C := RX1) (T := TX1) (N := 7) (As := [.int (mnI (qhH n c (p1H n c F')) ((((F 18 0) + (nI mo)) - (F' 18 0)) - 1))]) (rest := []) (st' := []) (w := haW G h n c (pqH n c (mnI (qhH n c (p1H n c F')) ((((F 18 0) + (nI mo)) - (F' 18 0)) - 1)) (p1H n c F'))) X (q0 := 0) (kX1_passQuietHours l G h (p1H n c F') n c (by first | assumption | omega | simp [fs_at, *]) (by first | assumption | omega | simp [fs_at, *]) (mnI (qhH n c (p1H n c F')) ((((F 18 0) + (nI mo)) - (F' 18 0)) - 1))) gX1_hoursUntilAllIn_X1_passQuietHours rfl (n := 1) (by decide +kernel) (by decide) rfl rfl rfl rfl (Nat.le_of_ble_eq_true rfl) dX1_hoursUntilAllIn_68 rfl rfl (by decide) rfl ?_
              refine hiinc (v := nI (k + 1)) (lv' := [(3, .int (nI (k + 1))), (5, .int 1), (4, .int (((F 18 0) + (nI mo)) - (F' 18 0))), (2, .int (F 18 0)), (0, .ref (h 0)), (1, .int (nI mo))]) X dX1_hoursUntilAllIn_71 rfl (nI_1 _) (by decide) rfl ?_
              refine hgoto (tgt := 7) X dX1_hoursUntilAllIn_74 (by decide) ?_
              refine hV_lv (lv' := [(3, .int (nI (k + 1))), (2, .int (F 18 0)), (0, .ref (h 0)), (1, .int (nI mo))]) [0, 3, 4, 5] rfl ?_
              exact hV_to (ws' := haW G h n c (pqH n c (mnI (qhH n c (p1H n c F')) ((((F 18 0) + (nI mo)) - (F' 18 0)) - 1)) (p1H n c F'))) (lv' := [(3, .int (nI (k + 1))), (2, .int (F 18 0)), (0, .ref (h 0)), (1, .int (nI mo))]) (st' := []) rfl rfl rfl (ih (k + 1) (pqH n c (mnI (qhH n c (p1H n c F')) ((((F 18 0) + (nI mo)) - (F' 18 0)) - 1)) (p1H n c F')) (by omega) (by rw [← hE, show mo - k = (mo - (k + 1)) + 1 by omega, huN, if_neg c3, if_pos c5, if_pos c6]) (by omega))
          · refine hbipush (v := (-6)) X dX1_hoursUntilAllIn_34 rfl ?_
            refine hiret X dX1_hoursUntilAllIn_36 ⟨congrArg (fun z => some (Value.int z)) (?_ : (-6) = (huN n c (F 18 0) (nI mo) mo F).1), ?_⟩
            · rw [← hE, show mo - k = (mo - (k + 1)) + 1 by omega, huN, if_neg c3, if_neg c5]
              first | done | rfl
            refine congrArg (haW G h n c) (?_ : (F' : hF) = (huN n c (F 18 0) (nI mo) mo F).2)
            rw [← hE, show mo - k = (mo - (k + 1)) + 1 by omega, huN, if_neg c3, if_neg c5]
            first | done | rfl
  refine haload_n X dX1_hoursUntilAllIn_0 rfl ?_
  refine hget1 X (T := TX1) (N := 7) iX1 0 rfl rfl 4 (by decide) (by decide +kernel) rfl dX1_hoursUntilAllIn_1 ?_
  refine histore_n (lv' := [(2, .int (F 18 0)), (0, .ref (h 0)), (1, .int (nI mo))]) X dX1_hoursUntilAllIn_4 (by decide) rfl ?_
  refine hiconst (v := 0) X dX1_hoursUntilAllIn_5 rfl ?_
  refine histore_n (lv' := [(3, .int 0), (2, .int (F 18 0)), (0, .ref (h 0)), (1, .int (nI mo))]) X dX1_hoursUntilAllIn_6 (by decide) rfl ?_
  exact hV_to (ws' := haW G h n c F) (lv' := [(3, .int 0), (2, .int (F 18 0)), (0, .ref (h 0)), (1, .int (nI mo))]) (st' := []) rfl rfl rfl (L _ 0 F (Nat.zero_le _) rfl (Nat.lt_succ_self _))

set_option maxHeartbeats 4000000 in
set_option maxRecDepth 100000 in
theorem kX1_addStand (l : Launch) (G : hG) (h : Nat → Nat) (F : hF) (n c : Nat) (hn : n ≤ 20) (hc : c ≤ 6) (w1 w2 w3 w4 : Int32) : hM l G yX1_addStand wsX1_addStand ({ frames := 3, cells := 0, slots := 0, locals := 82 }) (haW G h n c F) [.ref (h 0), .int w1, .int w2, .int w3, .int w4] (hR (some (.int ((adT n F w1 w2 w3 w4).1))) (haW G h ((adT n F w1 w2 w3 w4).2.1) c ((adT n F w1 w2 w3 w4).2.2))) := by
  refine hM_of (cc := cX1_addStand) (maxL := 5) (ret := (some .int)) (by decide) rfl (Nat.le_of_ble_eq_true rfl) ?_
  intro pp ee ss mm aa bb me cd X hin
  have iX1 : ∀ w ∈ wsX10, w ∈ wsX1_addStand := by decide +kernel
  have iX6 : ∀ w ∈ wsX60, w ∈ wsX1_addStand := by decide +kernel
  refine hiload_n X dX1_addStand_0 rfl ?_
  refine hiconst (v := 1) X dX1_addStand_1 rfl ?_
  refine hbipush (v := 99) X dX1_addStand_2 rfl ?_
  refine hcallSNr (wsC := []) (wsR := haW G h n c F) (As := [.int w1, .int 1, .int 99]) (rest := []) (st' := [.int (bI (wI w1 1 99))]) (w := []) X (kX7_isWithin l G w1 1 99) gX1_addStand_X7_isWithin_n65 rfl (n := 3) (by decide +kernel) (by decide +kernel) (by decide +kernel) (by decide +kernel) (by decide) rfl rfl (Nat.le_of_ble_eq_true rfl) dX1_addStand_4 rfl rfl (by decide) rfl ?_
  refine hV_to (ws' := haW G h n c F) rfl rfl rfl ?_
  refine hif_neB (tgt := 13) X dX1_addStand_7 (by decide) (fun c1 => ?_) (fun c1 => ?_)
  · refine hiload_n X dX1_addStand_13 rfl ?_
    refine hiconst (v := 1) X dX1_addStand_14 rfl ?_
    refine hbipush (v := 20) X dX1_addStand_15 rfl ?_
    refine hcallSNr (wsC := []) (wsR := haW G h n c F) (As := [.int w2, .int 1, .int 20]) (rest := []) (st' := [.int (bI (wI w2 1 20))]) (w := []) X (kX7_isWithin l G w2 1 20) gX1_addStand_X7_isWithin_n65 rfl (n := 3) (by decide +kernel) (by decide +kernel) (by decide +kernel) (by decide +kernel) (by decide) rfl rfl (Nat.le_of_ble_eq_true rfl) dX1_addStand_17 rfl rfl (by decide) rfl ?_
    refine hV_to (ws' := haW G h n c F) rfl rfl rfl ?_
    refine hif_neB (tgt := 26) X dX1_addStand_20 (by decide) (fun c2 => ?_) (fun c2 => ?_)
    · refine hiload_n X dX1_addStand_26 rfl ?_
      refine hiconst (v := 0) X dX1_addStand_27 rfl ?_
      refine hbipush (v := 99) X dX1_addStand_28 rfl ?_
      refine hcallSNr (wsC := []) (wsR := haW G h n c F) (As := [.int w3, .int 0, .int 99]) (rest := []) (st' := [.int (bI (wI w3 0 99))]) (w := []) X (kX7_isWithin l G w3 0 99) gX1_addStand_X7_isWithin_n65 rfl (n := 3) (by decide +kernel) (by decide +kernel) (by decide +kernel) (by decide +kernel) (by decide) rfl rfl (Nat.le_of_ble_eq_true rfl) dX1_addStand_30 rfl rfl (by decide) rfl ?_
      refine hV_to (ws' := haW G h n c F) rfl rfl rfl ?_
      refine hif_neB (tgt := 39) X dX1_addStand_33 (by decide) (fun c3 => ?_) (fun c3 => ?_)
      · refine hiload X dX1_addStand_39 rfl ?_
        refine hbipush (v := (-6)) X dX1_addStand_41 rfl ?_
        refine hicmp_eq (tgt := 60) X dX1_addStand_43 (by decide) (fun c4 => ?_) (fun c4 => ?_)
        · refine haload_n X dX1_addStand_60 rfl ?_
          refine hget1 X (T := TX1) (N := 7) iX1 0 rfl rfl 2 (by decide) (by decide +kernel) rfl dX1_addStand_61 ?_
          refine hgetN X (T := TX6) (N := 11) iX6 3 rfl rfl 0 (by decide) (by decide +kernel) rfl dX1_addStand_64 ?_
          refine hbipush (v := 20) X dX1_addStand_67 rfl ?_
          refine hicmp_lt (tgt := 75) X dX1_addStand_69 (by decide) (fun c5 => ?_) (fun c5 => ?_)
          · have hlt : n < 20 := (nI_ltI (a := n) (b := 20) (by omega) (by decide)).mp c5
            refine haload_n X dX1_addStand_75 rfl ?_
            refine hget1 X (T := TX1) (N := 7) iX1 0 rfl rfl 5 (by decide) (by decide +kernel) rfl dX1_addStand_76 ?_
            refine hif_ne (tgt := 94) X dX1_addStand_79 (by decide) (fun c6 => ?_) (fun c6 => ?_)
            · refine hbipush (v := (-5)) X dX1_addStand_94 rfl ?_
              refine hiret X dX1_addStand_96 ⟨congrArg (fun z => some (Value.int z)) (?_ : (-5) = (adT n F w1 w2 w3 w4).1), ?_⟩
              · unfold adT
                rw [if_pos c1, if_pos c2, if_pos c3, if_pos (Or.inl c4), if_pos hlt, if_neg c6]
                first | done | rfl
              unfold adT
              rw [if_pos c1, if_pos c2, if_pos c3, if_pos (Or.inl c4), if_pos hlt, if_neg c6]
              first | done | rfl
            · refine haload_n X dX1_addStand_82 rfl ?_
              refine hget1 X (T := TX1) (N := 7) iX1 0 rfl rfl 2 (by decide) (by decide +kernel) rfl dX1_addStand_83 ?_
              refine hiload X dX1_addStand_86 rfl ?_
              refine hV_perm (ws' := stW G h n F ++ hrS G h c F) (pmS G h _ _ _) ?_
              refine hcallVr (C := RX6) (T := TX6) (N := 11) (As := [.int w4]) (rest := []) (st' := [.int (bI (hhas n w4 ∧ F 4 w4.toNatClampNeg = 6))]) (w := stW G h n F) X (q0 := 0) (kX6_isGone l G h F n w4 (by first | assumption | omega | simp [fs_at, *])) gX1_addStand_X6_isGone rfl (n := 1) (by decide +kernel) (by decide) rfl rfl rfl rfl (Nat.le_of_ble_eq_true rfl) dX1_addStand_88 rfl rfl (by decide) rfl ?_
              refine hV_perm (ws' := haW G h n c F) (pmS G h _ _ _).symm ?_
              refine hif_eqB (tgt := 97) X dX1_addStand_91 (by decide) (fun c7 => ?_) (fun c7 => ?_)
              · refine haload_n X dX1_addStand_97 rfl ?_
                refine hget1 X (T := TX1) (N := 7) iX1 0 rfl rfl 2 (by decide) (by decide +kernel) rfl dX1_addStand_98 ?_
                refine hiload_n X dX1_addStand_101 rfl ?_
                refine hiload_n X dX1_addStand_102 rfl ?_
                refine hiload_n X dX1_addStand_103 rfl ?_
                refine hiload X dX1_addStand_104 rfl ?_
                refine hV_perm (ws' := stW G h n F ++ hrS G h c F) (pmS G h _ _ _) ?_
                refine hcallVr (C := RX6) (T := TX6) (N := 11) (As := [.int w1, .int w2, .int w3, .int w4]) (rest := []) (st' := [.int (nI n)]) (w := stW G h (n + 1) (apS F n w1 w2 w3 w4)) X (q0 := 0) (kX6_append l G h F n (by first | assumption | omega | simp [fs_at, *]) w1 w2 w3 w4) gX1_addStand_X6_append rfl (n := 4) (by decide +kernel) (by decide) rfl rfl rfl rfl (Nat.le_of_ble_eq_true rfl) dX1_addStand_106 rfl rfl (by decide) rfl ?_
                refine hV_perm (ws' := haW G h (n + 1) c (apS F n w1 w2 w3 w4)) (pmS' (by intro j hj; unfold apS; simp only [fs]; repeat rw [if_neg (by omega)])) ?_
                refine hiret X dX1_addStand_109 ⟨congrArg (fun z => some (Value.int z)) (?_ : (nI n) = (adT n F w1 w2 w3 w4).1), ?_⟩
                · unfold adT
                  rw [if_pos c1, if_pos c2, if_pos c3, if_pos (Or.inl c4), if_pos hlt, if_pos c6, if_neg c7]
                  first | done | rfl
                unfold adT
                rw [if_pos c1, if_pos c2, if_pos c3, if_pos (Or.inl c4), if_pos hlt, if_pos c6, if_neg c7]
                first | done | rfl
              · refine hbipush (v := (-5)) X dX1_addStand_94 rfl ?_
                refine hiret X dX1_addStand_96 ⟨congrArg (fun z => some (Value.int z)) (?_ : (-5) = (adT n F w1 w2 w3 w4).1), ?_⟩
                · unfold adT
                  rw [if_pos c1, if_pos c2, if_pos c3, if_pos (Or.inl c4), if_pos hlt, if_pos c6, if_pos c7]
                  first | done | rfl
                unfold adT
                rw [if_pos c1, if_pos c2, if_pos c3, if_pos (Or.inl c4), if_pos hlt, if_pos c6, if_pos c7]
                first | done | rfl
          · have hlt : ¬ n < 20 := fun z9 => c5 ((nI_ltI (a := n) (b := 20) (by omega) (by decide)).mpr z9)
            refine hbipush (v := (-4)) X dX1_addStand_72 rfl ?_
            refine hiret X dX1_addStand_74 ⟨congrArg (fun z => some (Value.int z)) (?_ : (-4) = (adT n F w1 w2 w3 w4).1), ?_⟩
            · unfold adT
              rw [if_pos c1, if_pos c2, if_pos c3, if_pos (Or.inl c4), if_neg hlt]
              first | done | rfl
            unfold adT
            rw [if_pos c1, if_pos c2, if_pos c3, if_pos (Or.inl c4), if_neg hlt]
            first | done | rfl
        · refine haload_n X dX1_addStand_46 rfl ?_
          refine hget1 X (T := TX1) (N := 7) iX1 0 rfl rfl 2 (by decide) (by decide +kernel) rfl dX1_addStand_47 ?_
          refine hiload X dX1_addStand_50 rfl ?_
          refine hV_perm (ws' := stW G h n F ++ hrS G h c F) (pmS G h _ _ _) ?_
          refine hcallVr (C := RX6) (T := TX6) (N := 11) (As := [.int w4]) (rest := []) (st' := [.int (bI (hhas n w4))]) (w := stW G h n F) X (q0 := 0) (kX6_has l G h F n w4) gX1_addStand_X6_has rfl (n := 1) (by decide +kernel) (by decide) rfl rfl rfl rfl (Nat.le_of_ble_eq_true rfl) dX1_addStand_52 rfl rfl (by decide) rfl ?_
          refine hV_perm (ws' := haW G h n c F) (pmS G h _ _ _).symm ?_
          refine hif_neB (tgt := 60) X dX1_addStand_55 (by decide) (fun c8 => ?_) (fun c8 => ?_)
          · refine haload_n X dX1_addStand_60 rfl ?_
            refine hget1 X (T := TX1) (N := 7) iX1 0 rfl rfl 2 (by decide) (by decide +kernel) rfl dX1_addStand_61 ?_
            refine hgetN X (T := TX6) (N := 11) iX6 3 rfl rfl 0 (by decide) (by decide +kernel) rfl dX1_addStand_64 ?_
            refine hbipush (v := 20) X dX1_addStand_67 rfl ?_
            refine hicmp_lt (tgt := 75) X dX1_addStand_69 (by decide) (fun c9 => ?_) (fun c9 => ?_)
            · have hlt : n < 20 := (nI_ltI (a := n) (b := 20) (by omega) (by decide)).mp c9
              refine haload_n X dX1_addStand_75 rfl ?_
              refine hget1 X (T := TX1) (N := 7) iX1 0 rfl rfl 5 (by decide) (by decide +kernel) rfl dX1_addStand_76 ?_
              refine hif_ne (tgt := 94) X dX1_addStand_79 (by decide) (fun c10 => ?_) (fun c10 => ?_)
              · refine hbipush (v := (-5)) X dX1_addStand_94 rfl ?_
                refine hiret X dX1_addStand_96 ⟨congrArg (fun z => some (Value.int z)) (?_ : (-5) = (adT n F w1 w2 w3 w4).1), ?_⟩
                · unfold adT
                  rw [if_pos c1, if_pos c2, if_pos c3, if_pos (Or.inr c8), if_pos hlt, if_neg c10]
                  first | done | rfl
                unfold adT
                rw [if_pos c1, if_pos c2, if_pos c3, if_pos (Or.inr c8), if_pos hlt, if_neg c10]
                first | done | rfl
              · refine haload_n X dX1_addStand_82 rfl ?_
                refine hget1 X (T := TX1) (N := 7) iX1 0 rfl rfl 2 (by decide) (by decide +kernel) rfl dX1_addStand_83 ?_
                refine hiload X dX1_addStand_86 rfl ?_
                refine hV_perm (ws' := stW G h n F ++ hrS G h c F) (pmS G h _ _ _) ?_
                refine hcallVr (C := RX6) (T := TX6) (N := 11) (As := [.int w4]) (rest := []) (st' := [.int (bI (hhas n w4 ∧ F 4 w4.toNatClampNeg = 6))]) (w := stW G h n F) X (q0 := 0) (kX6_isGone l G h F n w4 (by first | assumption | omega | simp [fs_at, *])) gX1_addStand_X6_isGone rfl (n := 1) (by decide +kernel) (by decide) rfl rfl rfl rfl (Nat.le_of_ble_eq_true rfl) dX1_addStand_88 rfl rfl (by decide) rfl ?_
                refine hV_perm (ws' := haW G h n c F) (pmS G h _ _ _).symm ?_
                refine hif_eqB (tgt := 97) X dX1_addStand_91 (by decide) (fun c11 => ?_) (fun c11 => ?_)
                · refine haload_n X dX1_addStand_97 rfl ?_
                  refine hget1 X (T := TX1) (N := 7) iX1 0 rfl rfl 2 (by decide) (by decide +kernel) rfl dX1_addStand_98 ?_
                  refine hiload_n X dX1_addStand_101 rfl ?_
                  refine hiload_n X dX1_addStand_102 rfl ?_
                  refine hiload_n X dX1_addStand_103 rfl ?_
                  refine hiload X dX1_addStand_104 rfl ?_
                  refine hV_perm (ws' := stW G h n F ++ hrS G h c F) (pmS G h _ _ _) ?_
                  refine hcallVr (C := RX6) (T := TX6) (N := 11) (As := [.int w1, .int w2, .int w3, .int w4]) (rest := []) (st' := [.int (nI n)]) (w := stW G h (n + 1) (apS F n w1 w2 w3 w4)) X (q0 := 0) (kX6_append l G h F n (by first | assumption | omega | simp [fs_at, *]) w1 w2 w3 w4) gX1_addStand_X6_append rfl (n := 4) (by decide +kernel) (by decide) rfl rfl rfl rfl (Nat.le_of_ble_eq_true rfl) dX1_addStand_106 rfl rfl (by decide) rfl ?_
                  refine hV_perm (ws' := haW G h (n + 1) c (apS F n w1 w2 w3 w4)) (pmS' (by intro j hj; unfold apS; simp only [fs]; repeat rw [if_neg (by omega)])) ?_
                  refine hiret X dX1_addStand_109 ⟨congrArg (fun z => some (Value.int z)) (?_ : (nI n) = (adT n F w1 w2 w3 w4).1), ?_⟩
                  · unfold adT
                    rw [if_pos c1, if_pos c2, if_pos c3, if_pos (Or.inr c8), if_pos hlt, if_pos c10, if_neg c11]
                    first | done | rfl
                  unfold adT
                  rw [if_pos c1, if_pos c2, if_pos c3, if_pos (Or.inr c8), if_pos hlt, if_pos c10, if_neg c11]
                  first | done | rfl
                · refine hbipush (v := (-5)) X dX1_addStand_94 rfl ?_
                  refine hiret X dX1_addStand_96 ⟨congrArg (fun z => some (Value.int z)) (?_ : (-5) = (adT n F w1 w2 w3 w4).1), ?_⟩
                  · unfold adT
                    rw [if_pos c1, if_pos c2, if_pos c3, if_pos (Or.inr c8), if_pos hlt, if_pos c10, if_pos c11]
                    first | done | rfl
                  unfold adT
                  rw [if_pos c1, if_pos c2, if_pos c3, if_pos (Or.inr c8), if_pos hlt, if_pos c10, if_pos c11]
                  first | done | rfl
            · have hlt : ¬ n < 20 := fun z9 => c9 ((nI_ltI (a := n) (b := 20) (by omega) (by decide)).mpr z9)
              refine hbipush (v := (-4)) X dX1_addStand_72 rfl ?_
              refine hiret X dX1_addStand_74 ⟨congrArg (fun z => some (Value.int z)) (?_ : (-4) = (adT n F w1 w2 w3 w4).1), ?_⟩
              · unfold adT
                rw [if_pos c1, if_pos c2, if_pos c3, if_pos (Or.inr c8), if_neg hlt]
                first | done | rfl
              unfold adT
              rw [if_pos c1, if_pos c2, if_pos c3, if_pos (Or.inr c8), if_neg hlt]
              first | done | rfl
          · refine hiconst (v := (-1)) X dX1_addStand_58 rfl ?_
            refine hiret X dX1_addStand_59 ⟨congrArg (fun z => some (Value.int z)) (?_ : (-1) = (adT n F w1 w2 w3 w4).1), ?_⟩
            · unfold adT
              rw [if_pos c1, if_pos c2, if_pos c3, if_neg (fun q => q.elim c4 c8)]
              first | done | rfl
            unfold adT
            rw [if_pos c1, if_pos c2, if_pos c3, if_neg (fun q => q.elim c4 c8)]
            first | done | rfl
      · refine hbipush (v := (-2)) X dX1_addStand_36 rfl ?_
        refine hiret X dX1_addStand_38 ⟨congrArg (fun z => some (Value.int z)) (?_ : (-2) = (adT n F w1 w2 w3 w4).1), ?_⟩
        · unfold adT
          rw [if_pos c1, if_pos c2, if_neg c3]
          first | done | rfl
        unfold adT
        rw [if_pos c1, if_pos c2, if_neg c3]
        first | done | rfl
    · refine hbipush (v := (-2)) X dX1_addStand_23 rfl ?_
      refine hiret X dX1_addStand_25 ⟨congrArg (fun z => some (Value.int z)) (?_ : (-2) = (adT n F w1 w2 w3 w4).1), ?_⟩
      · unfold adT
        rw [if_pos c1, if_neg c2]
        first | done | rfl
      unfold adT
      rw [if_pos c1, if_neg c2]
      first | done | rfl
  · refine hbipush (v := (-2)) X dX1_addStand_10 rfl ?_
    refine hiret X dX1_addStand_12 ⟨congrArg (fun z => some (Value.int z)) (?_ : (-2) = (adT n F w1 w2 w3 w4).1), ?_⟩
    · unfold adT
      rw [if_neg c1]
      first | done | rfl
    unfold adT
    rw [if_neg c1]
    first | done | rfl

set_option maxHeartbeats 4000000 in
set_option maxRecDepth 100000 in
theorem kX1_addCrew (l : Launch) (G : hG) (h : Nat → Nat) (F : hF) (n c : Nat) (hn : n ≤ 20) (hc : c ≤ 6) (x y : Int32) : hM l G yX1_addCrew wsX1_addCrew ({ frames := 2, cells := 0, slots := 0, locals := 63 }) (haW G h n c F) [.ref (h 0), .int x, .int y] (hR (some (.int ((acT c F x y).1))) (haW G h n ((acT c F x y).2.1) ((acT c F x y).2.2))) := by
  refine hM_of (cc := cX1_addCrew) (maxL := 3) (ret := (some .int)) (by decide) rfl (Nat.le_of_ble_eq_true rfl) ?_
  intro pp ee ss mm aa bb me cd X hin
  have iX1 : ∀ w ∈ wsX10, w ∈ wsX1_addCrew := by decide +kernel
  refine hiload_n X dX1_addCrew_0 rfl ?_
  refine hiconst (v := 1) X dX1_addCrew_1 rfl ?_
  refine hbipush (v := 9) X dX1_addCrew_2 rfl ?_
  refine hcallSNr (wsC := []) (wsR := haW G h n c F) (As := [.int x, .int 1, .int 9]) (rest := []) (st' := [.int (bI (wI x 1 9))]) (w := []) X (kX7_isWithin l G x 1 9) gX1_addCrew_X7_isWithin_n65 rfl (n := 3) (by decide +kernel) (by decide +kernel) (by decide +kernel) (by decide +kernel) (by decide) rfl rfl (Nat.le_of_ble_eq_true rfl) dX1_addCrew_4 rfl rfl (by decide) rfl ?_
  refine hV_to (ws' := haW G h n c F) rfl rfl rfl ?_
  refine hif_eqB (tgt := 20) X dX1_addCrew_7 (by decide) (fun c1 => ?_) (fun c1 => ?_)
  · refine hbipush (v := (-2)) X dX1_addCrew_20 rfl ?_
    refine hiret X dX1_addCrew_22 ⟨congrArg (fun z => some (Value.int z)) (?_ : (-2) = (acT c F x y).1), ?_⟩
    · unfold acT
      rw [if_neg (fun q => c1 q.1)]
      first | done | rfl
    unfold acT
    rw [if_neg (fun q => c1 q.1)]
    first | done | rfl
  · refine hiload_n X dX1_addCrew_10 rfl ?_
    refine hiconst (v := 0) X dX1_addCrew_11 rfl ?_
    refine hbipush (v := 99) X dX1_addCrew_12 rfl ?_
    refine hcallSNr (wsC := []) (wsR := haW G h n c F) (As := [.int y, .int 0, .int 99]) (rest := []) (st' := [.int (bI (wI y 0 99))]) (w := []) X (kX7_isWithin l G y 0 99) gX1_addCrew_X7_isWithin_n65 rfl (n := 3) (by decide +kernel) (by decide +kernel) (by decide +kernel) (by decide +kernel) (by decide) rfl rfl (Nat.le_of_ble_eq_true rfl) dX1_addCrew_14 rfl rfl (by decide) rfl ?_
    refine hV_to (ws' := haW G h n c F) rfl rfl rfl ?_
    refine hif_neB (tgt := 23) X dX1_addCrew_17 (by decide) (fun c2 => ?_) (fun c2 => ?_)
    · refine haload_n X dX1_addCrew_23 rfl ?_
      refine hget1 X (T := TX1) (N := 7) iX1 0 rfl rfl 3 (by decide) (by decide +kernel) rfl dX1_addCrew_24 ?_
      refine hiload_n X dX1_addCrew_27 rfl ?_
      refine hiload_n X dX1_addCrew_28 rfl ?_
      refine hV_perm (ws' := crW G h c F ++ hrC G h n F) (pmC G h _ _ _) ?_
      refine hcallVr (C := RX0) (T := TX0) (N := 7) (As := [.int x, .int y]) (rest := []) (st' := [.int (if c < 6 then nI c else -4)]) (w := crW G h (if c < 6 then c + 1 else c) (if c < 6 then apC F c x y else F)) X (q0 := 0) (kX0_append l G h F c (by first | assumption | omega | simp [fs_at, *]) x y) gX1_addCrew_X0_append rfl (n := 2) (by decide +kernel) (by decide) rfl rfl rfl rfl (Nat.le_of_ble_eq_true rfl) dX1_addCrew_29 rfl rfl (by decide) rfl ?_
      refine hV_perm (ws' := haW G h n (if c < 6 then c + 1 else c) (if c < 6 then apC F c x y else F)) (pmC' (by intro j hj; split; (unfold apC; simp only [fs]; repeat rw [if_neg (by omega)]); rfl)) ?_
      refine hiret X dX1_addCrew_32 ⟨congrArg (fun z => some (Value.int z)) (?_ : (if c < 6 then nI c else -4) = (acT c F x y).1), ?_⟩
      · have hw9 : wI x 1 9 ∧ wI y 0 99 := ⟨c1, c2⟩
        unfold acT
        by_cases hlt : c < 6
        · simp only [if_pos hlt, if_pos hw9]
        · simp only [if_neg hlt, if_pos hw9]
      have hw9 : wI x 1 9 ∧ wI y 0 99 := ⟨c1, c2⟩
      unfold acT
      by_cases hlt : c < 6
      · simp only [if_pos hlt, if_pos hw9]
      · simp only [if_neg hlt, if_pos hw9]
    · refine hbipush (v := (-2)) X dX1_addCrew_20 rfl ?_
      refine hiret X dX1_addCrew_22 ⟨congrArg (fun z => some (Value.int z)) (?_ : (-2) = (acT c F x y).1), ?_⟩
      · unfold acT
        rw [if_neg (fun q => c2 q.2)]
        first | done | rfl
      unfold acT
      rw [if_neg (fun q => c2 q.2)]
      first | done | rfl

set_option maxHeartbeats 4000000 in
set_option maxRecDepth 100000 in
theorem kX1_changeSetting (l : Launch) (G : hG) (h : Nat → Nat) (F : hF) (n c : Nat) (hn : n ≤ 20) (hc : c ≤ 6) (x v : Int32) : hM l G yX1_changeSetting wsX1_changeSetting ({ frames := 2, cells := 0, slots := 0, locals := 62 }) (haW G h n c F) [.ref (h 0), .int x, .int v] (hR (some (.int ((chT3 F x v).1))) (haW G h n c ((chT3 F x v).2))) := by
  refine hM_of (cc := cX1_changeSetting) (maxL := 4) (ret := (some .int)) (by decide) rfl (Nat.le_of_ble_eq_true rfl) ?_
  intro pp ee ss mm aa bb me cd X hin
  have iX1 : ∀ w ∈ wsX10, w ∈ wsX1_changeSetting := by decide +kernel
  refine hiload_n X dX1_changeSetting_0 rfl ?_
  refine hif_lt (tgt := 21) X dX1_changeSetting_1 (by decide) (fun c1 => ?_) (fun c1 => ?_)
  · refine hbipush (v := (-2)) X dX1_changeSetting_21 rfl ?_
    refine hiret X dX1_changeSetting_23 ⟨congrArg (fun z => some (Value.int z)) (?_ : (-2) = (chT3 F x v).1), ?_⟩
    · unfold chT3
      rw [if_neg (fun q => q.1 c1)]
      first | done | rfl
    refine congrArg (haW G h n c) (?_ : (F : hF) = (chT3 F x v).2)
    unfold chT3
    rw [if_neg (fun q => q.1 c1)]
    first | done | rfl
  · refine hiload_n X dX1_changeSetting_4 rfl ?_
    refine haload_n X dX1_changeSetting_5 rfl ?_
    refine hget1 X (T := TX1) (N := 7) iX1 0 rfl rfl 0 (by decide) (by decide +kernel) rfl dX1_changeSetting_6 ?_
    refine hialen X 1 0 rfl rfl (v := 3) rfl dX1_changeSetting_9 ?_
    refine hicmp_ge (tgt := 21) X dX1_changeSetting_10 (by decide) (fun c2 => ?_) (fun c2 => ?_)
    · refine hbipush (v := (-2)) X dX1_changeSetting_21 rfl ?_
      refine hiret X dX1_changeSetting_23 ⟨congrArg (fun z => some (Value.int z)) (?_ : (-2) = (chT3 F x v).1), ?_⟩
      · unfold chT3
        rw [if_neg (fun q => i_lt_le q.2 c2)]
        first | done | rfl
      refine congrArg (haW G h n c) (?_ : (F : hF) = (chT3 F x v).2)
      unfold chT3
      rw [if_neg (fun q => i_lt_le q.2 c2)]
      first | done | rfl
    · refine hiload_n X dX1_changeSetting_13 rfl ?_
      refine hgetsM X (by decide +kernel) dX1_changeSetting_14 ?_
      refine hlenM (v := 3) X rfl dX1_changeSetting_17 ?_
      refine hicmp_lt (tgt := 24) X dX1_changeSetting_18 (by decide) (fun c3 => ?_) (fun c3 => ?_)
      · obtain ⟨j, hj, hx⟩ := lt3_in c1 c3
        refine hiload_n X dX1_changeSetting_24 rfl ?_
        refine hiconst (v := 1) X dX1_changeSetting_25 rfl ?_
        refine hgetsM X (by decide +kernel) dX1_changeSetting_26 ?_
        refine hiload_n X dX1_changeSetting_29 rfl ?_
        refine hV_st (st' := [.int (nI j), .ref (G.2.2 1), .int 1, .int v]) (congrArg (fun z => ([Value.int z, .ref (G.2.2 1), .int 1, .int v] : List Value)) (hx)) ?_
        refine hialdM X j rfl (by omega) dX1_changeSetting_30 ?_
        refine hcallSNr (wsC := []) (wsR := haW G h n c F) (As := [.int v, .int 1, .int (hMst j)]) (rest := []) (st' := [.int (bI (wI v 1 (hMst j)))]) (w := []) X (kX7_isWithin l G v 1 (hMst j)) gX1_changeSetting_X7_isWithin_n65 rfl (n := 3) (by decide +kernel) (by decide +kernel) (by decide +kernel) (by decide +kernel) (by decide) rfl rfl (Nat.le_of_ble_eq_true rfl) dX1_changeSetting_31 rfl rfl (by decide) rfl ?_
        refine hV_to (ws' := haW G h n c F) rfl rfl rfl ?_
        refine hif_neB (tgt := 40) X dX1_changeSetting_34 (by decide) (fun c4 => ?_) (fun c4 => ?_)
        · refine haload_n X dX1_changeSetting_40 rfl ?_
          refine hget1 X (T := TX1) (N := 7) iX1 0 rfl rfl 0 (by decide) (by decide +kernel) rfl dX1_changeSetting_41 ?_
          refine hiload_n X dX1_changeSetting_44 rfl ?_
          refine hV_st (st' := [.int (nI j), .ref (h 1)]) (congrArg (fun z => ([Value.int z, .ref (h 1)] : List Value)) (hx)) ?_
          refine hiald (n := 3) (f := F 16) X 1 rfl j rfl (by omega) (by decide) dX1_changeSetting_45 ?_
          refine histore_n (lv' := [(3, .int (F 16 j)), (0, .ref (h 0)), (1, .int x), (2, .int v)]) X dX1_changeSetting_46 (by decide) rfl ?_
          refine haload_n X dX1_changeSetting_47 rfl ?_
          refine hget1 X (T := TX1) (N := 7) iX1 0 rfl rfl 0 (by decide) (by decide +kernel) rfl dX1_changeSetting_48 ?_
          refine hiload_n X dX1_changeSetting_51 rfl ?_
          refine hiload_n X dX1_changeSetting_52 rfl ?_
          refine hV_st (st' := [.int v, .int (nI j), .ref (h 1)]) (congrArg (fun z => ([.int v, Value.int z, .ref (h 1)] : List Value)) (hx)) ?_
          refine hiast (n := 3) (f := F 16) X 1 rfl j rfl (by omega) (by decide) dX1_changeSetting_53 (ws' := haW G h n c (fs F 16 j v)) (haWs16 G h _ _ _ _ _) ?_
          refine hiload_n X dX1_changeSetting_54 rfl ?_
          refine hiret X dX1_changeSetting_55 ⟨congrArg (fun z => some (Value.int z)) (?_ : (F 16 j) = (chT3 F x v).1), ?_⟩
          · have ej := nI_clamp (show j < 2 ^ 31 by omega)
            unfold chT3
            rw [if_pos ⟨c1, c3⟩, hx, ej, if_pos c4]
            first | done | rfl
          refine congrArg (haW G h n c) (?_ : (fs F 16 j v : hF) = (chT3 F x v).2)
          have ej := nI_clamp (show j < 2 ^ 31 by omega)
          unfold chT3
          rw [if_pos ⟨c1, c3⟩, hx, ej, if_pos c4]
          first | done | rfl
        · refine hbipush (v := (-2)) X dX1_changeSetting_37 rfl ?_
          refine hiret X dX1_changeSetting_39 ⟨congrArg (fun z => some (Value.int z)) (?_ : (-2) = (chT3 F x v).1), ?_⟩
          · have ej := nI_clamp (show j < 2 ^ 31 by omega)
            unfold chT3
            rw [if_pos ⟨c1, c3⟩, hx, ej, if_neg c4]
            first | done | rfl
          refine congrArg (haW G h n c) (?_ : (F : hF) = (chT3 F x v).2)
          have ej := nI_clamp (show j < 2 ^ 31 by omega)
          unfold chT3
          rw [if_pos ⟨c1, c3⟩, hx, ej, if_neg c4]
          first | done | rfl
      · refine hbipush (v := (-2)) X dX1_changeSetting_21 rfl ?_
        refine hiret X dX1_changeSetting_23 ⟨congrArg (fun z => some (Value.int z)) (?_ : (-2) = (chT3 F x v).1), ?_⟩
        · unfold chT3
          rw [if_neg (fun q => c3 q.2)]
          first | done | rfl
        refine congrArg (haW G h n c) (?_ : (F : hF) = (chT3 F x v).2)
        unfold chT3
        rw [if_neg (fun q => c3 q.2)]
        first | done | rfl

set_option maxHeartbeats 4000000 in
set_option maxRecDepth 100000 in
theorem kX1_endFair (l : Launch) (G : hG) (h : Nat → Nat) (F : hF) (n c : Nat) (hn : n ≤ 20) (hc : c ≤ 6) : hM l G yX1_endFair wsX1_endFair ({ frames := 2, cells := 0, slots := 0, locals := 62 }) (haW G h n c F) [.ref (h 0)] (hR (some (.int ((enT n c F).1))) (haW G h n c ((enT n c F).2))) := by
  refine hM_of (cc := cX1_endFair) (maxL := 1) (ret := (some .int)) (by decide) rfl (Nat.le_of_ble_eq_true rfl) ?_
  intro pp ee ss mm aa bb me cd X hin
  have iX1 : ∀ w ∈ wsX10, w ∈ wsX1_endFair := by decide +kernel
  refine haload_n X dX1_endFair_0 rfl ?_
  refine hget1 X (T := TX1) (N := 7) iX1 0 rfl rfl 5 (by decide) (by decide +kernel) rfl dX1_endFair_1 ?_
  refine hif_eq (tgt := 10) X dX1_endFair_4 (by decide) (fun c1 => ?_) (fun c1 => ?_)
  · refine haload_n X dX1_endFair_10 rfl ?_
    refine hiconst (v := 1) X dX1_endFair_11 rfl ?_
    refine hput1 X (T := TX1) (N := 7) iX1 tyX1 tyX1_ok nmX1 0 rfl rfl 5 (by decide) (by decide +kernel) (by decide +kernel) rfl rfl (Nat.le_of_ble_eq_true rfl) dX1_endFair_12 (ws' := haW G h n c (fs F 18 1 1)) (haWf5 G h _ _ _ _) ?_
    refine haload_n X dX1_endFair_15 rfl ?_
    refine hget1 X (T := TX1) (N := 7) iX1 0 rfl rfl 3 (by decide) (by decide +kernel) rfl dX1_endFair_16 ?_
    refine hV_perm (ws' := crW G h c (fs F 18 1 1) ++ hrC G h n (fs F 18 1 1)) (pmC G h _ _ _) ?_
    refine hcallVr (C := RX0) (T := TX0) (N := 7) (As := []) (rest := []) (st' := []) (w := crW G h c (itN c laS (fs F 18 1 1))) X (q0 := 0) (kX0_letAllGo l G h (fs F 18 1 1) c (by first | assumption | omega | simp [fs_at, *])) gX1_endFair_X0_letAllGo rfl (n := 0) (by decide +kernel) (by decide) rfl rfl rfl rfl (Nat.le_of_ble_eq_true rfl) dX1_endFair_19 rfl rfl (by decide) rfl ?_
    refine hV_perm (ws' := haW G h n c (itN c laS (fs F 18 1 1))) (pmC' (by intro j hj; exact laN_row (by omega) _ _)) ?_
    refine haload_n X dX1_endFair_22 rfl ?_
    refine hget1 X (T := TX1) (N := 7) iX1 0 rfl rfl 2 (by decide) (by decide +kernel) rfl dX1_endFair_23 ?_
    refine hV_perm (ws' := stW G h n (itN c laS (fs F 18 1 1)) ++ hrS G h c (itN c laS (fs F 18 1 1))) (pmS G h _ _ _) ?_
    refine hcallVr (C := RX6) (T := TX6) (N := 11) (As := []) (rest := []) (st' := [.int ((itN n clS ((itN c laS (fs F 18 1 1)), 0)).2)]) (w := stW G h n ((itN n clS ((itN c laS (fs F 18 1 1)), 0)).1)) X (q0 := 0) (kX6_clearUnbuilt l G h (itN c laS (fs F 18 1 1)) n (by first | assumption | omega | simp [fs_at, *])) gX1_endFair_X6_clearUnbuilt rfl (n := 0) (by decide +kernel) (by decide) rfl rfl rfl rfl (Nat.le_of_ble_eq_true rfl) dX1_endFair_26 rfl rfl (by decide) rfl ?_
    refine hV_perm (ws' := haW G h n c ((itN n clS ((itN c laS (fs F 18 1 1)), 0)).1)) (pmS' (by intro j hj; exact clN_row hj _ _)) ?_
    refine hiret X dX1_endFair_29 ⟨congrArg (fun z => some (Value.int z)) (?_ : ((itN n clS ((itN c laS (fs F 18 1 1)), 0)).2) = (enT n c F).1), ?_⟩
    · simp [enT, c1]
    refine congrArg (haW G h n c) (?_ : ((itN n clS ((itN c laS (fs F 18 1 1)), 0)).1 : hF) = (enT n c F).2)
    simp [enT, c1]
  · refine hbipush (v := (-5)) X dX1_endFair_7 rfl ?_
    refine hiret X dX1_endFair_9 ⟨congrArg (fun z => some (Value.int z)) (?_ : (-5) = (enT n c F).1), ?_⟩
    · simp [enT, c1]
    refine congrArg (haW G h n c) (?_ : (F : hF) = (enT n c F).2)
    simp [enT, c1]

set_option maxHeartbeats 4000000 in
set_option maxRecDepth 100000 in
theorem kX1_findLost (l : Launch) (G : hG) (h : Nat → Nat) (F : hF) (n c : Nat) (hn : n ≤ 20) (hc : c ≤ 6) : hM l G yX1_findLost wsX1_findLost ({ frames := 1, cells := 0, slots := 0, locals := 40 }) (haW G h n c F) [.ref (h 0)] (hR (some (.int ((fiT F).1))) (haW G h n c ((fiT F).2))) := by
  refine hM_of (cc := cX1_findLost) (maxL := 1) (ret := (some .int)) (by decide) rfl (Nat.le_of_ble_eq_true rfl) ?_
  intro pp ee ss mm aa bb me cd X hin
  have iX1 : ∀ w ∈ wsX10, w ∈ wsX1_findLost := by decide +kernel
  refine haload_n X dX1_findLost_0 rfl ?_
  refine hget1 X (T := TX1) (N := 7) iX1 0 rfl rfl 6 (by decide) (by decide +kernel) rfl dX1_findLost_1 ?_
  refine hif_gt (tgt := 10) X dX1_findLost_4 (by decide) (fun c1 => ?_) (fun c1 => ?_)
  · refine haload_n X dX1_findLost_10 rfl ?_
    refine hdup X dX1_findLost_11 rfl ?_
    refine hget1 X (T := TX1) (N := 7) iX1 0 rfl rfl 6 (by decide) (by decide +kernel) rfl dX1_findLost_12 ?_
    refine hiconst (v := 1) X dX1_findLost_15 rfl ?_
    refine hisub X dX1_findLost_16 ?_
    refine hput1 X (T := TX1) (N := 7) iX1 tyX1 tyX1_ok nmX1 0 rfl rfl 6 (by decide) (by decide +kernel) (by decide +kernel) rfl rfl (Nat.le_of_ble_eq_true rfl) dX1_findLost_17 (ws' := haW G h n c (fs F 18 2 ((F 18 2) - 1))) (haWf6 G h _ _ _ _) ?_
    refine haload_n X dX1_findLost_20 rfl ?_
    refine hget1 X (T := TX1) (N := 7) iX1 0 rfl rfl 6 (by decide) (by decide +kernel) rfl dX1_findLost_21 ?_
    have r2 : ((fs F 18 2 ((F 18 2) - 1)) 18 2 : Int32) = (F 18 2) - 1 := by rw [fs_same]
    refine hV_st (st' := [.int ((F 18 2) - 1)]) (congrArg (fun z => Value.int z :: []) r2) ?_
    refine hiret X dX1_findLost_24 ⟨congrArg (fun z => some (Value.int z)) (?_ : ((F 18 2) - 1) = (fiT F).1), ?_⟩
    · simp [fiT, c1]
    refine congrArg (haW G h n c) (?_ : (fs F 18 2 ((F 18 2) - 1) : hF) = (fiT F).2)
    simp [fiT, c1]
  · refine hbipush (v := (-5)) X dX1_findLost_7 rfl ?_
    refine hiret X dX1_findLost_9 ⟨congrArg (fun z => some (Value.int z)) (?_ : (-5) = (fiT F).1), ?_⟩
    · simp [fiT, c1]
    refine congrArg (haW G h n c) (?_ : (F : hF) = (fiT F).2)
    simp [fiT, c1]

set_option maxHeartbeats 4000000 in
set_option maxRecDepth 100000 in
theorem kX1_passHours (l : Launch) (G : hG) (h : Nat → Nat) (F : hF) (n c : Nat) (hn : n ≤ 20) (hc : c ≤ 6) (x : Int32) : hM l G yX1_passHours wsX1_passHours ({ frames := 6, cells := 0, slots := 0, locals := 151 }) (haW G h n c F) [.ref (h 0), .int x] (hR (some (.int ((phT n c F x).1))) (haW G h n c ((phT n c F x).2))) := by
  refine hM_of (cc := cX1_passHours) (maxL := 4) (ret := (some .int)) (by decide) rfl (Nat.le_of_ble_eq_true rfl) ?_
  intro pp ee ss mm aa bb me cd X hin
  have iX1 : ∀ w ∈ wsX10, w ∈ wsX1_passHours := by decide +kernel
  have L : ∀ (d : Nat) (j k : Nat), (j ≤ 99) → (k ≤ j) → (x = nI j) → (wI x 1 99) → (F 18 0 + x ≤ 9999) → (j - k) < d → hV pp l ee ({ frames := 6, cells := 0, slots := 0, locals := 151 }) ss mm aa bb me cd G (va_A (haW G h n c F) ss.heap.size) 4 0 0 (MQ bb (hQc G (haW G h n c F) ss.heap.size (hR (some (.int ((phT n c F x).1))) (haW G h n c ((phT n c F x).2)))) aa ss 0 0 (va_A (haW G h n c F) ss.heap.size)) (haW G h n c ((itN k (phS n c) (F, 0)).1)) 32 [(3, .int (nI k)), (2, .int ((itN k (phS n c) (F, 0)).2)), (0, .ref (h 0)), (1, .int x)] [] := by
    intro d
    induction d with
    | zero =>
      intro j k hj hk hx hw1 hw2 hd0
      exact absurd hd0 (Nat.not_lt_zero _)
    | succ d ih =>
      intro j k hj hk hx hw1 hw2 hd0
      refine hiload_n X dX1_passHours_32 rfl ?_
      refine hiload_n X dX1_passHours_33 rfl ?_
      refine hicmp_ge (tgt := 50) X dX1_passHours_34 (by decide) (fun c1 => ?_) (fun c1 => ?_)
      · have ek : k = j := i_ge hk (by omega) (by rw [← hx]; exact c1)
        refine hiload_n X dX1_passHours_50 rfl ?_
        refine hiret X dX1_passHours_51 ⟨congrArg (fun z => some (Value.int z)) (?_ : ((itN k (phS n c) (F, 0)).2) = (phT n c F x).1), ?_⟩
        · rw [phT, if_pos hw1, if_pos hw2, hx, nI_clamp (show j < 2 ^ 31 by omega), ek]
        refine congrArg (haW G h n c) (?_ : ((itN k (phS n c) (F, 0)).1 : hF) = (phT n c F x).2)
        rw [phT, if_pos hw1, if_pos hw2, hx, nI_clamp (show j < 2 ^ 31 by omega), ek]
      · have hk1 : k < j := i_lt hk (by omega) (by rw [← hx]; exact c1)
        refine hiload_n X dX1_passHours_37 rfl ?_
        refine haload_n X dX1_passHours_38 rfl ?_
        refine hcallV0 (C := RX1) (T := TX1) (N := 7) (As := []) (rest := [.int ((itN k (phS n c) (F, 0)).2)]) (st' := [.int (p1R n c ((itN k (phS n c) (F, 0)).1)), .int ((itN k (phS n c) (F, 0)).2)]) (w := haW G h n c (p1H n c ((itN k (phS n c) (F, 0)).1))) X (q0 := 0) (kX1_passOneHour l G h ((itN k (phS n c) (F, 0)).1) n c (by first | assumption | omega | simp [fs_at, *]) (by first | assumption | omega | simp [fs_at, *])) gX1_passHours_X1_passOneHour rfl (n := 0) (by decide +kernel) (by decide) rfl rfl rfl rfl (Nat.le_of_ble_eq_true rfl) dX1_passHours_39 rfl rfl (by decide) rfl ?_
        refine hiadd X dX1_passHours_42 ?_
        refine histore_n (lv' := [(2, .int (((itN k (phS n c) (F, 0)).2) + (p1R n c ((itN k (phS n c) (F, 0)).1)))), (3, .int (nI k)), (0, .ref (h 0)), (1, .int x)]) X dX1_passHours_43 (by decide) rfl ?_
        refine hiinc (v := nI (k + 1)) (lv' := [(3, .int (nI (k + 1))), (2, .int (((itN k (phS n c) (F, 0)).2) + (p1R n c ((itN k (phS n c) (F, 0)).1)))), (0, .ref (h 0)), (1, .int x)]) X dX1_passHours_44 rfl (nI_1 _) (by decide) rfl ?_
        refine hgoto (tgt := 32) X dX1_passHours_47 (by decide) ?_
        have e2 : (((itN k (phS n c) (F, 0)).2) + (p1R n c ((itN k (phS n c) (F, 0)).1)) : Int32) = (itN (k + 1) (phS n c) (F, 0)).2 := by
          simp [itN, phS]
        have w3 : (p1H n c ((itN k (phS n c) (F, 0)).1) : hF) = (itN (k + 1) (phS n c) (F, 0)).1 := by
          simp [itN, phS]
        exact hV_to (ws' := haW G h n c ((itN (k + 1) (phS n c) (F, 0)).1)) (lv' := [(3, .int (nI (k + 1))), (2, .int ((itN (k + 1) (phS n c) (F, 0)).2)), (0, .ref (h 0)), (1, .int x)]) (st' := []) (congrArg (haW G h n c) w3) (congrArg (fun z => ([(3, .int (nI (k + 1))), (2, .int z), (0, .ref (h 0)), (1, .int x)] : List (Nat × Value))) e2) rfl (ih j (k + 1) hj (by omega) hx hw1 hw2 (by omega))
  refine hiload_n X dX1_passHours_0 rfl ?_
  refine hiconst (v := 1) X dX1_passHours_1 rfl ?_
  refine hbipush (v := 99) X dX1_passHours_2 rfl ?_
  refine hcallSNr (wsC := []) (wsR := haW G h n c F) (As := [.int x, .int 1, .int 99]) (rest := []) (st' := [.int (bI (wI x 1 99))]) (w := []) X (kX7_isWithin l G x 1 99) gX1_passHours_X7_isWithin_n65 rfl (n := 3) (by decide +kernel) (by decide +kernel) (by decide +kernel) (by decide +kernel) (by decide) rfl rfl (Nat.le_of_ble_eq_true rfl) dX1_passHours_4 rfl rfl (by decide) rfl ?_
  refine hV_to (ws' := haW G h n c F) rfl rfl rfl ?_
  refine hif_neB (tgt := 13) X dX1_passHours_7 (by decide) (fun c4 => ?_) (fun c4 => ?_)
  · have hw1 := c4
    obtain ⟨j, hj1, hj, hx⟩ := wI_lit (a := 1) (b := 99) (by decide) (by decide) c4
    refine haload_n X dX1_passHours_13 rfl ?_
    refine hget1 X (T := TX1) (N := 7) iX1 0 rfl rfl 4 (by decide) (by decide +kernel) rfl dX1_passHours_14 ?_
    refine hiload_n X dX1_passHours_17 rfl ?_
    refine hiadd X dX1_passHours_18 ?_
    refine hsipush (v := 9999) X dX1_passHours_19 rfl ?_
    refine hicmp_le (tgt := 28) X dX1_passHours_22 (by decide) (fun c5 => ?_) (fun c5 => ?_)
    · have hw2 := c5
      refine hiconst (v := 0) X dX1_passHours_28 rfl ?_
      refine histore_n (lv' := [(2, .int 0), (0, .ref (h 0)), (1, .int x)]) X dX1_passHours_29 (by decide) rfl ?_
      refine hiconst (v := 0) X dX1_passHours_30 rfl ?_
      refine histore_n (lv' := [(3, .int 0), (2, .int 0), (0, .ref (h 0)), (1, .int x)]) X dX1_passHours_31 (by decide) rfl ?_
      have e6 : (0 : Int32) = (itN 0 (phS n c) (F, 0)).2 := by
        rfl
      have w7 : (F : hF) = (itN 0 (phS n c) (F, 0)).1 := by
        rfl
      exact hV_to (ws' := haW G h n c ((itN 0 (phS n c) (F, 0)).1)) (lv' := [(3, .int 0), (2, .int ((itN 0 (phS n c) (F, 0)).2)), (0, .ref (h 0)), (1, .int x)]) (st' := []) (congrArg (haW G h n c) w7) (congrArg (fun z => ([(3, .int 0), (2, .int z), (0, .ref (h 0)), (1, .int x)] : List (Nat × Value))) e6) rfl (L _ j 0 hj (by omega) hx hw1 hw2 (Nat.lt_succ_self _))
    · refine hbipush (v := (-5)) X dX1_passHours_25 rfl ?_
      refine hiret X dX1_passHours_27 ⟨congrArg (fun z => some (Value.int z)) (?_ : (-5) = (phT n c F x).1), ?_⟩
      · simp only [phT, if_pos hw1, if_neg c5]
      refine congrArg (haW G h n c) (?_ : (F : hF) = (phT n c F x).2)
      simp only [phT, if_pos hw1, if_neg c5]
  · refine hbipush (v := (-2)) X dX1_passHours_10 rfl ?_
    refine hiret X dX1_passHours_12 ⟨congrArg (fun z => some (Value.int z)) (?_ : (-2) = (phT n c F x).1), ?_⟩
    · simp only [phT, if_neg c4]
    refine congrArg (haW G h n c) (?_ : (F : hF) = (phT n c F x).2)
    simp only [phT, if_neg c4]

set_option maxHeartbeats 4000000 in
set_option maxRecDepth 100000 in
theorem kX1_loadOf (l : Launch) (G : hG) (h : Nat → Nat) (F : hF) (n c : Nat) (hn : n ≤ 20) (hc : c ≤ 6) (x : Int32) : hM l G yX1_loadOf wsX1_loadOf ({ frames := 1, cells := 0, slots := 0, locals := 40 }) (haW G h n c F) [.ref (h 0), .int x] (hR (some (.int (ldH F x))) (haW G h n c F)) := by
  refine hM_of (cc := cX1_loadOf) (maxL := 2) (ret := (some .int)) (by decide) rfl (Nat.le_of_ble_eq_true rfl) ?_
  intro pp ee ss mm aa bb me cd X hin
  have iX1 : ∀ w ∈ wsX10, w ∈ wsX1_loadOf := by decide +kernel
  refine hiload_n X dX1_loadOf_0 rfl ?_
  refine hif_lt (tgt := 13) X dX1_loadOf_1 (by decide) (fun c1 => ?_) (fun c1 => ?_)
  · refine hiconst (v := (-1)) X dX1_loadOf_13 rfl ?_
    refine hgoto (tgt := 23) X dX1_loadOf_14 (by decide) ?_
    refine hiret X dX1_loadOf_23 ⟨congrArg (fun z => some (Value.int z)) (?_ : (-1) = ldH F x), ?_⟩
    · rw [ldH, if_neg (fun q => q.1 c1)]
    rfl
  · refine hiload_n X dX1_loadOf_4 rfl ?_
    refine haload_n X dX1_loadOf_5 rfl ?_
    refine hget1 X (T := TX1) (N := 7) iX1 0 rfl rfl 1 (by decide) (by decide +kernel) rfl dX1_loadOf_6 ?_
    refine hialen X 2 0 rfl rfl (v := 3) rfl dX1_loadOf_9 ?_
    refine hicmp_lt (tgt := 17) X dX1_loadOf_10 (by decide) (fun c2 => ?_) (fun c2 => ?_)
    · obtain ⟨j, hj, hx⟩ := lt3_in c1 c2
      refine haload_n X dX1_loadOf_17 rfl ?_
      refine hget1 X (T := TX1) (N := 7) iX1 0 rfl rfl 1 (by decide) (by decide +kernel) rfl dX1_loadOf_18 ?_
      refine hiload_n X dX1_loadOf_21 rfl ?_
      refine hV_st (st' := [.int (nI j), .ref (h 2)]) (congrArg (fun z => ([Value.int z, .ref (h 2)] : List Value)) (hx)) ?_
      refine hiald (n := 3) (f := F 17) X 2 rfl j rfl (by omega) (by decide) dX1_loadOf_22 ?_
      refine hiret X dX1_loadOf_23 ⟨congrArg (fun z => some (Value.int z)) (?_ : (F 17 j) = ldH F x), ?_⟩
      · rw [ldH, if_pos ⟨c1, c2⟩, hx, nI_clamp (show j < 2 ^ 31 by omega)]
      rfl
    · refine hiconst (v := (-1)) X dX1_loadOf_13 rfl ?_
      refine hgoto (tgt := 23) X dX1_loadOf_14 (by decide) ?_
      refine hiret X dX1_loadOf_23 ⟨congrArg (fun z => some (Value.int z)) (?_ : (-1) = ldH F x), ?_⟩
      · rw [ldH, if_neg (fun q => c2 q.2)]
      rfl

set_option maxHeartbeats 4000000 in
set_option maxRecDepth 100000 in
theorem kX1_number (l : Launch) (G : hG) (h : Nat → Nat) (F : hF) (n c : Nat) (hn : n ≤ 20) (hc : c ≤ 6) (x : Int32) : hM l G yX1_number wsX1_number ({ frames := 2, cells := 0, slots := 0, locals := 63 }) (haW G h n c F) [.ref (h 0), .int x] (hR (some (.int (nuH n c F x))) (haW G h n c F)) := by
  refine hM_of (cc := cX1_number) (maxL := 2) (ret := (some .int)) (by decide) rfl (Nat.le_of_ble_eq_true rfl) ?_
  intro pp ee ss mm aa bb me cd X hin
  have iX0 : ∀ w ∈ wsX00, w ∈ wsX1_number := by decide +kernel
  have iX1 : ∀ w ∈ wsX10, w ∈ wsX1_number := by decide +kernel
  have iX6 : ∀ w ∈ wsX60, w ∈ wsX1_number := by decide +kernel
  refine hiload_n X dX1_number_0 rfl ?_
  rcases sw_cases x 17 (by decide) with sx1 | ⟨kk1, hk1, sx1⟩
  · refine htableOut (tgt := 236) X dX1_number_1 sx1 (by decide) ?_
    have sx1_0 : ¬ (x : Int32) = 0 := fun e9 => by rw [e9] at sx1; exact absurd sx1 (by decide)
    have sx1_1 : ¬ (x : Int32) = 1 := fun e9 => by rw [e9] at sx1; exact absurd sx1 (by decide)
    have sx1_2 : ¬ (x : Int32) = 2 := fun e9 => by rw [e9] at sx1; exact absurd sx1 (by decide)
    have sx1_3 : ¬ (x : Int32) = 3 := fun e9 => by rw [e9] at sx1; exact absurd sx1 (by decide)
    have sx1_4 : ¬ (x : Int32) = 4 := fun e9 => by rw [e9] at sx1; exact absurd sx1 (by decide)
    have sx1_5 : ¬ (x : Int32) = 5 := fun e9 => by rw [e9] at sx1; exact absurd sx1 (by decide)
    have sx1_6 : ¬ (x : Int32) = 6 := fun e9 => by rw [e9] at sx1; exact absurd sx1 (by decide)
    have sx1_7 : ¬ (x : Int32) = 7 := fun e9 => by rw [e9] at sx1; exact absurd sx1 (by decide)
    have sx1_8 : ¬ (x : Int32) = 8 := fun e9 => by rw [e9] at sx1; exact absurd sx1 (by decide)
    have sx1_9 : ¬ (x : Int32) = 9 := fun e9 => by rw [e9] at sx1; exact absurd sx1 (by decide)
    have sx1_10 : ¬ (x : Int32) = 10 := fun e9 => by rw [e9] at sx1; exact absurd sx1 (by decide)
    have sx1_11 : ¬ (x : Int32) = 11 := fun e9 => by rw [e9] at sx1; exact absurd sx1 (by decide)
    have sx1_12 : ¬ (x : Int32) = 12 := fun e9 => by rw [e9] at sx1; exact absurd sx1 (by decide)
    have sx1_13 : ¬ (x : Int32) = 13 := fun e9 => by rw [e9] at sx1; exact absurd sx1 (by decide)
    have sx1_14 : ¬ (x : Int32) = 14 := fun e9 => by rw [e9] at sx1; exact absurd sx1 (by decide)
    have sx1_15 : ¬ (x : Int32) = 15 := fun e9 => by rw [e9] at sx1; exact absurd sx1 (by decide)
    have sx1_16 : ¬ (x : Int32) = 16 := fun e9 => by rw [e9] at sx1; exact absurd sx1 (by decide)
    have sx1_17 : ¬ (x : Int32) = 17 := fun e9 => by rw [e9] at sx1; exact absurd sx1 (by decide)
    refine hbipush (v := (-2)) X dX1_number_236 rfl ?_
    refine hiret X dX1_number_238 ⟨congrArg (fun z => some (Value.int z)) (?_ : (-2) = nuH n c F x), ?_⟩
    · simp [nuH, sx1_0, sx1_1, sx1_2, sx1_3, sx1_4, sx1_5, sx1_6, sx1_7, sx1_8, sx1_9, sx1_10, sx1_11, sx1_12, sx1_13, sx1_14, sx1_15, sx1_16, sx1_17]
    rfl
  · rcases (show kk1 = 0 ∨ kk1 = 1 ∨ kk1 = 2 ∨ kk1 = 3 ∨ kk1 = 4 ∨ kk1 = 5 ∨ kk1 = 6 ∨ kk1 = 7 ∨ kk1 = 8 ∨ kk1 = 9 ∨ kk1 = 10 ∨ kk1 = 11 ∨ kk1 = 12 ∨ kk1 = 13 ∨ kk1 = 14 ∨ kk1 = 15 ∨ kk1 = 16 ∨ kk1 = 17 by omega) with rfl | rfl | rfl | rfl | rfl | rfl | rfl | rfl | rfl | rfl | rfl | rfl | rfl | rfl | rfl | rfl | rfl | rfl
    · refine htableIn (off := 87) (tgt := 88) X dX1_number_1 (by rw [sx1]; decide) (by rw [sx1]; decide) (by rw [sx1]; decide) (by decide) ?_
      have sx1 : (x : Int32) = 0 := sx1
      refine hV_to (lv' := [(0, .ref (h 0)), (1, .int 0)]) rfl (congrArg (fun z => ([(0, .ref (h 0)), (1, .int z)] : List (Nat × Value))) sx1) rfl ?_
      refine haload_n X dX1_number_88 rfl ?_
      refine hget1 X (T := TX1) (N := 7) iX1 0 rfl rfl 4 (by decide) (by decide +kernel) rfl dX1_number_89 ?_
      refine hiret X dX1_number_92 ⟨congrArg (fun z => some (Value.int z)) (?_ : (F 18 0) = nuH n c F x), ?_⟩
      · simp [nuH, sx1]
      rfl
    · refine htableIn (off := 92) (tgt := 93) X dX1_number_1 (by rw [sx1]; decide) (by rw [sx1]; decide) (by rw [sx1]; decide) (by decide) ?_
      have sx1 : (x : Int32) = 1 := sx1
      refine hV_to (lv' := [(0, .ref (h 0)), (1, .int 1)]) rfl (congrArg (fun z => ([(0, .ref (h 0)), (1, .int z)] : List (Nat × Value))) sx1) rfl ?_
      refine haload_n X dX1_number_93 rfl ?_
      refine hget1 X (T := TX1) (N := 7) iX1 0 rfl rfl 2 (by decide) (by decide +kernel) rfl dX1_number_94 ?_
      refine hgetN X (T := TX6) (N := 11) iX6 3 rfl rfl 0 (by decide) (by decide +kernel) rfl dX1_number_97 ?_
      refine hiret X dX1_number_100 ⟨congrArg (fun z => some (Value.int z)) (?_ : (nI n) = nuH n c F x), ?_⟩
      · simp [nuH, sx1]
      rfl
    · refine htableIn (off := 100) (tgt := 101) X dX1_number_1 (by rw [sx1]; decide) (by rw [sx1]; decide) (by rw [sx1]; decide) (by decide) ?_
      have sx1 : (x : Int32) = 2 := sx1
      refine hV_to (lv' := [(0, .ref (h 0)), (1, .int 2)]) rfl (congrArg (fun z => ([(0, .ref (h 0)), (1, .int z)] : List (Nat × Value))) sx1) rfl ?_
      refine haload_n X dX1_number_101 rfl ?_
      refine hget1 X (T := TX1) (N := 7) iX1 0 rfl rfl 3 (by decide) (by decide +kernel) rfl dX1_number_102 ?_
      refine hgetN X (T := TX0) (N := 7) iX0 14 rfl rfl 0 (by decide) (by decide +kernel) rfl dX1_number_105 ?_
      refine hiret X dX1_number_108 ⟨congrArg (fun z => some (Value.int z)) (?_ : (nI c) = nuH n c F x), ?_⟩
      · simp [nuH, sx1]
      rfl
    · refine htableIn (off := 108) (tgt := 109) X dX1_number_1 (by rw [sx1]; decide) (by rw [sx1]; decide) (by rw [sx1]; decide) (by decide) ?_
      have sx1 : (x : Int32) = 3 := sx1
      refine hV_to (lv' := [(0, .ref (h 0)), (1, .int 3)]) rfl (congrArg (fun z => ([(0, .ref (h 0)), (1, .int z)] : List (Nat × Value))) sx1) rfl ?_
      refine haload_n X dX1_number_109 rfl ?_
      refine hget1 X (T := TX1) (N := 7) iX1 0 rfl rfl 2 (by decide) (by decide +kernel) rfl dX1_number_110 ?_
      refine hiconst (v := 0) X dX1_number_113 rfl ?_
      refine hV_perm (ws' := stW G h n F ++ hrS G h c F) (pmS G h _ _ _) ?_
      refine hcallVr (C := RX6) (T := TX6) (N := 11) (As := [.int 0]) (rest := []) (st' := [.int (hcnt n F 0)]) (w := stW G h n F) X (q0 := 0) (kX6_countIn l G h F n 0 (by first | assumption | omega)) gX1_number_X6_countIn rfl (n := 1) (by decide +kernel) (by decide) rfl rfl rfl rfl (Nat.le_of_ble_eq_true rfl) dX1_number_114 rfl rfl (by decide) rfl ?_
      refine hV_perm (ws' := haW G h n c F) (pmS G h _ _ _).symm ?_
      refine hiret X dX1_number_117 ⟨congrArg (fun z => some (Value.int z)) (?_ : (hcnt n F 0) = nuH n c F x), ?_⟩
      · simp [nuH, sx1]
      rfl
    · refine htableIn (off := 117) (tgt := 118) X dX1_number_1 (by rw [sx1]; decide) (by rw [sx1]; decide) (by rw [sx1]; decide) (by decide) ?_
      have sx1 : (x : Int32) = 4 := sx1
      refine hV_to (lv' := [(0, .ref (h 0)), (1, .int 4)]) rfl (congrArg (fun z => ([(0, .ref (h 0)), (1, .int z)] : List (Nat × Value))) sx1) rfl ?_
      refine haload_n X dX1_number_118 rfl ?_
      refine hget1 X (T := TX1) (N := 7) iX1 0 rfl rfl 2 (by decide) (by decide +kernel) rfl dX1_number_119 ?_
      refine hiconst (v := 1) X dX1_number_122 rfl ?_
      refine hV_perm (ws' := stW G h n F ++ hrS G h c F) (pmS G h _ _ _) ?_
      refine hcallVr (C := RX6) (T := TX6) (N := 11) (As := [.int 1]) (rest := []) (st' := [.int (hcnt n F 1)]) (w := stW G h n F) X (q0 := 0) (kX6_countIn l G h F n 1 (by first | assumption | omega)) gX1_number_X6_countIn rfl (n := 1) (by decide +kernel) (by decide) rfl rfl rfl rfl (Nat.le_of_ble_eq_true rfl) dX1_number_123 rfl rfl (by decide) rfl ?_
      refine hV_perm (ws' := haW G h n c F) (pmS G h _ _ _).symm ?_
      refine hiret X dX1_number_126 ⟨congrArg (fun z => some (Value.int z)) (?_ : (hcnt n F 1) = nuH n c F x), ?_⟩
      · simp [nuH, sx1]
      rfl
    · refine htableIn (off := 126) (tgt := 127) X dX1_number_1 (by rw [sx1]; decide) (by rw [sx1]; decide) (by rw [sx1]; decide) (by decide) ?_
      have sx1 : (x : Int32) = 5 := sx1
      refine hV_to (lv' := [(0, .ref (h 0)), (1, .int 5)]) rfl (congrArg (fun z => ([(0, .ref (h 0)), (1, .int z)] : List (Nat × Value))) sx1) rfl ?_
      refine haload_n X dX1_number_127 rfl ?_
      refine hget1 X (T := TX1) (N := 7) iX1 0 rfl rfl 2 (by decide) (by decide +kernel) rfl dX1_number_128 ?_
      refine hiconst (v := 2) X dX1_number_131 rfl ?_
      refine hV_perm (ws' := stW G h n F ++ hrS G h c F) (pmS G h _ _ _) ?_
      refine hcallVr (C := RX6) (T := TX6) (N := 11) (As := [.int 2]) (rest := []) (st' := [.int (hcnt n F 2)]) (w := stW G h n F) X (q0 := 0) (kX6_countIn l G h F n 2 (by first | assumption | omega)) gX1_number_X6_countIn rfl (n := 1) (by decide +kernel) (by decide) rfl rfl rfl rfl (Nat.le_of_ble_eq_true rfl) dX1_number_132 rfl rfl (by decide) rfl ?_
      refine hV_perm (ws' := haW G h n c F) (pmS G h _ _ _).symm ?_
      refine hiret X dX1_number_135 ⟨congrArg (fun z => some (Value.int z)) (?_ : (hcnt n F 2) = nuH n c F x), ?_⟩
      · simp [nuH, sx1]
      rfl
    · refine htableIn (off := 135) (tgt := 136) X dX1_number_1 (by rw [sx1]; decide) (by rw [sx1]; decide) (by rw [sx1]; decide) (by decide) ?_
      have sx1 : (x : Int32) = 6 := sx1
      refine hV_to (lv' := [(0, .ref (h 0)), (1, .int 6)]) rfl (congrArg (fun z => ([(0, .ref (h 0)), (1, .int z)] : List (Nat × Value))) sx1) rfl ?_
      refine haload_n X dX1_number_136 rfl ?_
      refine hget1 X (T := TX1) (N := 7) iX1 0 rfl rfl 2 (by decide) (by decide +kernel) rfl dX1_number_137 ?_
      refine hiconst (v := 3) X dX1_number_140 rfl ?_
      refine hV_perm (ws' := stW G h n F ++ hrS G h c F) (pmS G h _ _ _) ?_
      refine hcallVr (C := RX6) (T := TX6) (N := 11) (As := [.int 3]) (rest := []) (st' := [.int (hcnt n F 3)]) (w := stW G h n F) X (q0 := 0) (kX6_countIn l G h F n 3 (by first | assumption | omega)) gX1_number_X6_countIn rfl (n := 1) (by decide +kernel) (by decide) rfl rfl rfl rfl (Nat.le_of_ble_eq_true rfl) dX1_number_141 rfl rfl (by decide) rfl ?_
      refine hV_perm (ws' := haW G h n c F) (pmS G h _ _ _).symm ?_
      refine hiret X dX1_number_144 ⟨congrArg (fun z => some (Value.int z)) (?_ : (hcnt n F 3) = nuH n c F x), ?_⟩
      · simp [nuH, sx1]
      rfl
    · refine htableIn (off := 144) (tgt := 145) X dX1_number_1 (by rw [sx1]; decide) (by rw [sx1]; decide) (by rw [sx1]; decide) (by decide) ?_
      have sx1 : (x : Int32) = 7 := sx1
      refine hV_to (lv' := [(0, .ref (h 0)), (1, .int 7)]) rfl (congrArg (fun z => ([(0, .ref (h 0)), (1, .int z)] : List (Nat × Value))) sx1) rfl ?_
      refine haload_n X dX1_number_145 rfl ?_
      refine hget1 X (T := TX1) (N := 7) iX1 0 rfl rfl 2 (by decide) (by decide +kernel) rfl dX1_number_146 ?_
      refine hiconst (v := 4) X dX1_number_149 rfl ?_
      refine hV_perm (ws' := stW G h n F ++ hrS G h c F) (pmS G h _ _ _) ?_
      refine hcallVr (C := RX6) (T := TX6) (N := 11) (As := [.int 4]) (rest := []) (st' := [.int (hcnt n F 4)]) (w := stW G h n F) X (q0 := 0) (kX6_countIn l G h F n 4 (by first | assumption | omega)) gX1_number_X6_countIn rfl (n := 1) (by decide +kernel) (by decide) rfl rfl rfl rfl (Nat.le_of_ble_eq_true rfl) dX1_number_150 rfl rfl (by decide) rfl ?_
      refine hV_perm (ws' := haW G h n c F) (pmS G h _ _ _).symm ?_
      refine hiret X dX1_number_153 ⟨congrArg (fun z => some (Value.int z)) (?_ : (hcnt n F 4) = nuH n c F x), ?_⟩
      · simp [nuH, sx1]
      rfl
    · refine htableIn (off := 153) (tgt := 154) X dX1_number_1 (by rw [sx1]; decide) (by rw [sx1]; decide) (by rw [sx1]; decide) (by decide) ?_
      have sx1 : (x : Int32) = 8 := sx1
      refine hV_to (lv' := [(0, .ref (h 0)), (1, .int 8)]) rfl (congrArg (fun z => ([(0, .ref (h 0)), (1, .int z)] : List (Nat × Value))) sx1) rfl ?_
      refine haload_n X dX1_number_154 rfl ?_
      refine hget1 X (T := TX1) (N := 7) iX1 0 rfl rfl 2 (by decide) (by decide +kernel) rfl dX1_number_155 ?_
      refine hiconst (v := 5) X dX1_number_158 rfl ?_
      refine hV_perm (ws' := stW G h n F ++ hrS G h c F) (pmS G h _ _ _) ?_
      refine hcallVr (C := RX6) (T := TX6) (N := 11) (As := [.int 5]) (rest := []) (st' := [.int (hcnt n F 5)]) (w := stW G h n F) X (q0 := 0) (kX6_countIn l G h F n 5 (by first | assumption | omega)) gX1_number_X6_countIn rfl (n := 1) (by decide +kernel) (by decide) rfl rfl rfl rfl (Nat.le_of_ble_eq_true rfl) dX1_number_159 rfl rfl (by decide) rfl ?_
      refine hV_perm (ws' := haW G h n c F) (pmS G h _ _ _).symm ?_
      refine hiret X dX1_number_162 ⟨congrArg (fun z => some (Value.int z)) (?_ : (hcnt n F 5) = nuH n c F x), ?_⟩
      · simp [nuH, sx1]
      rfl
    · refine htableIn (off := 162) (tgt := 163) X dX1_number_1 (by rw [sx1]; decide) (by rw [sx1]; decide) (by rw [sx1]; decide) (by decide) ?_
      have sx1 : (x : Int32) = 9 := sx1
      refine hV_to (lv' := [(0, .ref (h 0)), (1, .int 9)]) rfl (congrArg (fun z => ([(0, .ref (h 0)), (1, .int z)] : List (Nat × Value))) sx1) rfl ?_
      refine haload_n X dX1_number_163 rfl ?_
      refine hget1 X (T := TX1) (N := 7) iX1 0 rfl rfl 2 (by decide) (by decide +kernel) rfl dX1_number_164 ?_
      refine hbipush (v := 6) X dX1_number_167 rfl ?_
      refine hV_perm (ws' := stW G h n F ++ hrS G h c F) (pmS G h _ _ _) ?_
      refine hcallVr (C := RX6) (T := TX6) (N := 11) (As := [.int 6]) (rest := []) (st' := [.int (hcnt n F 6)]) (w := stW G h n F) X (q0 := 0) (kX6_countIn l G h F n 6 (by first | assumption | omega)) gX1_number_X6_countIn rfl (n := 1) (by decide +kernel) (by decide) rfl rfl rfl rfl (Nat.le_of_ble_eq_true rfl) dX1_number_169 rfl rfl (by decide) rfl ?_
      refine hV_perm (ws' := haW G h n c F) (pmS G h _ _ _).symm ?_
      refine hiret X dX1_number_172 ⟨congrArg (fun z => some (Value.int z)) (?_ : (hcnt n F 6) = nuH n c F x), ?_⟩
      · simp [nuH, sx1]
      rfl
    · refine htableIn (off := 172) (tgt := 173) X dX1_number_1 (by rw [sx1]; decide) (by rw [sx1]; decide) (by rw [sx1]; decide) (by decide) ?_
      have sx1 : (x : Int32) = 10 := sx1
      refine hV_to (lv' := [(0, .ref (h 0)), (1, .int 10)]) rfl (congrArg (fun z => ([(0, .ref (h 0)), (1, .int z)] : List (Nat × Value))) sx1) rfl ?_
      refine haload_n X dX1_number_173 rfl ?_
      refine hget1 X (T := TX1) (N := 7) iX1 0 rfl rfl 2 (by decide) (by decide +kernel) rfl dX1_number_174 ?_
      refine hV_perm (ws' := stW G h n F ++ hrS G h c F) (pmS G h _ _ _) ?_
      refine hcallVr (C := RX6) (T := TX6) (N := 11) (As := []) (rest := []) (st' := [.int (hmet n F)]) (w := stW G h n F) X (q0 := 0) (kX6_metersAtDock l G h F n (by first | assumption | omega)) gX1_number_X6_metersAtDock rfl (n := 0) (by decide +kernel) (by decide) rfl rfl rfl rfl (Nat.le_of_ble_eq_true rfl) dX1_number_177 rfl rfl (by decide) rfl ?_
      refine hV_perm (ws' := haW G h n c F) (pmS G h _ _ _).symm ?_
      refine hiret X dX1_number_180 ⟨congrArg (fun z => some (Value.int z)) (?_ : (hmet n F) = nuH n c F x), ?_⟩
      · simp [nuH, sx1]
      rfl
    · refine htableIn (off := 180) (tgt := 181) X dX1_number_1 (by rw [sx1]; decide) (by rw [sx1]; decide) (by rw [sx1]; decide) (by decide) ?_
      have sx1 : (x : Int32) = 11 := sx1
      refine hV_to (lv' := [(0, .ref (h 0)), (1, .int 11)]) rfl (congrArg (fun z => ([(0, .ref (h 0)), (1, .int z)] : List (Nat × Value))) sx1) rfl ?_
      refine haload_n X dX1_number_181 rfl ?_
      refine hget1 X (T := TX1) (N := 7) iX1 0 rfl rfl 5 (by decide) (by decide +kernel) rfl dX1_number_182 ?_
      refine hif_eq (tgt := 192) X dX1_number_185 (by decide) (fun c2 => ?_) (fun c2 => ?_)
      · refine hiconst (v := 0) X dX1_number_192 rfl ?_
        refine hiret X dX1_number_193 ⟨congrArg (fun z => some (Value.int z)) (?_ : 0 = nuH n c F x), ?_⟩
        · simp [nuH, sx1, c2]
        rfl
      · refine hiconst (v := 1) X dX1_number_188 rfl ?_
        refine hgoto (tgt := 193) X dX1_number_189 (by decide) ?_
        refine hiret X dX1_number_193 ⟨congrArg (fun z => some (Value.int z)) (?_ : 1 = nuH n c F x), ?_⟩
        · simp [nuH, sx1, c2]
        rfl
    · refine htableIn (off := 193) (tgt := 194) X dX1_number_1 (by rw [sx1]; decide) (by rw [sx1]; decide) (by rw [sx1]; decide) (by decide) ?_
      have sx1 : (x : Int32) = 12 := sx1
      refine hV_to (lv' := [(0, .ref (h 0)), (1, .int 12)]) rfl (congrArg (fun z => ([(0, .ref (h 0)), (1, .int z)] : List (Nat × Value))) sx1) rfl ?_
      refine haload_n X dX1_number_194 rfl ?_
      refine hget1 X (T := TX1) (N := 7) iX1 0 rfl rfl 6 (by decide) (by decide +kernel) rfl dX1_number_195 ?_
      refine hiret X dX1_number_198 ⟨congrArg (fun z => some (Value.int z)) (?_ : (F 18 2) = nuH n c F x), ?_⟩
      · simp [nuH, sx1]
      rfl
    · refine htableIn (off := 198) (tgt := 199) X dX1_number_1 (by rw [sx1]; decide) (by rw [sx1]; decide) (by rw [sx1]; decide) (by decide) ?_
      have sx1 : (x : Int32) = 13 := sx1
      refine hV_to (lv' := [(0, .ref (h 0)), (1, .int 13)]) rfl (congrArg (fun z => ([(0, .ref (h 0)), (1, .int z)] : List (Nat × Value))) sx1) rfl ?_
      refine haload_n X dX1_number_199 rfl ?_
      refine hget1 X (T := TX1) (N := 7) iX1 0 rfl rfl 3 (by decide) (by decide +kernel) rfl dX1_number_200 ?_
      refine hV_perm (ws' := crW G h c F ++ hrC G h n F) (pmC G h _ _ _) ?_
      refine hcallVr (C := RX0) (T := TX0) (N := 7) (As := []) (rest := []) (st' := [.int (hcos c F)]) (w := crW G h c F) X (q0 := 0) (kX0_costs l G h F c (by first | assumption | omega)) gX1_number_X0_costs rfl (n := 0) (by decide +kernel) (by decide) rfl rfl rfl rfl (Nat.le_of_ble_eq_true rfl) dX1_number_203 rfl rfl (by decide) rfl ?_
      refine hV_perm (ws' := haW G h n c F) (pmC G h _ _ _).symm ?_
      refine hiret X dX1_number_206 ⟨congrArg (fun z => some (Value.int z)) (?_ : (hcos c F) = nuH n c F x), ?_⟩
      · simp [nuH, sx1]
      rfl
    · refine htableIn (off := 206) (tgt := 207) X dX1_number_1 (by rw [sx1]; decide) (by rw [sx1]; decide) (by rw [sx1]; decide) (by decide) ?_
      have sx1 : (x : Int32) = 14 := sx1
      refine hV_to (lv' := [(0, .ref (h 0)), (1, .int 14)]) rfl (congrArg (fun z => ([(0, .ref (h 0)), (1, .int z)] : List (Nat × Value))) sx1) rfl ?_
      refine haload_n X dX1_number_207 rfl ?_
      refine hget1 X (T := TX1) (N := 7) iX1 0 rfl rfl 2 (by decide) (by decide +kernel) rfl dX1_number_208 ?_
      refine hV_perm (ws' := stW G h n F ++ hrS G h c F) (pmS G h _ _ _) ?_
      refine hcallVr (C := RX6) (T := TX6) (N := 11) (As := []) (rest := []) (st' := [.int (hwop n F)]) (w := stW G h n F) X (q0 := 0) (kX6_builtWithoutPower l G h F n (by first | assumption | omega)) gX1_number_X6_builtWithoutPower rfl (n := 0) (by decide +kernel) (by decide) rfl rfl rfl rfl (Nat.le_of_ble_eq_true rfl) dX1_number_211 rfl rfl (by decide) rfl ?_
      refine hV_perm (ws' := haW G h n c F) (pmS G h _ _ _).symm ?_
      refine hiret X dX1_number_214 ⟨congrArg (fun z => some (Value.int z)) (?_ : (hwop n F) = nuH n c F x), ?_⟩
      · simp [nuH, sx1]
      rfl
    · refine htableIn (off := 214) (tgt := 215) X dX1_number_1 (by rw [sx1]; decide) (by rw [sx1]; decide) (by rw [sx1]; decide) (by decide) ?_
      have sx1 : (x : Int32) = 15 := sx1
      refine hV_to (lv' := [(0, .ref (h 0)), (1, .int 15)]) rfl (congrArg (fun z => ([(0, .ref (h 0)), (1, .int z)] : List (Nat × Value))) sx1) rfl ?_
      refine haload_n X dX1_number_215 rfl ?_
      refine hget1 X (T := TX1) (N := 7) iX1 0 rfl rfl 0 (by decide) (by decide +kernel) rfl dX1_number_216 ?_
      refine hiconst (v := 0) X dX1_number_219 rfl ?_
      refine hiald (n := 3) (f := F 16) X 1 rfl 0 rfl (by omega) (by decide) dX1_number_220 ?_
      refine hiret X dX1_number_221 ⟨congrArg (fun z => some (Value.int z)) (?_ : (F 16 0) = nuH n c F x), ?_⟩
      · simp [nuH, sx1]
      rfl
    · refine htableIn (off := 221) (tgt := 222) X dX1_number_1 (by rw [sx1]; decide) (by rw [sx1]; decide) (by rw [sx1]; decide) (by decide) ?_
      have sx1 : (x : Int32) = 16 := sx1
      refine hV_to (lv' := [(0, .ref (h 0)), (1, .int 16)]) rfl (congrArg (fun z => ([(0, .ref (h 0)), (1, .int z)] : List (Nat × Value))) sx1) rfl ?_
      refine haload_n X dX1_number_222 rfl ?_
      refine hget1 X (T := TX1) (N := 7) iX1 0 rfl rfl 0 (by decide) (by decide +kernel) rfl dX1_number_223 ?_
      refine hiconst (v := 1) X dX1_number_226 rfl ?_
      refine hiald (n := 3) (f := F 16) X 1 rfl 1 rfl (by omega) (by decide) dX1_number_227 ?_
      refine hiret X dX1_number_228 ⟨congrArg (fun z => some (Value.int z)) (?_ : (F 16 1) = nuH n c F x), ?_⟩
      · simp [nuH, sx1]
      rfl
    · refine htableIn (off := 228) (tgt := 229) X dX1_number_1 (by rw [sx1]; decide) (by rw [sx1]; decide) (by rw [sx1]; decide) (by decide) ?_
      have sx1 : (x : Int32) = 17 := sx1
      refine hV_to (lv' := [(0, .ref (h 0)), (1, .int 17)]) rfl (congrArg (fun z => ([(0, .ref (h 0)), (1, .int z)] : List (Nat × Value))) sx1) rfl ?_
      refine haload_n X dX1_number_229 rfl ?_
      refine hget1 X (T := TX1) (N := 7) iX1 0 rfl rfl 0 (by decide) (by decide +kernel) rfl dX1_number_230 ?_
      refine hiconst (v := 2) X dX1_number_233 rfl ?_
      refine hiald (n := 3) (f := F 16) X 1 rfl 2 rfl (by omega) (by decide) dX1_number_234 ?_
      refine hiret X dX1_number_235 ⟨congrArg (fun z => some (Value.int z)) (?_ : (F 16 2) = nuH n c F x), ?_⟩
      · simp [nuH, sx1]
      rfl

set_option maxHeartbeats 4000000 in
set_option maxRecDepth 100000 in
theorem kX1_reasonToWait (l : Launch) (G : hG) (h : Nat → Nat) (F : hF) (n c : Nat) (hn : n ≤ 20) (hc : c ≤ 6) (x : Int32) : hM l G yX1_reasonToWait wsX1_reasonToWait ({ frames := 3, cells := 0, slots := 0, locals := 83 }) (haW G h n c F) [.ref (h 0), .int x] (hR (some (.int (waH n F x))) (haW G h n c F)) := by
  refine hM_of (cc := cX1_reasonToWait) (maxL := 2) (ret := (some .int)) (by decide) rfl (Nat.le_of_ble_eq_true rfl) ?_
  intro pp ee ss mm aa bb me cd X hin
  have iX1 : ∀ w ∈ wsX10, w ∈ wsX1_reasonToWait := by decide +kernel
  have iX6 : ∀ w ∈ wsX60, w ∈ wsX1_reasonToWait := by decide +kernel
  refine haload_n X dX1_reasonToWait_0 rfl ?_
  refine hget1 X (T := TX1) (N := 7) iX1 0 rfl rfl 2 (by decide) (by decide +kernel) rfl dX1_reasonToWait_1 ?_
  refine hiload_n X dX1_reasonToWait_4 rfl ?_
  refine hV_perm (ws' := stW G h n F ++ hrS G h c F) (pmS G h _ _ _) ?_
  refine hcallVr (C := RX6) (T := TX6) (N := 11) (As := [.int x]) (rest := []) (st' := [.int (bI (hhas n x))]) (w := stW G h n F) X (q0 := 0) (kX6_has l G h F n x) gX1_reasonToWait_X6_has rfl (n := 1) (by decide +kernel) (by decide) rfl rfl rfl rfl (Nat.le_of_ble_eq_true rfl) dX1_reasonToWait_5 rfl rfl (by decide) rfl ?_
  refine hV_perm (ws' := haW G h n c F) (pmS G h _ _ _).symm ?_
  refine hif_neB (tgt := 13) X dX1_reasonToWait_8 (by decide) (fun c1 => ?_) (fun c1 => ?_)
  · obtain ⟨j, hj, hx⟩ := has_in (by omega) c1
    refine haload_n X dX1_reasonToWait_13 rfl ?_
    refine hget1 X (T := TX1) (N := 7) iX1 0 rfl rfl 2 (by decide) (by decide +kernel) rfl dX1_reasonToWait_14 ?_
    refine hgetN X (T := TX6) (N := 11) iX6 3 rfl rfl 5 (by decide) (by decide +kernel) rfl dX1_reasonToWait_17 ?_
    refine hiload_n X dX1_reasonToWait_20 rfl ?_
    refine hV_st (st' := [.int (nI j), .ref (h 8)]) (congrArg (fun z => ([Value.int z, .ref (h 8)] : List Value)) (hx)) ?_
    refine hiald (n := 20) (f := F 4) X 8 rfl j rfl (by omega) (by decide) dX1_reasonToWait_21 ?_
    rcases sw_cases (F 4 j) 4 (by decide) with sx2 | ⟨kk2, hk2, sx2⟩
    · refine htableOut (tgt := 103) X dX1_reasonToWait_22 sx2 (by decide) ?_
      have sx2_0 : ¬ (F 4 j : Int32) = 0 := fun e9 => by rw [e9] at sx2; exact absurd sx2 (by decide)
      have sx2_1 : ¬ (F 4 j : Int32) = 1 := fun e9 => by rw [e9] at sx2; exact absurd sx2 (by decide)
      have sx2_2 : ¬ (F 4 j : Int32) = 2 := fun e9 => by rw [e9] at sx2; exact absurd sx2 (by decide)
      have sx2_3 : ¬ (F 4 j : Int32) = 3 := fun e9 => by rw [e9] at sx2; exact absurd sx2 (by decide)
      have sx2_4 : ¬ (F 4 j : Int32) = 4 := fun e9 => by rw [e9] at sx2; exact absurd sx2 (by decide)
      refine hiconst (v := 0) X dX1_reasonToWait_103 rfl ?_
      refine hiret X dX1_reasonToWait_104 ⟨congrArg (fun z => some (Value.int z)) (?_ : 0 = waH n F x), ?_⟩
      · have ej := nI_clamp (show j < 2 ^ 31 by omega)
        subst hx
        rw [waH, if_pos c1]
        simp [ej, sx2_0, sx2_1, sx2_2, sx2_3, sx2_4]
      rfl
    · rcases (show kk2 = 0 ∨ kk2 = 1 ∨ kk2 = 2 ∨ kk2 = 3 ∨ kk2 = 4 by omega) with rfl | rfl | rfl | rfl | rfl
      · refine htableIn (off := 34) (tgt := 56) X dX1_reasonToWait_22 (by rw [sx2]; decide) (by rw [sx2]; decide) (by rw [sx2]; decide) (by decide) ?_
        have sx2 : (F 4 j : Int32) = 0 := sx2
        refine hiconst (v := 1) X dX1_reasonToWait_56 rfl ?_
        refine hiret X dX1_reasonToWait_57 ⟨congrArg (fun z => some (Value.int z)) (?_ : 1 = waH n F x), ?_⟩
        · have ej := nI_clamp (show j < 2 ^ 31 by omega)
          subst hx
          rw [waH, if_pos c1]
          simp [ej, sx2]
        rfl
      · refine htableIn (off := 36) (tgt := 58) X dX1_reasonToWait_22 (by rw [sx2]; decide) (by rw [sx2]; decide) (by rw [sx2]; decide) (by decide) ?_
        have sx2 : (F 4 j : Int32) = 1 := sx2
        refine hiconst (v := 2) X dX1_reasonToWait_58 rfl ?_
        refine hiret X dX1_reasonToWait_59 ⟨congrArg (fun z => some (Value.int z)) (?_ : 2 = waH n F x), ?_⟩
        · have ej := nI_clamp (show j < 2 ^ 31 by omega)
          subst hx
          rw [waH, if_pos c1]
          simp [ej, sx2]
        rfl
      · refine htableIn (off := 38) (tgt := 60) X dX1_reasonToWait_22 (by rw [sx2]; decide) (by rw [sx2]; decide) (by rw [sx2]; decide) (by decide) ?_
        have sx2 : (F 4 j : Int32) = 2 := sx2
        refine haload_n X dX1_reasonToWait_60 rfl ?_
        refine hget1 X (T := TX1) (N := 7) iX1 0 rfl rfl 2 (by decide) (by decide +kernel) rfl dX1_reasonToWait_61 ?_
        refine hiload_n X dX1_reasonToWait_64 rfl ?_
        refine hV_perm (ws' := stW G h n F ++ hrS G h c F) (pmS G h _ _ _) ?_
        refine hcallVr (C := RX6) (T := TX6) (N := 11) (As := [.int x]) (rest := []) (st' := [.int (bI (hbb n F x))]) (w := stW G h n F) X (q0 := 0) (kX6_baseIsBuilt l G h F n x (by first | assumption | omega | simp [fs_at, *])) gX1_reasonToWait_X6_baseIsBuilt rfl (n := 1) (by decide +kernel) (by decide) rfl rfl rfl rfl (Nat.le_of_ble_eq_true rfl) dX1_reasonToWait_65 rfl rfl (by decide) rfl ?_
        refine hV_perm (ws' := haW G h n c F) (pmS G h _ _ _).symm ?_
        refine hif_eqB (tgt := 75) X dX1_reasonToWait_68 (by decide) (fun c3 => ?_) (fun c3 => ?_)
        · refine hiconst (v := 3) X dX1_reasonToWait_75 rfl ?_
          refine hiret X dX1_reasonToWait_76 ⟨congrArg (fun z => some (Value.int z)) (?_ : 3 = waH n F x), ?_⟩
          · have ej := nI_clamp (show j < 2 ^ 31 by omega)
            subst hx
            rw [waH, if_pos c1]
            simp [ej, sx2, if_neg c3]
          rfl
        · refine hiconst (v := 4) X dX1_reasonToWait_71 rfl ?_
          refine hgoto (tgt := 76) X dX1_reasonToWait_72 (by decide) ?_
          refine hiret X dX1_reasonToWait_76 ⟨congrArg (fun z => some (Value.int z)) (?_ : 4 = waH n F x), ?_⟩
          · have ej := nI_clamp (show j < 2 ^ 31 by omega)
            subst hx
            rw [waH, if_pos c1]
            simp [ej, sx2, if_pos c3]
          rfl
      · refine htableIn (off := 81) (tgt := 103) X dX1_reasonToWait_22 (by rw [sx2]; decide) (by rw [sx2]; decide) (by rw [sx2]; decide) (by decide) ?_
        have sx2 : (F 4 j : Int32) = 3 := sx2
        refine hiconst (v := 0) X dX1_reasonToWait_103 rfl ?_
        refine hiret X dX1_reasonToWait_104 ⟨congrArg (fun z => some (Value.int z)) (?_ : 0 = waH n F x), ?_⟩
        · have ej := nI_clamp (show j < 2 ^ 31 by omega)
          subst hx
          rw [waH, if_pos c1]
          simp [ej, sx2]
        rfl
      · refine htableIn (off := 55) (tgt := 77) X dX1_reasonToWait_22 (by rw [sx2]; decide) (by rw [sx2]; decide) (by rw [sx2]; decide) (by decide) ?_
        have sx2 : (F 4 j : Int32) = 4 := sx2
        refine haload_n X dX1_reasonToWait_77 rfl ?_
        refine hget1 X (T := TX1) (N := 7) iX1 0 rfl rfl 5 (by decide) (by decide +kernel) rfl dX1_reasonToWait_78 ?_
        refine hif_ne (tgt := 86) X dX1_reasonToWait_81 (by decide) (fun c4 => ?_) (fun c4 => ?_)
        · refine haload_n X dX1_reasonToWait_86 rfl ?_
          refine hget1 X (T := TX1) (N := 7) iX1 0 rfl rfl 2 (by decide) (by decide +kernel) rfl dX1_reasonToWait_87 ?_
          refine hiload_n X dX1_reasonToWait_90 rfl ?_
          refine hV_perm (ws' := stW G h n F ++ hrS G h c F) (pmS G h _ _ _) ?_
          refine hcallVr (C := RX6) (T := TX6) (N := 11) (As := [.int x]) (rest := []) (st' := [.int (hsto n F x)]) (w := stW G h n F) X (q0 := 0) (kX6_standingOn l G h F n x (by first | assumption | omega | simp [fs_at, *])) gX1_reasonToWait_X6_standingOn rfl (n := 1) (by decide +kernel) (by decide) rfl rfl rfl rfl (Nat.le_of_ble_eq_true rfl) dX1_reasonToWait_91 rfl rfl (by decide) rfl ?_
          refine hV_perm (ws' := haW G h n c F) (pmS G h _ _ _).symm ?_
          refine hif_ne (tgt := 101) X dX1_reasonToWait_94 (by decide) (fun c5 => ?_) (fun c5 => ?_)
          · refine hiconst (v := 5) X dX1_reasonToWait_101 rfl ?_
            refine hiret X dX1_reasonToWait_102 ⟨congrArg (fun z => some (Value.int z)) (?_ : 5 = waH n F x), ?_⟩
            · have ej := nI_clamp (show j < 2 ^ 31 by omega)
              subst hx
              rw [waH, if_pos c1]
              simp [ej, sx2, c4, c5]
            rfl
          · refine hiconst (v := 4) X dX1_reasonToWait_97 rfl ?_
            refine hgoto (tgt := 102) X dX1_reasonToWait_98 (by decide) ?_
            refine hiret X dX1_reasonToWait_102 ⟨congrArg (fun z => some (Value.int z)) (?_ : 4 = waH n F x), ?_⟩
            · have ej := nI_clamp (show j < 2 ^ 31 by omega)
              subst hx
              rw [waH, if_pos c1]
              simp [ej, sx2, c4, c5]
            rfl
        · refine hiconst (v := 0) X dX1_reasonToWait_84 rfl ?_
          refine hiret X dX1_reasonToWait_85 ⟨congrArg (fun z => some (Value.int z)) (?_ : 0 = waH n F x), ?_⟩
          · have ej := nI_clamp (show j < 2 ^ 31 by omega)
            subst hx
            rw [waH, if_pos c1]
            simp [ej, sx2, c4]
          rfl
  · refine hiconst (v := (-1)) X dX1_reasonToWait_11 rfl ?_
    refine hiret X dX1_reasonToWait_12 ⟨congrArg (fun z => some (Value.int z)) (?_ : (-1) = waH n F x), ?_⟩
    · rw [waH, if_neg c1]
    rfl

