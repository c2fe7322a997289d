set_option maxHeartbeats 4000000 in
set_option maxRecDepth 100000 in
theorem kX6_copyFrom (l : Launch) (G : hG) (h o : Nat → Nat) (m n : Nat) (Fo F : hF) : hM l G yX6_copyFrom wsX6_copyFrom ({ frames := 2, cells := 0, slots := 0, locals := 81 }) (stW G o m Fo ++ stW G h n F) [.ref (h 3), .ref (o 3)] (hR none (stW G o m Fo ++ stW G h m (scF Fo F 10))) := by
  refine hM_of (cc := cX6_copyFrom) (maxL := 2) (ret := none) (by decide) rfl (Nat.le_of_ble_eq_true rfl) ?_
  intro pp ee ss mm aa bb me cd X hin
  have iX6 : ∀ w ∈ wsX60, w ∈ wsX6_copyFrom := by decide +kernel
  refine haload_n X dX6_copyFrom_0 rfl ?_
  refine haload_n X dX6_copyFrom_1 rfl ?_
  refine hget1 X (T := TX6) (N := 11) iX6 0 rfl rfl 0 (by decide) (by decide +kernel) rfl dX6_copyFrom_2 ?_
  refine hput1 X (T := TX6) (N := 11) iX6 tyX6 tyX6_ok nmX6 11 rfl rfl 0 (by decide) (by decide +kernel) (by decide +kernel) rfl rfl (Nat.le_of_ble_eq_true rfl) dX6_copyFrom_5 (ws' := stW G o m Fo ++ stW G h m F) rfl ?_
  refine haload_n X dX6_copyFrom_8 rfl ?_
  refine hget1 X (T := TX6) (N := 11) iX6 0 rfl rfl 1 (by decide) (by decide +kernel) rfl dX6_copyFrom_9 ?_
  refine haload_n X dX6_copyFrom_12 rfl ?_
  refine hget1 X (T := TX6) (N := 11) iX6 11 rfl rfl 1 (by decide) (by decide +kernel) rfl dX6_copyFrom_13 ?_
  refine hV_to (ws' := stW G o m Fo ++ stW G h m (scF Fo F 0)) rfl rfl rfl ?_
  refine hV_to (ws' := (stW G o m Fo ++ stW G h m (scF Fo F 0)) ++ []) (List.append_nil _).symm rfl rfl ?_
  refine hcallSNr (wsC := stW G o m Fo ++ stW G h m (scF Fo F 0)) (wsR := []) (As := [.ref (o 4), .ref (h 4)]) (rest := []) (st' := []) (w := stW G o m Fo ++ stW G h m (scF Fo F 1)) X (kcS_0 l G h o m m Fo F) gX6_copyFrom_X7_copyRow_n46 rfl (n := 2) (by decide +kernel) (by decide +kernel) (by decide +kernel) (by decide +kernel) (by decide) rfl rfl (Nat.le_of_ble_eq_true rfl) dX6_copyFrom_16 rfl rfl (by decide) rfl ?_
  refine hV_to (ws' := stW G o m Fo ++ stW G h m (scF Fo F 1)) (List.append_nil _) rfl rfl ?_
  refine haload_n X dX6_copyFrom_19 rfl ?_
  refine hget1 X (T := TX6) (N := 11) iX6 0 rfl rfl 2 (by decide) (by decide +kernel) rfl dX6_copyFrom_20 ?_
  refine haload_n X dX6_copyFrom_23 rfl ?_
  refine hget1 X (T := TX6) (N := 11) iX6 11 rfl rfl 2 (by decide) (by decide +kernel) rfl dX6_copyFrom_24 ?_
  refine hV_to (ws' := (stW G o m Fo ++ stW G h m (scF Fo F 1)) ++ []) (List.append_nil _).symm rfl rfl ?_
  refine hcallSNr (wsC := stW G o m Fo ++ stW G h m (scF Fo F 1)) (wsR := []) (As := [.ref (o 5), .ref (h 5)]) (rest := []) (st' := []) (w := stW G o m Fo ++ stW G h m (scF Fo F 2)) X (kcS_1 l G h o m m Fo F) gX6_copyFrom_X7_copyRow_n46 rfl (n := 2) (by decide +kernel) (by decide +kernel) (by decide +kernel) (by decide +kernel) (by decide) rfl rfl (Nat.le_of_ble_eq_true rfl) dX6_copyFrom_27 rfl rfl (by decide) rfl ?_
  refine hV_to (ws' := stW G o m Fo ++ stW G h m (scF Fo F 2)) (List.append_nil _) rfl rfl ?_
  refine haload_n X dX6_copyFrom_30 rfl ?_
  refine hget1 X (T := TX6) (N := 11) iX6 0 rfl rfl 3 (by decide) (by decide +kernel) rfl dX6_copyFrom_31 ?_
  refine haload_n X dX6_copyFrom_34 rfl ?_
  refine hget1 X (T := TX6) (N := 11) iX6 11 rfl rfl 3 (by decide) (by decide +kernel) rfl dX6_copyFrom_35 ?_
  refine hV_to (ws' := (stW G o m Fo ++ stW G h m (scF Fo F 2)) ++ []) (List.append_nil _).symm rfl rfl ?_
  refine hcallSNr (wsC := stW G o m Fo ++ stW G h m (scF Fo F 2)) (wsR := []) (As := [.ref (o 6), .ref (h 6)]) (rest := []) (st' := []) (w := stW G o m Fo ++ stW G h m (scF Fo F 3)) X (kcS_2 l G h o m m Fo F) gX6_copyFrom_X7_copyRow_n46 rfl (n := 2) (by decide +kernel) (by decide +kernel) (by decide +kernel) (by decide +kernel) (by decide) rfl rfl (Nat.le_of_ble_eq_true rfl) dX6_copyFrom_38 rfl rfl (by decide) rfl ?_
  refine hV_to (ws' := stW G o m Fo ++ stW G h m (scF Fo F 3)) (List.append_nil _) rfl rfl ?_
  refine haload_n X dX6_copyFrom_41 rfl ?_
  refine hget1 X (T := TX6) (N := 11) iX6 0 rfl rfl 4 (by decide) (by decide +kernel) rfl dX6_copyFrom_42 ?_
  refine haload_n X dX6_copyFrom_45 rfl ?_
  refine hget1 X (T := TX6) (N := 11) iX6 11 rfl rfl 4 (by decide) (by decide +kernel) rfl dX6_copyFrom_46 ?_
  refine hV_to (ws' := (stW G o m Fo ++ stW G h m (scF Fo F 3)) ++ []) (List.append_nil _).symm rfl rfl ?_
  refine hcallSNr (wsC := stW G o m Fo ++ stW G h m (scF Fo F 3)) (wsR := []) (As := [.ref (o 7), .ref (h 7)]) (rest := []) (st' := []) (w := stW G o m Fo ++ stW G h m (scF Fo F 4)) X (kcS_3 l G h o m m Fo F) gX6_copyFrom_X7_copyRow_n46 rfl (n := 2) (by decide +kernel) (by decide +kernel) (by decide +kernel) (by decide +kernel) (by decide) rfl rfl (Nat.le_of_ble_eq_true rfl) dX6_copyFrom_49 rfl rfl (by decide) rfl ?_
  refine hV_to (ws' := stW G o m Fo ++ stW G h m (scF Fo F 4)) (List.append_nil _) rfl rfl ?_
  refine haload_n X dX6_copyFrom_52 rfl ?_
  refine hget1 X (T := TX6) (N := 11) iX6 0 rfl rfl 5 (by decide) (by decide +kernel) rfl dX6_copyFrom_53 ?_
  refine haload_n X dX6_copyFrom_56 rfl ?_
  refine hget1 X (T := TX6) (N := 11) iX6 11 rfl rfl 5 (by decide) (by decide +kernel) rfl dX6_copyFrom_57 ?_
  refine hV_to (ws' := (stW G o m Fo ++ stW G h m (scF Fo F 4)) ++ []) (List.append_nil _).symm rfl rfl ?_
  refine hcallSNr (wsC := stW G o m Fo ++ stW G h m (scF Fo F 4)) (wsR := []) (As := [.ref (o 8), .ref (h 8)]) (rest := []) (st' := []) (w := stW G o m Fo ++ stW G h m (scF Fo F 5)) X (kcS_4 l G h o m m Fo F) gX6_copyFrom_X7_copyRow_n46 rfl (n := 2) (by decide +kernel) (by decide +kernel) (by decide +kernel) (by decide +kernel) (by decide) rfl rfl (Nat.le_of_ble_eq_true rfl) dX6_copyFrom_60 rfl rfl (by decide) rfl ?_
  refine hV_to (ws' := stW G o m Fo ++ stW G h m (scF Fo F 5)) (List.append_nil _) rfl rfl ?_
  refine haload_n X dX6_copyFrom_63 rfl ?_
  refine hget1 X (T := TX6) (N := 11) iX6 0 rfl rfl 6 (by decide) (by decide +kernel) rfl dX6_copyFrom_64 ?_
  refine haload_n X dX6_copyFrom_67 rfl ?_
  refine hget1 X (T := TX6) (N := 11) iX6 11 rfl rfl 6 (by decide) (by decide +kernel) rfl dX6_copyFrom_68 ?_
  refine hV_to (ws' := (stW G o m Fo ++ stW G h m (scF Fo F 5)) ++ []) (List.append_nil _).symm rfl rfl ?_
  refine hcallSNr (wsC := stW G o m Fo ++ stW G h m (scF Fo F 5)) (wsR := []) (As := [.ref (o 9), .ref (h 9)]) (rest := []) (st' := []) (w := stW G o m Fo ++ stW G h m (scF Fo F 6)) X (kcS_5 l G h o m m Fo F) gX6_copyFrom_X7_copyRow_n46 rfl (n := 2) (by decide +kernel) (by decide +kernel) (by decide +kernel) (by decide +kernel) (by decide) rfl rfl (Nat.le_of_ble_eq_true rfl) dX6_copyFrom_71 rfl rfl (by decide) rfl ?_
  refine hV_to (ws' := stW G o m Fo ++ stW G h m (scF Fo F 6)) (List.append_nil _) rfl rfl ?_
  refine haload_n X dX6_copyFrom_74 rfl ?_
  refine hget1 X (T := TX6) (N := 11) iX6 0 rfl rfl 7 (by decide) (by decide +kernel) rfl dX6_copyFrom_75 ?_
  refine haload_n X dX6_copyFrom_78 rfl ?_
  refine hget1 X (T := TX6) (N := 11) iX6 11 rfl rfl 7 (by decide) (by decide +kernel) rfl dX6_copyFrom_79 ?_
  refine hV_to (ws' := (stW G o m Fo ++ stW G h m (scF Fo F 6)) ++ []) (List.append_nil _).symm rfl rfl ?_
  refine hcallSNr (wsC := stW G o m Fo ++ stW G h m (scF Fo F 6)) (wsR := []) (As := [.ref (o 10), .ref (h 10)]) (rest := []) (st' := []) (w := stW G o m Fo ++ stW G h m (scF Fo F 7)) X (kcS_6 l G h o m m Fo F) gX6_copyFrom_X7_copyRow_n46 rfl (n := 2) (by decide +kernel) (by decide +kernel) (by decide +kernel) (by decide +kernel) (by decide) rfl rfl (Nat.le_of_ble_eq_true rfl) dX6_copyFrom_82 rfl rfl (by decide) rfl ?_
  refine hV_to (ws' := stW G o m Fo ++ stW G h m (scF Fo F 7)) (List.append_nil _) rfl rfl ?_
  refine haload_n X dX6_copyFrom_85 rfl ?_
  refine hget1 X (T := TX6) (N := 11) iX6 0 rfl rfl 8 (by decide) (by decide +kernel) rfl dX6_copyFrom_86 ?_
  refine haload_n X dX6_copyFrom_89 rfl ?_
  refine hget1 X (T := TX6) (N := 11) iX6 11 rfl rfl 8 (by decide) (by decide +kernel) rfl dX6_copyFrom_90 ?_
  refine hV_to (ws' := (stW G o m Fo ++ stW G h m (scF Fo F 7)) ++ []) (List.append_nil _).symm rfl rfl ?_
  refine hcallSNr (wsC := stW G o m Fo ++ stW G h m (scF Fo F 7)) (wsR := []) (As := [.ref (o 11), .ref (h 11)]) (rest := []) (st' := []) (w := stW G o m Fo ++ stW G h m (scF Fo F 8)) X (kcS_7 l G h o m m Fo F) gX6_copyFrom_X7_copyRow_n46 rfl (n := 2) (by decide +kernel) (by decide +kernel) (by decide +kernel) (by decide +kernel) (by decide) rfl rfl (Nat.le_of_ble_eq_true rfl) dX6_copyFrom_93 rfl rfl (by decide) rfl ?_
  refine hV_to (ws' := stW G o m Fo ++ stW G h m (scF Fo F 8)) (List.append_nil _) rfl rfl ?_
  refine haload_n X dX6_copyFrom_96 rfl ?_
  refine hget1 X (T := TX6) (N := 11) iX6 0 rfl rfl 9 (by decide) (by decide +kernel) rfl dX6_copyFrom_97 ?_
  refine haload_n X dX6_copyFrom_100 rfl ?_
  refine hget1 X (T := TX6) (N := 11) iX6 11 rfl rfl 9 (by decide) (by decide +kernel) rfl dX6_copyFrom_101 ?_
  refine hV_to (ws' := (stW G o m Fo ++ stW G h m (scF Fo F 8)) ++ []) (List.append_nil _).symm rfl rfl ?_
  refine hcallSNr (wsC := stW G o m Fo ++ stW G h m (scF Fo F 8)) (wsR := []) (As := [.ref (o 12), .ref (h 12)]) (rest := []) (st' := []) (w := stW G o m Fo ++ stW G h m (scF Fo F 9)) X (kcS_8 l G h o m m Fo F) gX6_copyFrom_X7_copyRow_n46 rfl (n := 2) (by decide +kernel) (by decide +kernel) (by decide +kernel) (by decide +kernel) (by decide) rfl rfl (Nat.le_of_ble_eq_true rfl) dX6_copyFrom_104 rfl rfl (by decide) rfl ?_
  refine hV_to (ws' := stW G o m Fo ++ stW G h m (scF Fo F 9)) (List.append_nil _) rfl rfl ?_
  refine haload_n X dX6_copyFrom_107 rfl ?_
  refine hget1 X (T := TX6) (N := 11) iX6 0 rfl rfl 10 (by decide) (by decide +kernel) rfl dX6_copyFrom_108 ?_
  refine haload_n X dX6_copyFrom_111 rfl ?_
  refine hget1 X (T := TX6) (N := 11) iX6 11 rfl rfl 10 (by decide) (by decide +kernel) rfl dX6_copyFrom_112 ?_
  refine hV_to (ws' := (stW G o m Fo ++ stW G h m (scF Fo F 9)) ++ []) (List.append_nil _).symm rfl rfl ?_
  refine hcallSNr (wsC := stW G o m Fo ++ stW G h m (scF Fo F 9)) (wsR := []) (As := [.ref (o 13), .ref (h 13)]) (rest := []) (st' := []) (w := stW G o m Fo ++ stW G h m (scF Fo F 10)) X (kcS_9 l G h o m m Fo F) gX6_copyFrom_X7_copyRow_n46 rfl (n := 2) (by decide +kernel) (by decide +kernel) (by decide +kernel) (by decide +kernel) (by decide) rfl rfl (Nat.le_of_ble_eq_true rfl) dX6_copyFrom_115 rfl rfl (by decide) rfl ?_
  refine hV_to (ws' := stW G o m Fo ++ stW G h m (scF Fo F 10)) (List.append_nil _) rfl rfl ?_
  refine hvret X dX6_copyFrom_118 ⟨rfl, ?_⟩
  rfl

set_option maxHeartbeats 4000000 in
set_option maxRecDepth 100000 in
theorem kX0_copyFrom (l : Launch) (G : hG) (h o : Nat → Nat) (e c : Nat) (Fo F : hF) : hM l G yX0_copyFrom wsX0_copyFrom ({ frames := 2, cells := 0, slots := 0, locals := 81 }) (crW G o e Fo ++ crW G h c F) [.ref (h 14), .ref (o 14)] (hR none (crW G o e Fo ++ crW G h e (ccF Fo F 6))) := by
  refine hM_of (cc := cX0_copyFrom) (maxL := 2) (ret := none) (by decide) rfl (Nat.le_of_ble_eq_true rfl) ?_
  intro pp ee ss mm aa bb me cd X hin
  have iX0 : ∀ w ∈ wsX00, w ∈ wsX0_copyFrom := by decide +kernel
  refine haload_n X dX0_copyFrom_0 rfl ?_
  refine haload_n X dX0_copyFrom_1 rfl ?_
  refine hget1 X (T := TX0) (N := 7) iX0 0 rfl rfl 0 (by decide) (by decide +kernel) rfl dX0_copyFrom_2 ?_
  refine hput1 X (T := TX0) (N := 7) iX0 tyX0 tyX0_ok nmX0 7 rfl rfl 0 (by decide) (by decide +kernel) (by decide +kernel) rfl rfl (Nat.le_of_ble_eq_true rfl) dX0_copyFrom_5 (ws' := crW G o e Fo ++ crW G h e F) rfl ?_
  refine haload_n X dX0_copyFrom_8 rfl ?_
  refine hget1 X (T := TX0) (N := 7) iX0 0 rfl rfl 1 (by decide) (by decide +kernel) rfl dX0_copyFrom_9 ?_
  refine haload_n X dX0_copyFrom_12 rfl ?_
  refine hget1 X (T := TX0) (N := 7) iX0 7 rfl rfl 1 (by decide) (by decide +kernel) rfl dX0_copyFrom_13 ?_
  refine hV_to (ws' := crW G o e Fo ++ crW G h e (ccF Fo F 0)) rfl rfl rfl ?_
  refine hV_to (ws' := (crW G o e Fo ++ crW G h e (ccF Fo F 0)) ++ []) (List.append_nil _).symm rfl rfl ?_
  refine hcallSNr (wsC := crW G o e Fo ++ crW G h e (ccF Fo F 0)) (wsR := []) (As := [.ref (o 15), .ref (h 15)]) (rest := []) (st' := []) (w := crW G o e Fo ++ crW G h e (ccF Fo F 1)) X (kcC_0 l G h o e e Fo F) gX0_copyFrom_X7_copyRow_n34 rfl (n := 2) (by decide +kernel) (by decide +kernel) (by decide +kernel) (by decide +kernel) (by decide) rfl rfl (Nat.le_of_ble_eq_true rfl) dX0_copyFrom_16 rfl rfl (by decide) rfl ?_
  refine hV_to (ws' := crW G o e Fo ++ crW G h e (ccF Fo F 1)) (List.append_nil _) rfl rfl ?_
  refine haload_n X dX0_copyFrom_19 rfl ?_
  refine hget1 X (T := TX0) (N := 7) iX0 0 rfl rfl 2 (by decide) (by decide +kernel) rfl dX0_copyFrom_20 ?_
  refine haload_n X dX0_copyFrom_23 rfl ?_
  refine hget1 X (T := TX0) (N := 7) iX0 7 rfl rfl 2 (by decide) (by decide +kernel) rfl dX0_copyFrom_24 ?_
  refine hV_to (ws' := (crW G o e Fo ++ crW G h e (ccF Fo F 1)) ++ []) (List.append_nil _).symm rfl rfl ?_
  refine hcallSNr (wsC := crW G o e Fo ++ crW G h e (ccF Fo F 1)) (wsR := []) (As := [.ref (o 16), .ref (h 16)]) (rest := []) (st' := []) (w := crW G o e Fo ++ crW G h e (ccF Fo F 2)) X (kcC_1 l G h o e e Fo F) gX0_copyFrom_X7_copyRow_n34 rfl (n := 2) (by decide +kernel) (by decide +kernel) (by decide +kernel) (by decide +kernel) (by decide) rfl rfl (Nat.le_of_ble_eq_true rfl) dX0_copyFrom_27 rfl rfl (by decide) rfl ?_
  refine hV_to (ws' := crW G o e Fo ++ crW G h e (ccF Fo F 2)) (List.append_nil _) rfl rfl ?_
  refine haload_n X dX0_copyFrom_30 rfl ?_
  refine hget1 X (T := TX0) (N := 7) iX0 0 rfl rfl 3 (by decide) (by decide +kernel) rfl dX0_copyFrom_31 ?_
  refine haload_n X dX0_copyFrom_34 rfl ?_
  refine hget1 X (T := TX0) (N := 7) iX0 7 rfl rfl 3 (by decide) (by decide +kernel) rfl dX0_copyFrom_35 ?_
  refine hV_to (ws' := (crW G o e Fo ++ crW G h e (ccF Fo F 2)) ++ []) (List.append_nil _).symm rfl rfl ?_
  refine hcallSNr (wsC := crW G o e Fo ++ crW G h e (ccF Fo F 2)) (wsR := []) (As := [.ref (o 17), .ref (h 17)]) (rest := []) (st' := []) (w := crW G o e Fo ++ crW G h e (ccF Fo F 3)) X (kcC_2 l G h o e e Fo F) gX0_copyFrom_X7_copyRow_n34 rfl (n := 2) (by decide +kernel) (by decide +kernel) (by decide +kernel) (by decide +kernel) (by decide) rfl rfl (Nat.le_of_ble_eq_true rfl) dX0_copyFrom_38 rfl rfl (by decide) rfl ?_
  refine hV_to (ws' := crW G o e Fo ++ crW G h e (ccF Fo F 3)) (List.append_nil _) rfl rfl ?_
  refine haload_n X dX0_copyFrom_41 rfl ?_
  refine hget1 X (T := TX0) (N := 7) iX0 0 rfl rfl 4 (by decide) (by decide +kernel) rfl dX0_copyFrom_42 ?_
  refine haload_n X dX0_copyFrom_45 rfl ?_
  refine hget1 X (T := TX0) (N := 7) iX0 7 rfl rfl 4 (by decide) (by decide +kernel) rfl dX0_copyFrom_46 ?_
  refine hV_to (ws' := (crW G o e Fo ++ crW G h e (ccF Fo F 3)) ++ []) (List.append_nil _).symm rfl rfl ?_
  refine hcallSNr (wsC := crW G o e Fo ++ crW G h e (ccF Fo F 3)) (wsR := []) (As := [.ref (o 18), .ref (h 18)]) (rest := []) (st' := []) (w := crW G o e Fo ++ crW G h e (ccF Fo F 4)) X (kcC_3 l G h o e e Fo F) gX0_copyFrom_X7_copyRow_n34 rfl (n := 2) (by decide +kernel) (by decide +kernel) (by decide +kernel) (by decide +kernel) (by decide) rfl rfl (Nat.le_of_ble_eq_true rfl) dX0_copyFrom_49 rfl rfl (by decide) rfl ?_
  refine hV_to (ws' := crW G o e Fo ++ crW G h e (ccF Fo F 4)) (List.append_nil _) rfl rfl ?_
  refine haload_n X dX0_copyFrom_52 rfl ?_
  refine hget1 X (T := TX0) (N := 7) iX0 0 rfl rfl 5 (by decide) (by decide +kernel) rfl dX0_copyFrom_53 ?_
  refine haload_n X dX0_copyFrom_56 rfl ?_
  refine hget1 X (T := TX0) (N := 7) iX0 7 rfl rfl 5 (by decide) (by decide +kernel) rfl dX0_copyFrom_57 ?_
  refine hV_to (ws' := (crW G o e Fo ++ crW G h e (ccF Fo F 4)) ++ []) (List.append_nil _).symm rfl rfl ?_
  refine hcallSNr (wsC := crW G o e Fo ++ crW G h e (ccF Fo F 4)) (wsR := []) (As := [.ref (o 19), .ref (h 19)]) (rest := []) (st' := []) (w := crW G o e Fo ++ crW G h e (ccF Fo F 5)) X (kcC_4 l G h o e e Fo F) gX0_copyFrom_X7_copyRow_n34 rfl (n := 2) (by decide +kernel) (by decide +kernel) (by decide +kernel) (by decide +kernel) (by decide) rfl rfl (Nat.le_of_ble_eq_true rfl) dX0_copyFrom_60 rfl rfl (by decide) rfl ?_
  refine hV_to (ws' := crW G o e Fo ++ crW G h e (ccF Fo F 5)) (List.append_nil _) rfl rfl ?_
  refine haload_n X dX0_copyFrom_63 rfl ?_
  refine hget1 X (T := TX0) (N := 7) iX0 0 rfl rfl 6 (by decide) (by decide +kernel) rfl dX0_copyFrom_64 ?_
  refine haload_n X dX0_copyFrom_67 rfl ?_
  refine hget1 X (T := TX0) (N := 7) iX0 7 rfl rfl 6 (by decide) (by decide +kernel) rfl dX0_copyFrom_68 ?_
  refine hV_to (ws' := (crW G o e Fo ++ crW G h e (ccF Fo F 5)) ++ []) (List.append_nil _).symm rfl rfl ?_
  refine hcallSNr (wsC := crW G o e Fo ++ crW G h e (ccF Fo F 5)) (wsR := []) (As := [.ref (o 20), .ref (h 20)]) (rest := []) (st' := []) (w := crW G o e Fo ++ crW G h e (ccF Fo F 6)) X (kcC_5 l G h o e e Fo F) gX0_copyFrom_X7_copyRow_n34 rfl (n := 2) (by decide +kernel) (by decide +kernel) (by decide +kernel) (by decide +kernel) (by decide) rfl rfl (Nat.le_of_ble_eq_true rfl) dX0_copyFrom_71 rfl rfl (by decide) rfl ?_
  refine hV_to (ws' := crW G o e Fo ++ crW G h e (ccF Fo F 6)) (List.append_nil _) rfl rfl ?_
  refine hvret X dX0_copyFrom_74 ⟨rfl, ?_⟩
  rfl

set_option maxHeartbeats 4000000 in
set_option maxRecDepth 100000 in
theorem kX1_copyFrom (l : Launch) (G : hG) (h o : Nat → Nat) (m e n c : Nat) (Fo F : hF) (hb : Fo 18 1 = 0 ∨ Fo 18 1 = 1) : hM l G yX1_copyFrom wsX1_copyFrom ({ frames := 3, cells := 0, slots := 0, locals := 102 }) (haW G o m e Fo ++ haW G h n c F) [.ref (h 0), .ref (o 0)] (hR none (haW G o m e Fo ++ haW G h m e (hcF Fo F))) := by
  refine hM_of (cc := cX1_copyFrom) (maxL := 2) (ret := none) (by decide) rfl (Nat.le_of_ble_eq_true rfl) ?_
  intro pp ee ss mm aa bb me cd X hin
  have iX1 : ∀ w ∈ wsX10, w ∈ wsX1_copyFrom := by decide +kernel
  refine haload_n X dX1_copyFrom_0 rfl ?_
  refine hget1 X (T := TX1) (N := 7) iX1 0 rfl rfl 0 (by decide) (by decide +kernel) rfl dX1_copyFrom_1 ?_
  refine haload_n X dX1_copyFrom_4 rfl ?_
  refine hget1 X (T := TX1) (N := 7) iX1 21 rfl rfl 0 (by decide) (by decide +kernel) rfl dX1_copyFrom_5 ?_
  refine hV_to (ws' := haW G o m e Fo ++ haW G h n c (ssF Fo F 0)) rfl rfl rfl ?_
  refine hV_to (ws' := (haW G o m e Fo ++ haW G h n c (ssF Fo F 0)) ++ []) (List.append_nil _).symm rfl rfl ?_
  refine hcallSNr (wsC := haW G o m e Fo ++ haW G h n c (ssF Fo F 0)) (wsR := []) (As := [.ref (o 1), .ref (h 1)]) (rest := []) (st' := []) (w := haW G o m e Fo ++ haW G h n c (ssF Fo F 1)) X (kcH_0 l G h o m e n c Fo F) gX1_copyFrom_X7_copyRow_n40 rfl (n := 2) (by decide +kernel) (by decide +kernel) (by decide +kernel) (by decide +kernel) (by decide) rfl rfl (Nat.le_of_ble_eq_true rfl) dX1_copyFrom_8 rfl rfl (by decide) rfl ?_
  refine hV_to (ws' := haW G o m e Fo ++ haW G h n c (ssF Fo F 1)) (List.append_nil _) rfl rfl ?_
  refine haload_n X dX1_copyFrom_11 rfl ?_
  refine hget1 X (T := TX1) (N := 7) iX1 0 rfl rfl 1 (by decide) (by decide +kernel) rfl dX1_copyFrom_12 ?_
  refine haload_n X dX1_copyFrom_15 rfl ?_
  refine hget1 X (T := TX1) (N := 7) iX1 21 rfl rfl 1 (by decide) (by decide +kernel) rfl dX1_copyFrom_16 ?_
  refine hV_to (ws' := (haW G o m e Fo ++ haW G h n c (ssF Fo F 1)) ++ []) (List.append_nil _).symm rfl rfl ?_
  refine hcallSNr (wsC := haW G o m e Fo ++ haW G h n c (ssF Fo F 1)) (wsR := []) (As := [.ref (o 2), .ref (h 2)]) (rest := []) (st' := []) (w := haW G o m e Fo ++ haW G h n c (ssF Fo F 2)) X (kcH_1 l G h o m e n c Fo F) gX1_copyFrom_X7_copyRow_n40 rfl (n := 2) (by decide +kernel) (by decide +kernel) (by decide +kernel) (by decide +kernel) (by decide) rfl rfl (Nat.le_of_ble_eq_true rfl) dX1_copyFrom_19 rfl rfl (by decide) rfl ?_
  refine hV_to (ws' := haW G o m e Fo ++ haW G h n c (ssF Fo F 2)) (List.append_nil _) rfl rfl ?_
  refine haload_n X dX1_copyFrom_22 rfl ?_
  refine hget1 X (T := TX1) (N := 7) iX1 21 rfl rfl 2 (by decide) (by decide +kernel) rfl dX1_copyFrom_23 ?_
  refine haload_n X dX1_copyFrom_26 rfl ?_
  refine hget1 X (T := TX1) (N := 7) iX1 0 rfl rfl 2 (by decide) (by decide +kernel) rfl dX1_copyFrom_27 ?_
  refine hV_perm (ws' := (stW G o m Fo ++ stW G h n (ssF Fo F 2)) ++ (hrS G o e Fo ++ hrS G h c (ssF Fo F 2))) (pmSS G h o _ _ _ _ _ _) ?_
  refine hcallVr (C := RX6) (T := TX6) (N := 11) (As := [.ref (o 3)]) (rest := []) (st' := []) (w := stW G o m Fo ++ stW G h m (scF Fo (ssF Fo F 2) 10)) X (q0 := 11) (kX6_copyFrom l G h o m n Fo (ssF Fo F 2)) gX1_copyFrom_X6_copyFrom rfl (n := 1) (by decide +kernel) (by decide) rfl rfl rfl rfl (Nat.le_of_ble_eq_true rfl) dX1_copyFrom_30 rfl rfl (by decide) rfl ?_
  refine hV_perm (ws' := haW G o m e Fo ++ haW G h m c (scF Fo (ssF Fo F 2) 10)) (pmSS' scF_ge) ?_
  refine haload_n X dX1_copyFrom_33 rfl ?_
  refine hget1 X (T := TX1) (N := 7) iX1 21 rfl rfl 3 (by decide) (by decide +kernel) rfl dX1_copyFrom_34 ?_
  refine haload_n X dX1_copyFrom_37 rfl ?_
  refine hget1 X (T := TX1) (N := 7) iX1 0 rfl rfl 3 (by decide) (by decide +kernel) rfl dX1_copyFrom_38 ?_
  refine hV_perm (ws' := (crW G o e Fo ++ crW G h c (scF Fo (ssF Fo F 2) 10)) ++ (hrC G o m Fo ++ hrC G h m (scF Fo (ssF Fo F 2) 10))) (pmCC G h o _ _ _ _ _ _) ?_
  refine hcallVr (C := RX0) (T := TX0) (N := 7) (As := [.ref (o 14)]) (rest := []) (st' := []) (w := crW G o e Fo ++ crW G h e (ccF Fo (scF Fo (ssF Fo F 2) 10) 6)) X (q0 := 7) (kX0_copyFrom l G h o e c Fo (scF Fo (ssF Fo F 2) 10)) gX1_copyFrom_X0_copyFrom rfl (n := 1) (by decide +kernel) (by decide) rfl rfl rfl rfl (Nat.le_of_ble_eq_true rfl) dX1_copyFrom_41 rfl rfl (by decide) rfl ?_
  refine hV_perm (ws' := haW G o m e Fo ++ haW G h m e (ccF Fo (scF Fo (ssF Fo F 2) 10) 6)) (pmCC' ccF_no) ?_
  refine haload_n X dX1_copyFrom_44 rfl ?_
  refine haload_n X dX1_copyFrom_45 rfl ?_
  refine hget1 X (T := TX1) (N := 7) iX1 0 rfl rfl 4 (by decide) (by decide +kernel) rfl dX1_copyFrom_46 ?_
  refine hput1 X (T := TX1) (N := 7) iX1 tyX1 tyX1_ok nmX1 21 rfl rfl 4 (by decide) (by decide +kernel) (by decide +kernel) rfl rfl (Nat.le_of_ble_eq_true rfl) dX1_copyFrom_49 (ws' := haW G o m e Fo ++ haW G h m e (fs (ccF Fo (scF Fo (ssF Fo F 2) 10) 6) 18 0 (Fo 18 0))) (hhWf4 G h o _ _ _ _ _ _ _) ?_
  refine haload_n X dX1_copyFrom_52 rfl ?_
  refine haload_n X dX1_copyFrom_53 rfl ?_
  refine hget1 X (T := TX1) (N := 7) iX1 0 rfl rfl 5 (by decide) (by decide +kernel) rfl dX1_copyFrom_54 ?_
  refine hput1 X (T := TX1) (N := 7) iX1 tyX1 tyX1_ok nmX1 21 rfl rfl 5 (by decide) (by decide +kernel) (by decide +kernel) (z01_n hb) (z01_f hb) (Nat.le_of_ble_eq_true rfl) dX1_copyFrom_57 (ws' := haW G o m e Fo ++ haW G h m e (fs (fs (ccF Fo (scF Fo (ssF Fo F 2) 10) 6) 18 0 (Fo 18 0)) 18 1 (Fo 18 1))) (hhWf5 G h o _ _ _ _ _ _ _) ?_
  refine haload_n X dX1_copyFrom_60 rfl ?_
  refine haload_n X dX1_copyFrom_61 rfl ?_
  refine hget1 X (T := TX1) (N := 7) iX1 0 rfl rfl 6 (by decide) (by decide +kernel) rfl dX1_copyFrom_62 ?_
  refine hput1 X (T := TX1) (N := 7) iX1 tyX1 tyX1_ok nmX1 21 rfl rfl 6 (by decide) (by decide +kernel) (by decide +kernel) rfl rfl (Nat.le_of_ble_eq_true rfl) dX1_copyFrom_65 (ws' := haW G o m e Fo ++ haW G h m e (fs (fs (fs (ccF Fo (scF Fo (ssF Fo F 2) 10) 6) 18 0 (Fo 18 0)) 18 1 (Fo 18 1)) 18 2 (Fo 18 2))) (hhWf6 G h o _ _ _ _ _ _ _) ?_
  refine hvret X dX1_copyFrom_68 ⟨rfl, ?_⟩
  rfl

