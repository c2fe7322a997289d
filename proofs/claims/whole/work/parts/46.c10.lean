theorem acT_le {c : Nat} {F : hF} {x y : Int32} (hc : c ≤ 6) : (acT c F x y).2.1 ≤ 6 := by
  unfold acT
  split
  · split
    · show c + 1 ≤ 6
      omega
    · exact hc
  · exact hc
set_option maxHeartbeats 4000000 in
set_option maxRecDepth 100000 in
theorem kX7_set (l : Launch) (G : hG) (w h t u v : Nat → Nat) (k kk : Nat → Nat → Nat) (r : Nat → Nat) (n c : Nat) (F : hF) (tn tc : Nat) (Ft : hF) (x y : Nat) (N C : Nat → Nat) (Fs : Nat → hF) (sv : Nat → Int32) (SN SC : Nat → Nat) (SFs : Nat → hF) (pl : Nat) (T z : Nat → Int32) (hn : n ≤ 20) (hc : c ≤ 6) (hx : x < 7) (hy : y ≤ 6) (hb : F 18 1 = 0 ∨ F 18 1 = 1) (a1 a2 : Int32) : hM l G yX7_set wsX7_set ({ frames := 5, cells := 0, slots := 0, locals := 145 }) (hbW G w h t u v k kk r n c F tn tc Ft x y N C Fs sv SN SC SFs pl T z) [.ref (w 0), .int a1, .int a2] (hR (some (.int ((chT3 F a1 a2).1))) (hbW G w h t u v k kk r n c ((chT3 F a1 a2).2) tn tc Ft (rgN ((chT3 F a1 a2).1) x) (rgK ((chT3 F a1 a2).1) y) (up N x n) (up C x c) (up Fs x (hcF F (Fs x))) sv SN SC SFs pl T z)) := by
  refine hM_of (cc := cX7_set) (maxL := 3) (ret := (some .int)) (by decide) rfl (Nat.le_of_ble_eq_true rfl) ?_
  intro pp ee ss mm aa bb me cd X hin
  have iX7 : ∀ w ∈ wsX70, w ∈ wsX7_set := by decide +kernel
  refine haload_n X dX7_set_0 rfl ?_
  refine hget1 X (T := TX7) (N := 6) iX7 0 rfl rfl 2 (by decide) (by decide +kernel) rfl dX7_set_1 ?_
  refine haload_n X dX7_set_4 rfl ?_
  refine hget1 X (T := TX7) (N := 6) iX7 0 rfl rfl 0 (by decide) (by decide +kernel) rfl dX7_set_5 ?_
  refine hV_perm (ws' := (hsW G u k h x y N C Fs n c F) ++ _) (pbHs G w h t u v k kk r _ _ _ _ _ _ _ _ _ _ _ _ _ _ _ _ _ _) ?_
  refine hcallVr (C := RX2) (T := TX2) (N := 3) (As := [.ref (h 0)]) (rest := []) (st' := []) (w := hsW G u k h x y (up N x n) (up C x c) (up Fs x (hcF F (Fs x))) n c F) X (q0 := 0) (kX2_prepare l G u k h x y N C Fs n c F (by first | assumption | omega) (by first | assumption | omega) (by first | assumption | omega)) gX7_set_X2_prepare rfl (n := 1) (by decide +kernel) (by decide) rfl rfl rfl rfl (Nat.le_of_ble_eq_true rfl) dX7_set_8 rfl rfl (by decide) rfl ?_
  refine hV_perm (ws' := hbW G w h t u v k kk r n c F tn tc Ft x y (up N x n) (up C x c) (up Fs x (hcF F (Fs x))) sv SN SC SFs pl T z) (pbHs G w h t u v k kk r _ _ _ _ _ _ _ _ _ _ _ _ _ _ _ _ _ _).symm ?_
  refine haload_n X dX7_set_11 rfl ?_
  refine hget1 X (T := TX7) (N := 6) iX7 0 rfl rfl 2 (by decide) (by decide +kernel) rfl dX7_set_12 ?_
  refine haload_n X dX7_set_15 rfl ?_
  refine hget1 X (T := TX7) (N := 6) iX7 0 rfl rfl 0 (by decide) (by decide +kernel) rfl dX7_set_16 ?_
  refine hiload_n X dX7_set_19 rfl ?_
  refine hiload_n X dX7_set_20 rfl ?_
  refine hV_perm (ws' := (haW G h n c F) ++ _) (pbHa G w h t u v k kk r _ _ _ _ _ _ _ _ _ _ _ _ _ _ _ _ _ _) ?_
  refine hcallVr (C := RX1) (T := TX1) (N := 7) (As := [.int a1, .int a2]) (rest := [.ref (u 0)]) (st' := [.int ((chT3 F a1 a2).1), .ref (u 0)]) (w := haW G h n c ((chT3 F a1 a2).2)) X (q0 := 0) (kX1_changeSetting l G h F n c (by first | assumption | omega) (by first | assumption | omega) a1 a2) gX7_set_X1_changeSetting rfl (n := 2) (by decide +kernel) (by decide) rfl rfl rfl rfl (Nat.le_of_ble_eq_true rfl) dX7_set_21 rfl rfl (by decide) rfl ?_
  refine hV_perm (ws' := hbW G w h t u v k kk r n c ((chT3 F a1 a2).2) tn tc Ft x y (up N x n) (up C x c) (up Fs x (hcF F (Fs x))) sv SN SC SFs pl T z) (pbHa G w h t u v k kk r _ _ _ _ _ _ _ _ _ _ _ _ _ _ _ _ _ _).symm ?_
  refine hV_perm (ws' := (hsW G u k h x y (up N x n) (up C x c) (up Fs x (hcF F (Fs x))) n c ((chT3 F a1 a2).2)) ++ _) (pbHs G w h t u v k kk r _ _ _ _ _ _ _ _ _ _ _ _ _ _ _ _ _ _) ?_
  refine hcallVr (C := RX2) (T := TX2) (N := 3) (As := [.int ((chT3 F a1 a2).1)]) (rest := []) (st' := [.int ((chT3 F a1 a2).1)]) (w := hsW G u k h (rgN ((chT3 F a1 a2).1) x) (rgK ((chT3 F a1 a2).1) y) (up N x n) (up C x c) (up Fs x (hcF F (Fs x))) n c ((chT3 F a1 a2).2)) X (q0 := 0) (kX2_settle l G u k h x y (up N x n) (up C x c) (up Fs x (hcF F (Fs x))) n c ((chT3 F a1 a2).2) (by first | assumption | omega) (by first | assumption | omega) ((chT3 F a1 a2).1)) gX7_set_X2_settle rfl (n := 1) (by decide +kernel) (by decide) rfl rfl rfl rfl (Nat.le_of_ble_eq_true rfl) dX7_set_24 rfl rfl (by decide) rfl ?_
  refine hV_perm (ws' := hbW G w h t u v k kk r n c ((chT3 F a1 a2).2) tn tc Ft (rgN ((chT3 F a1 a2).1) x) (rgK ((chT3 F a1 a2).1) y) (up N x n) (up C x c) (up Fs x (hcF F (Fs x))) sv SN SC SFs pl T z) (pbHs G w h t u v k kk r _ _ _ _ _ _ _ _ _ _ _ _ _ _ _ _ _ _).symm ?_
  refine hiret X dX7_set_27 ⟨rfl, ?_⟩
  rfl

set_option maxHeartbeats 4000000 in
set_option maxRecDepth 100000 in
theorem kX7_stand (l : Launch) (G : hG) (w h t u v : Nat → Nat) (k kk : Nat → Nat → Nat) (r : Nat → Nat) (n c : Nat) (F : hF) (tn tc : Nat) (Ft : hF) (x y : Nat) (N C : Nat → Nat) (Fs : Nat → hF) (sv : Nat → Int32) (SN SC : Nat → Nat) (SFs : Nat → hF) (pl : Nat) (T z : Nat → Int32) (hn : n ≤ 20) (hc : c ≤ 6) (hx : x < 7) (hy : y ≤ 6) (hb : F 18 1 = 0 ∨ F 18 1 = 1) (a1 a2 a3 a4 : Int32) : hM l G yX7_stand wsX7_stand ({ frames := 5, cells := 0, slots := 0, locals := 145 }) (hbW G w h t u v k kk r n c F tn tc Ft x y N C Fs sv SN SC SFs pl T z) [.ref (w 0), .int a1, .int a2, .int a3, .int a4] (hR (some (.int ((adT n F a1 a2 a3 a4).1))) (hbW G w h t u v k kk r ((adT n F a1 a2 a3 a4).2.1) c ((adT n F a1 a2 a3 a4).2.2) tn tc Ft (rgN ((adT n F a1 a2 a3 a4).1) x) (rgK ((adT n F a1 a2 a3 a4).1) y) (up N x n) (up C x c) (up Fs x (hcF F (Fs x))) sv SN SC SFs pl T z)) := by
  refine hM_of (cc := cX7_stand) (maxL := 5) (ret := (some .int)) (by decide) rfl (Nat.le_of_ble_eq_true rfl) ?_
  intro pp ee ss mm aa bb me cd X hin
  have iX7 : ∀ w ∈ wsX70, w ∈ wsX7_stand := by decide +kernel
  refine haload_n X dX7_stand_0 rfl ?_
  refine hget1 X (T := TX7) (N := 6) iX7 0 rfl rfl 2 (by decide) (by decide +kernel) rfl dX7_stand_1 ?_
  refine haload_n X dX7_stand_4 rfl ?_
  refine hget1 X (T := TX7) (N := 6) iX7 0 rfl rfl 0 (by decide) (by decide +kernel) rfl dX7_stand_5 ?_
  refine hV_perm (ws' := (hsW G u k h x y N C Fs n c F) ++ _) (pbHs G w h t u v k kk r _ _ _ _ _ _ _ _ _ _ _ _ _ _ _ _ _ _) ?_
  refine hcallVr (C := RX2) (T := TX2) (N := 3) (As := [.ref (h 0)]) (rest := []) (st' := []) (w := hsW G u k h x y (up N x n) (up C x c) (up Fs x (hcF F (Fs x))) n c F) X (q0 := 0) (kX2_prepare l G u k h x y N C Fs n c F (by first | assumption | omega) (by first | assumption | omega) (by first | assumption | omega)) gX7_stand_X2_prepare rfl (n := 1) (by decide +kernel) (by decide) rfl rfl rfl rfl (Nat.le_of_ble_eq_true rfl) dX7_stand_8 rfl rfl (by decide) rfl ?_
  refine hV_perm (ws' := hbW G w h t u v k kk r n c F tn tc Ft x y (up N x n) (up C x c) (up Fs x (hcF F (Fs x))) sv SN SC SFs pl T z) (pbHs G w h t u v k kk r _ _ _ _ _ _ _ _ _ _ _ _ _ _ _ _ _ _).symm ?_
  refine haload_n X dX7_stand_11 rfl ?_
  refine hget1 X (T := TX7) (N := 6) iX7 0 rfl rfl 2 (by decide) (by decide +kernel) rfl dX7_stand_12 ?_
  refine haload_n X dX7_stand_15 rfl ?_
  refine hget1 X (T := TX7) (N := 6) iX7 0 rfl rfl 0 (by decide) (by decide +kernel) rfl dX7_stand_16 ?_
  refine hiload_n X dX7_stand_19 rfl ?_
  refine hiload_n X dX7_stand_20 rfl ?_
  refine hiload_n X dX7_stand_21 rfl ?_
  refine hiload X dX7_stand_22 rfl ?_
  refine hV_perm (ws' := (haW G h n c F) ++ _) (pbHa G w h t u v k kk r _ _ _ _ _ _ _ _ _ _ _ _ _ _ _ _ _ _) ?_
  refine hcallVr (C := RX1) (T := TX1) (N := 7) (As := [.int a1, .int a2, .int a3, .int a4]) (rest := [.ref (u 0)]) (st' := [.int ((adT n F a1 a2 a3 a4).1), .ref (u 0)]) (w := haW G h ((adT n F a1 a2 a3 a4).2.1) c ((adT n F a1 a2 a3 a4).2.2)) X (q0 := 0) (kX1_addStand l G h F n c (by first | assumption | omega) (by first | assumption | omega) a1 a2 a3 a4) gX7_stand_X1_addStand rfl (n := 4) (by decide +kernel) (by decide) rfl rfl rfl rfl (Nat.le_of_ble_eq_true rfl) dX7_stand_24 rfl rfl (by decide) rfl ?_
  refine hV_perm (ws' := hbW G w h t u v k kk r ((adT n F a1 a2 a3 a4).2.1) c ((adT n F a1 a2 a3 a4).2.2) tn tc Ft x y (up N x n) (up C x c) (up Fs x (hcF F (Fs x))) sv SN SC SFs pl T z) (pbHa G w h t u v k kk r _ _ _ _ _ _ _ _ _ _ _ _ _ _ _ _ _ _).symm ?_
  refine hV_perm (ws' := (hsW G u k h x y (up N x n) (up C x c) (up Fs x (hcF F (Fs x))) ((adT n F a1 a2 a3 a4).2.1) c ((adT n F a1 a2 a3 a4).2.2)) ++ _) (pbHs G w h t u v k kk r _ _ _ _ _ _ _ _ _ _ _ _ _ _ _ _ _ _) ?_
  refine hcallVr (C := RX2) (T := TX2) (N := 3) (As := [.int ((adT n F a1 a2 a3 a4).1)]) (rest := []) (st' := [.int ((adT n F a1 a2 a3 a4).1)]) (w := hsW G u k h (rgN ((adT n F a1 a2 a3 a4).1) x) (rgK ((adT n F a1 a2 a3 a4).1) y) (up N x n) (up C x c) (up Fs x (hcF F (Fs x))) ((adT n F a1 a2 a3 a4).2.1) c ((adT n F a1 a2 a3 a4).2.2)) X (q0 := 0) (kX2_settle l G u k h x y (up N x n) (up C x c) (up Fs x (hcF F (Fs x))) ((adT n F a1 a2 a3 a4).2.1) c ((adT n F a1 a2 a3 a4).2.2) (by first | assumption | omega) (by first | assumption | omega) ((adT n F a1 a2 a3 a4).1)) gX7_stand_X2_settle rfl (n := 1) (by decide +kernel) (by decide) rfl rfl rfl rfl (Nat.le_of_ble_eq_true rfl) dX7_stand_27 rfl rfl (by decide) rfl ?_
  refine hV_perm (ws' := hbW G w h t u v k kk r ((adT n F a1 a2 a3 a4).2.1) c ((adT n F a1 a2 a3 a4).2.2) tn tc Ft (rgN ((adT n F a1 a2 a3 a4).1) x) (rgK ((adT n F a1 a2 a3 a4).1) y) (up N x n) (up C x c) (up Fs x (hcF F (Fs x))) sv SN SC SFs pl T z) (pbHs G w h t u v k kk r _ _ _ _ _ _ _ _ _ _ _ _ _ _ _ _ _ _).symm ?_
  refine hiret X dX7_stand_30 ⟨rfl, ?_⟩
  rfl

set_option maxHeartbeats 4000000 in
set_option maxRecDepth 100000 in
theorem kX7_crew (l : Launch) (G : hG) (w h t u v : Nat → Nat) (k kk : Nat → Nat → Nat) (r : Nat → Nat) (n c : Nat) (F : hF) (tn tc : Nat) (Ft : hF) (x y : Nat) (N C : Nat → Nat) (Fs : Nat → hF) (sv : Nat → Int32) (SN SC : Nat → Nat) (SFs : Nat → hF) (pl : Nat) (T z : Nat → Int32) (hn : n ≤ 20) (hc : c ≤ 6) (hx : x < 7) (hy : y ≤ 6) (hb : F 18 1 = 0 ∨ F 18 1 = 1) (a1 a2 : Int32) : hM l G yX7_crew wsX7_crew ({ frames := 5, cells := 0, slots := 0, locals := 145 }) (hbW G w h t u v k kk r n c F tn tc Ft x y N C Fs sv SN SC SFs pl T z) [.ref (w 0), .int a1, .int a2] (hR (some (.int ((acT c F a1 a2).1))) (hbW G w h t u v k kk r n ((acT c F a1 a2).2.1) ((acT c F a1 a2).2.2) tn tc Ft (rgN ((acT c F a1 a2).1) x) (rgK ((acT c F a1 a2).1) y) (up N x n) (up C x c) (up Fs x (hcF F (Fs x))) sv SN SC SFs pl T z)) := by
  refine hM_of (cc := cX7_crew) (maxL := 3) (ret := (some .int)) (by decide) rfl (Nat.le_of_ble_eq_true rfl) ?_
  intro pp ee ss mm aa bb me cd X hin
  have iX7 : ∀ w ∈ wsX70, w ∈ wsX7_crew := by decide +kernel
  refine haload_n X dX7_crew_0 rfl ?_
  refine hget1 X (T := TX7) (N := 6) iX7 0 rfl rfl 2 (by decide) (by decide +kernel) rfl dX7_crew_1 ?_
  refine haload_n X dX7_crew_4 rfl ?_
  refine hget1 X (T := TX7) (N := 6) iX7 0 rfl rfl 0 (by decide) (by decide +kernel) rfl dX7_crew_5 ?_
  refine hV_perm (ws' := (hsW G u k h x y N C Fs n c F) ++ _) (pbHs G w h t u v k kk r _ _ _ _ _ _ _ _ _ _ _ _ _ _ _ _ _ _) ?_
  refine hcallVr (C := RX2) (T := TX2) (N := 3) (As := [.ref (h 0)]) (rest := []) (st' := []) (w := hsW G u k h x y (up N x n) (up C x c) (up Fs x (hcF F (Fs x))) n c F) X (q0 := 0) (kX2_prepare l G u k h x y N C Fs n c F (by first | assumption | omega) (by first | assumption | omega) (by first | assumption | omega)) gX7_crew_X2_prepare rfl (n := 1) (by decide +kernel) (by decide) rfl rfl rfl rfl (Nat.le_of_ble_eq_true rfl) dX7_crew_8 rfl rfl (by decide) rfl ?_
  refine hV_perm (ws' := hbW G w h t u v k kk r n c F tn tc Ft x y (up N x n) (up C x c) (up Fs x (hcF F (Fs x))) sv SN SC SFs pl T z) (pbHs G w h t u v k kk r _ _ _ _ _ _ _ _ _ _ _ _ _ _ _ _ _ _).symm ?_
  refine haload_n X dX7_crew_11 rfl ?_
  refine hget1 X (T := TX7) (N := 6) iX7 0 rfl rfl 2 (by decide) (by decide +kernel) rfl dX7_crew_12 ?_
  refine haload_n X dX7_crew_15 rfl ?_
  refine hget1 X (T := TX7) (N := 6) iX7 0 rfl rfl 0 (by decide) (by decide +kernel) rfl dX7_crew_16 ?_
  refine hiload_n X dX7_crew_19 rfl ?_
  refine hiload_n X dX7_crew_20 rfl ?_
  refine hV_perm (ws' := (haW G h n c F) ++ _) (pbHa G w h t u v k kk r _ _ _ _ _ _ _ _ _ _ _ _ _ _ _ _ _ _) ?_
  refine hcallVr (C := RX1) (T := TX1) (N := 7) (As := [.int a1, .int a2]) (rest := [.ref (u 0)]) (st' := [.int ((acT c F a1 a2).1), .ref (u 0)]) (w := haW G h n ((acT c F a1 a2).2.1) ((acT c F a1 a2).2.2)) X (q0 := 0) (kX1_addCrew l G h F n c (by first | assumption | omega) (by first | assumption | omega) a1 a2) gX7_crew_X1_addCrew rfl (n := 2) (by decide +kernel) (by decide) rfl rfl rfl rfl (Nat.le_of_ble_eq_true rfl) dX7_crew_21 rfl rfl (by decide) rfl ?_
  refine hV_perm (ws' := hbW G w h t u v k kk r n ((acT c F a1 a2).2.1) ((acT c F a1 a2).2.2) tn tc Ft x y (up N x n) (up C x c) (up Fs x (hcF F (Fs x))) sv SN SC SFs pl T z) (pbHa G w h t u v k kk r _ _ _ _ _ _ _ _ _ _ _ _ _ _ _ _ _ _).symm ?_
  refine hV_perm (ws' := (hsW G u k h x y (up N x n) (up C x c) (up Fs x (hcF F (Fs x))) n ((acT c F a1 a2).2.1) ((acT c F a1 a2).2.2)) ++ _) (pbHs G w h t u v k kk r _ _ _ _ _ _ _ _ _ _ _ _ _ _ _ _ _ _) ?_
  refine hcallVr (C := RX2) (T := TX2) (N := 3) (As := [.int ((acT c F a1 a2).1)]) (rest := []) (st' := [.int ((acT c F a1 a2).1)]) (w := hsW G u k h (rgN ((acT c F a1 a2).1) x) (rgK ((acT c F a1 a2).1) y) (up N x n) (up C x c) (up Fs x (hcF F (Fs x))) n ((acT c F a1 a2).2.1) ((acT c F a1 a2).2.2)) X (q0 := 0) (kX2_settle l G u k h x y (up N x n) (up C x c) (up Fs x (hcF F (Fs x))) n ((acT c F a1 a2).2.1) ((acT c F a1 a2).2.2) (by first | assumption | omega) (by first | assumption | omega) ((acT c F a1 a2).1)) gX7_crew_X2_settle rfl (n := 1) (by decide +kernel) (by decide) rfl rfl rfl rfl (Nat.le_of_ble_eq_true rfl) dX7_crew_24 rfl rfl (by decide) rfl ?_
  refine hV_perm (ws' := hbW G w h t u v k kk r n ((acT c F a1 a2).2.1) ((acT c F a1 a2).2.2) tn tc Ft (rgN ((acT c F a1 a2).1) x) (rgK ((acT c F a1 a2).1) y) (up N x n) (up C x c) (up Fs x (hcF F (Fs x))) sv SN SC SFs pl T z) (pbHs G w h t u v k kk r _ _ _ _ _ _ _ _ _ _ _ _ _ _ _ _ _ _).symm ?_
  refine hiret X dX7_crew_27 ⟨rfl, ?_⟩
  rfl

set_option maxHeartbeats 4000000 in
set_option maxRecDepth 100000 in
theorem kX7_end (l : Launch) (G : hG) (w h t u v : Nat → Nat) (k kk : Nat → Nat → Nat) (r : Nat → Nat) (n c : Nat) (F : hF) (tn tc : Nat) (Ft : hF) (x y : Nat) (N C : Nat → Nat) (Fs : Nat → hF) (sv : Nat → Int32) (SN SC : Nat → Nat) (SFs : Nat → hF) (pl : Nat) (T z : Nat → Int32) (hn : n ≤ 20) (hc : c ≤ 6) (hx : x < 7) (hy : y ≤ 6) (hb : F 18 1 = 0 ∨ F 18 1 = 1)  : hM l G yX7_end wsX7_end ({ frames := 5, cells := 0, slots := 0, locals := 145 }) (hbW G w h t u v k kk r n c F tn tc Ft x y N C Fs sv SN SC SFs pl T z) [.ref (w 0)] (hR (some (.int ((enT n c F).1))) (hbW G w h t u v k kk r n c ((enT n c F).2) tn tc Ft (rgN ((enT n c F).1) x) (rgK ((enT n c F).1) y) (up N x n) (up C x c) (up Fs x (hcF F (Fs x))) sv SN SC SFs pl T z)) := by
  refine hM_of (cc := cX7_end) (maxL := 1) (ret := (some .int)) (by decide) rfl (Nat.le_of_ble_eq_true rfl) ?_
  intro pp ee ss mm aa bb me cd X hin
  have iX7 : ∀ w ∈ wsX70, w ∈ wsX7_end := by decide +kernel
  refine haload_n X dX7_end_0 rfl ?_
  refine hget1 X (T := TX7) (N := 6) iX7 0 rfl rfl 2 (by decide) (by decide +kernel) rfl dX7_end_1 ?_
  refine haload_n X dX7_end_4 rfl ?_
  refine hget1 X (T := TX7) (N := 6) iX7 0 rfl rfl 0 (by decide) (by decide +kernel) rfl dX7_end_5 ?_
  refine hV_perm (ws' := (hsW G u k h x y N C Fs n c F) ++ _) (pbHs G w h t u v k kk r _ _ _ _ _ _ _ _ _ _ _ _ _ _ _ _ _ _) ?_
  refine hcallVr (C := RX2) (T := TX2) (N := 3) (As := [.ref (h 0)]) (rest := []) (st' := []) (w := hsW G u k h x y (up N x n) (up C x c) (up Fs x (hcF F (Fs x))) n c F) X (q0 := 0) (kX2_prepare l G u k h x y N C Fs n c F (by first | assumption | omega) (by first | assumption | omega) (by first | assumption | omega)) gX7_end_X2_prepare rfl (n := 1) (by decide +kernel) (by decide) rfl rfl rfl rfl (Nat.le_of_ble_eq_true rfl) dX7_end_8 rfl rfl (by decide) rfl ?_
  refine hV_perm (ws' := hbW G w h t u v k kk r n c F tn tc Ft x y (up N x n) (up C x c) (up Fs x (hcF F (Fs x))) sv SN SC SFs pl T z) (pbHs G w h t u v k kk r _ _ _ _ _ _ _ _ _ _ _ _ _ _ _ _ _ _).symm ?_
  refine haload_n X dX7_end_11 rfl ?_
  refine hget1 X (T := TX7) (N := 6) iX7 0 rfl rfl 2 (by decide) (by decide +kernel) rfl dX7_end_12 ?_
  refine haload_n X dX7_end_15 rfl ?_
  refine hget1 X (T := TX7) (N := 6) iX7 0 rfl rfl 0 (by decide) (by decide +kernel) rfl dX7_end_16 ?_
  refine hV_perm (ws' := (haW G h n c F) ++ _) (pbHa G w h t u v k kk r _ _ _ _ _ _ _ _ _ _ _ _ _ _ _ _ _ _) ?_
  refine hcallVr (C := RX1) (T := TX1) (N := 7) (As := []) (rest := [.ref (u 0)]) (st' := [.int ((enT n c F).1), .ref (u 0)]) (w := haW G h n c ((enT n c F).2)) X (q0 := 0) (kX1_endFair l G h F n c (by first | assumption | omega) (by first | assumption | omega)) gX7_end_X1_endFair rfl (n := 0) (by decide +kernel) (by decide) rfl rfl rfl rfl (Nat.le_of_ble_eq_true rfl) dX7_end_19 rfl rfl (by decide) rfl ?_
  refine hV_perm (ws' := hbW G w h t u v k kk r n c ((enT n c F).2) tn tc Ft x y (up N x n) (up C x c) (up Fs x (hcF F (Fs x))) sv SN SC SFs pl T z) (pbHa G w h t u v k kk r _ _ _ _ _ _ _ _ _ _ _ _ _ _ _ _ _ _).symm ?_
  refine hV_perm (ws' := (hsW G u k h x y (up N x n) (up C x c) (up Fs x (hcF F (Fs x))) n c ((enT n c F).2)) ++ _) (pbHs G w h t u v k kk r _ _ _ _ _ _ _ _ _ _ _ _ _ _ _ _ _ _) ?_
  refine hcallVr (C := RX2) (T := TX2) (N := 3) (As := [.int ((enT n c F).1)]) (rest := []) (st' := [.int ((enT n c F).1)]) (w := hsW G u k h (rgN ((enT n c F).1) x) (rgK ((enT n c F).1) y) (up N x n) (up C x c) (up Fs x (hcF F (Fs x))) n c ((enT n c F).2)) X (q0 := 0) (kX2_settle l G u k h x y (up N x n) (up C x c) (up Fs x (hcF F (Fs x))) n c ((enT n c F).2) (by first | assumption | omega) (by first | assumption | omega) ((enT n c F).1)) gX7_end_X2_settle rfl (n := 1) (by decide +kernel) (by decide) rfl rfl rfl rfl (Nat.le_of_ble_eq_true rfl) dX7_end_22 rfl rfl (by decide) rfl ?_
  refine hV_perm (ws' := hbW G w h t u v k kk r n c ((enT n c F).2) tn tc Ft (rgN ((enT n c F).1) x) (rgK ((enT n c F).1) y) (up N x n) (up C x c) (up Fs x (hcF F (Fs x))) sv SN SC SFs pl T z) (pbHs G w h t u v k kk r _ _ _ _ _ _ _ _ _ _ _ _ _ _ _ _ _ _).symm ?_
  refine hiret X dX7_end_25 ⟨rfl, ?_⟩
  rfl

set_option maxHeartbeats 4000000 in
set_option maxRecDepth 100000 in
theorem kX7_find (l : Launch) (G : hG) (w h t u v : Nat → Nat) (k kk : Nat → Nat → Nat) (r : Nat → Nat) (n c : Nat) (F : hF) (tn tc : Nat) (Ft : hF) (x y : Nat) (N C : Nat → Nat) (Fs : Nat → hF) (sv : Nat → Int32) (SN SC : Nat → Nat) (SFs : Nat → hF) (pl : Nat) (T z : Nat → Int32) (hn : n ≤ 20) (hc : c ≤ 6) (hx : x < 7) (hy : y ≤ 6) (hb : F 18 1 = 0 ∨ F 18 1 = 1)  : hM l G yX7_find wsX7_find ({ frames := 5, cells := 0, slots := 0, locals := 145 }) (hbW G w h t u v k kk r n c F tn tc Ft x y N C Fs sv SN SC SFs pl T z) [.ref (w 0)] (hR (some (.int ((fiT F).1))) (hbW G w h t u v k kk r n c ((fiT F).2) tn tc Ft (rgN ((fiT F).1) x) (rgK ((fiT F).1) y) (up N x n) (up C x c) (up Fs x (hcF F (Fs x))) sv SN SC SFs pl T z)) := by
  refine hM_of (cc := cX7_find) (maxL := 1) (ret := (some .int)) (by decide) rfl (Nat.le_of_ble_eq_true rfl) ?_
  intro pp ee ss mm aa bb me cd X hin
  have iX7 : ∀ w ∈ wsX70, w ∈ wsX7_find := by decide +kernel
  refine haload_n X dX7_find_0 rfl ?_
  refine hget1 X (T := TX7) (N := 6) iX7 0 rfl rfl 2 (by decide) (by decide +kernel) rfl dX7_find_1 ?_
  refine haload_n X dX7_find_4 rfl ?_
  refine hget1 X (T := TX7) (N := 6) iX7 0 rfl rfl 0 (by decide) (by decide +kernel) rfl dX7_find_5 ?_
  refine hV_perm (ws' := (hsW G u k h x y N C Fs n c F) ++ _) (pbHs G w h t u v k kk r _ _ _ _ _ _ _ _ _ _ _ _ _ _ _ _ _ _) ?_
  refine hcallVr (C := RX2) (T := TX2) (N := 3) (As := [.ref (h 0)]) (rest := []) (st' := []) (w := hsW G u k h x y (up N x n) (up C x c) (up Fs x (hcF F (Fs x))) n c F) X (q0 := 0) (kX2_prepare l G u k h x y N C Fs n c F (by first | assumption | omega) (by first | assumption | omega) (by first | assumption | omega)) gX7_find_X2_prepare rfl (n := 1) (by decide +kernel) (by decide) rfl rfl rfl rfl (Nat.le_of_ble_eq_true rfl) dX7_find_8 rfl rfl (by decide) rfl ?_
  refine hV_perm (ws' := hbW G w h t u v k kk r n c F tn tc Ft x y (up N x n) (up C x c) (up Fs x (hcF F (Fs x))) sv SN SC SFs pl T z) (pbHs G w h t u v k kk r _ _ _ _ _ _ _ _ _ _ _ _ _ _ _ _ _ _).symm ?_
  refine haload_n X dX7_find_11 rfl ?_
  refine hget1 X (T := TX7) (N := 6) iX7 0 rfl rfl 2 (by decide) (by decide +kernel) rfl dX7_find_12 ?_
  refine haload_n X dX7_find_15 rfl ?_
  refine hget1 X (T := TX7) (N := 6) iX7 0 rfl rfl 0 (by decide) (by decide +kernel) rfl dX7_find_16 ?_
  refine hV_perm (ws' := (haW G h n c F) ++ _) (pbHa G w h t u v k kk r _ _ _ _ _ _ _ _ _ _ _ _ _ _ _ _ _ _) ?_
  refine hcallVr (C := RX1) (T := TX1) (N := 7) (As := []) (rest := [.ref (u 0)]) (st' := [.int ((fiT F).1), .ref (u 0)]) (w := haW G h n c ((fiT F).2)) X (q0 := 0) (kX1_findLost l G h F n c (by first | assumption | omega) (by first | assumption | omega)) gX7_find_X1_findLost rfl (n := 0) (by decide +kernel) (by decide) rfl rfl rfl rfl (Nat.le_of_ble_eq_true rfl) dX7_find_19 rfl rfl (by decide) rfl ?_
  refine hV_perm (ws' := hbW G w h t u v k kk r n c ((fiT F).2) tn tc Ft x y (up N x n) (up C x c) (up Fs x (hcF F (Fs x))) sv SN SC SFs pl T z) (pbHa G w h t u v k kk r _ _ _ _ _ _ _ _ _ _ _ _ _ _ _ _ _ _).symm ?_
  refine hV_perm (ws' := (hsW G u k h x y (up N x n) (up C x c) (up Fs x (hcF F (Fs x))) n c ((fiT F).2)) ++ _) (pbHs G w h t u v k kk r _ _ _ _ _ _ _ _ _ _ _ _ _ _ _ _ _ _) ?_
  refine hcallVr (C := RX2) (T := TX2) (N := 3) (As := [.int ((fiT F).1)]) (rest := []) (st' := [.int ((fiT F).1)]) (w := hsW G u k h (rgN ((fiT F).1) x) (rgK ((fiT F).1) y) (up N x n) (up C x c) (up Fs x (hcF F (Fs x))) n c ((fiT F).2)) X (q0 := 0) (kX2_settle l G u k h x y (up N x n) (up C x c) (up Fs x (hcF F (Fs x))) n c ((fiT F).2) (by first | assumption | omega) (by first | assumption | omega) ((fiT F).1)) gX7_find_X2_settle rfl (n := 1) (by decide +kernel) (by decide) rfl rfl rfl rfl (Nat.le_of_ble_eq_true rfl) dX7_find_22 rfl rfl (by decide) rfl ?_
  refine hV_perm (ws' := hbW G w h t u v k kk r n c ((fiT F).2) tn tc Ft (rgN ((fiT F).1) x) (rgK ((fiT F).1) y) (up N x n) (up C x c) (up Fs x (hcF F (Fs x))) sv SN SC SFs pl T z) (pbHs G w h t u v k kk r _ _ _ _ _ _ _ _ _ _ _ _ _ _ _ _ _ _).symm ?_
  refine hiret X dX7_find_25 ⟨rfl, ?_⟩
  rfl

set_option maxHeartbeats 4000000 in
set_option maxRecDepth 100000 in
theorem kX7_pass (l : Launch) (G : hG) (w h t u v : Nat → Nat) (k kk : Nat → Nat → Nat) (r : Nat → Nat) (n c : Nat) (F : hF) (tn tc : Nat) (Ft : hF) (x y : Nat) (N C : Nat → Nat) (Fs : Nat → hF) (sv : Nat → Int32) (SN SC : Nat → Nat) (SFs : Nat → hF) (pl : Nat) (T z : Nat → Int32) (hn : n ≤ 20) (hc : c ≤ 6) (hx : x < 7) (hy : y ≤ 6) (hb : F 18 1 = 0 ∨ F 18 1 = 1) (a1 : Int32) : hM l G yX7_pass wsX7_pass ({ frames := 7, cells := 0, slots := 0, locals := 174 }) (hbW G w h t u v k kk r n c F tn tc Ft x y N C Fs sv SN SC SFs pl T z) [.ref (w 0), .int a1] (hR (some (.int ((phT n c F a1).1))) (hbW G w h t u v k kk r n c ((phT n c F a1).2) tn tc Ft (rgN ((phT n c F a1).1) x) (rgK ((phT n c F a1).1) y) (up N x n) (up C x c) (up Fs x (hcF F (Fs x))) sv SN SC SFs pl T z)) := by
  refine hM_of (cc := cX7_pass) (maxL := 2) (ret := (some .int)) (by decide) rfl (Nat.le_of_ble_eq_true rfl) ?_
  intro pp ee ss mm aa bb me cd X hin
  have iX7 : ∀ w ∈ wsX70, w ∈ wsX7_pass := by decide +kernel
  refine haload_n X dX7_pass_0 rfl ?_
  refine hget1 X (T := TX7) (N := 6) iX7 0 rfl rfl 2 (by decide) (by decide +kernel) rfl dX7_pass_1 ?_
  refine haload_n X dX7_pass_4 rfl ?_
  refine hget1 X (T := TX7) (N := 6) iX7 0 rfl rfl 0 (by decide) (by decide +kernel) rfl dX7_pass_5 ?_
  refine hV_perm (ws' := (hsW G u k h x y N C Fs n c F) ++ _) (pbHs G w h t u v k kk r _ _ _ _ _ _ _ _ _ _ _ _ _ _ _ _ _ _) ?_
  refine hcallVr (C := RX2) (T := TX2) (N := 3) (As := [.ref (h 0)]) (rest := []) (st' := []) (w := hsW G u k h x y (up N x n) (up C x c) (up Fs x (hcF F (Fs x))) n c F) X (q0 := 0) (kX2_prepare l G u k h x y N C Fs n c F (by first | assumption | omega) (by first | assumption | omega) (by first | assumption | omega)) gX7_pass_X2_prepare rfl (n := 1) (by decide +kernel) (by decide) rfl rfl rfl rfl (Nat.le_of_ble_eq_true rfl) dX7_pass_8 rfl rfl (by decide) rfl ?_
  refine hV_perm (ws' := hbW G w h t u v k kk r n c F tn tc Ft x y (up N x n) (up C x c) (up Fs x (hcF F (Fs x))) sv SN SC SFs pl T z) (pbHs G w h t u v k kk r _ _ _ _ _ _ _ _ _ _ _ _ _ _ _ _ _ _).symm ?_
  refine haload_n X dX7_pass_11 rfl ?_
  refine hget1 X (T := TX7) (N := 6) iX7 0 rfl rfl 2 (by decide) (by decide +kernel) rfl dX7_pass_12 ?_
  refine haload_n X dX7_pass_15 rfl ?_
  refine hget1 X (T := TX7) (N := 6) iX7 0 rfl rfl 0 (by decide) (by decide +kernel) rfl dX7_pass_16 ?_
  refine hiload_n X dX7_pass_19 rfl ?_
  refine hV_perm (ws' := (haW G h n c F) ++ _) (pbHa G w h t u v k kk r _ _ _ _ _ _ _ _ _ _ _ _ _ _ _ _ _ _) ?_
  refine hcallVr (C := RX1) (T := TX1) (N := 7) (As := [.int a1]) (rest := [.ref (u 0)]) (st' := [.int ((phT n c F a1).1), .ref (u 0)]) (w := haW G h n c ((phT n c F a1).2)) X (q0 := 0) (kX1_passHours l G h F n c (by first | assumption | omega) (by first | assumption | omega) a1) gX7_pass_X1_passHours rfl (n := 1) (by decide +kernel) (by decide) rfl rfl rfl rfl (Nat.le_of_ble_eq_true rfl) dX7_pass_20 rfl rfl (by decide) rfl ?_
  refine hV_perm (ws' := hbW G w h t u v k kk r n c ((phT n c F a1).2) tn tc Ft x y (up N x n) (up C x c) (up Fs x (hcF F (Fs x))) sv SN SC SFs pl T z) (pbHa G w h t u v k kk r _ _ _ _ _ _ _ _ _ _ _ _ _ _ _ _ _ _).symm ?_
  refine hV_perm (ws' := (hsW G u k h x y (up N x n) (up C x c) (up Fs x (hcF F (Fs x))) n c ((phT n c F a1).2)) ++ _) (pbHs G w h t u v k kk r _ _ _ _ _ _ _ _ _ _ _ _ _ _ _ _ _ _) ?_
  refine hcallVr (C := RX2) (T := TX2) (N := 3) (As := [.int ((phT n c F a1).1)]) (rest := []) (st' := [.int ((phT n c F a1).1)]) (w := hsW G u k h (rgN ((phT n c F a1).1) x) (rgK ((phT n c F a1).1) y) (up N x n) (up C x c) (up Fs x (hcF F (Fs x))) n c ((phT n c F a1).2)) X (q0 := 0) (kX2_settle l G u k h x y (up N x n) (up C x c) (up Fs x (hcF F (Fs x))) n c ((phT n c F a1).2) (by first | assumption | omega) (by first | assumption | omega) ((phT n c F a1).1)) gX7_pass_X2_settle rfl (n := 1) (by decide +kernel) (by decide) rfl rfl rfl rfl (Nat.le_of_ble_eq_true rfl) dX7_pass_23 rfl rfl (by decide) rfl ?_
  refine hV_perm (ws' := hbW G w h t u v k kk r n c ((phT n c F a1).2) tn tc Ft (rgN ((phT n c F a1).1) x) (rgK ((phT n c F a1).1) y) (up N x n) (up C x c) (up Fs x (hcF F (Fs x))) sv SN SC SFs pl T z) (pbHs G w h t u v k kk r _ _ _ _ _ _ _ _ _ _ _ _ _ _ _ _ _ _).symm ?_
  refine hiret X dX7_pass_26 ⟨rfl, ?_⟩
  rfl

set_option maxHeartbeats 4000000 in
set_option maxRecDepth 100000 in
theorem kX7_ofStand (l : Launch) (G : hG) (w h t u v : Nat → Nat) (k kk : Nat → Nat → Nat) (r : Nat → Nat) (n c : Nat) (F : hF) (tn tc : Nat) (Ft : hF) (x y : Nat) (N C : Nat → Nat) (Fs : Nat → hF) (sv : Nat → Int32) (SN SC : Nat → Nat) (SFs : Nat → hF) (pl : Nat) (T z : Nat → Int32) (hn : n ≤ 20) (hc : c ≤ 6) (a1 a2 : Int32) : hM l G yX7_ofStand wsX7_ofStand ({ frames := 3, cells := 0, slots := 0, locals := 85 }) (hbW G w h t u v k kk r n c F tn tc Ft x y N C Fs sv SN SC SFs pl T z) [.ref (w 0), .int a1, .int a2] (hR (some (.int (telS n F a1 a2))) (hbW G w h t u v k kk r n c F tn tc Ft x y N C Fs sv SN SC SFs pl T z)) := by
  refine hM_of (cc := cX7_ofStand) (maxL := 3) (ret := (some .int)) (by decide) rfl (Nat.le_of_ble_eq_true rfl) ?_
  intro pp ee ss mm aa bb me cd X hin
  have iX1 : ∀ w ∈ wsX10, w ∈ wsX7_ofStand := by decide +kernel
  have iX7 : ∀ w ∈ wsX70, w ∈ wsX7_ofStand := by decide +kernel
  refine haload_n X dX7_ofStand_0 rfl ?_
  refine hget1 X (T := TX7) (N := 6) iX7 0 rfl rfl 0 (by decide) (by decide +kernel) rfl dX7_ofStand_1 ?_
  refine hgetN X (T := TX1) (N := 7) iX1 6 rfl rfl 2 (by decide) (by decide +kernel) rfl dX7_ofStand_4 ?_
  refine hiload_n X dX7_ofStand_7 rfl ?_
  refine hiload_n X dX7_ofStand_8 rfl ?_
  refine hV_perm (ws' := (stW G h n F) ++ _) (pbSt G w h t u v k kk r _ _ _ _ _ _ _ _ _ _ _ _ _ _ _ _ _ _) ?_
  refine hcallVr (C := RX6) (T := TX6) (N := 11) (As := [.int a1, .int a2]) (rest := []) (st' := [.int (telS n F a1 a2)]) (w := stW G h n F) X (q0 := 0) (kX6_tell l G h F n a1 a2 (by first | assumption | omega)) gX7_ofStand_X6_tell rfl (n := 2) (by decide +kernel) (by decide) rfl rfl rfl rfl (Nat.le_of_ble_eq_true rfl) dX7_ofStand_9 rfl rfl (by decide) rfl ?_
  refine hV_perm (ws' := hbW G w h t u v k kk r n c F tn tc Ft x y N C Fs sv SN SC SFs pl T z) (pbSt G w h t u v k kk r _ _ _ _ _ _ _ _ _ _ _ _ _ _ _ _ _ _).symm ?_
  refine hiret X dX7_ofStand_12 ⟨rfl, ?_⟩
  rfl

set_option maxHeartbeats 4000000 in
set_option maxRecDepth 100000 in
theorem kX7_ofCrew (l : Launch) (G : hG) (w h t u v : Nat → Nat) (k kk : Nat → Nat → Nat) (r : Nat → Nat) (n c : Nat) (F : hF) (tn tc : Nat) (Ft : hF) (x y : Nat) (N C : Nat → Nat) (Fs : Nat → hF) (sv : Nat → Int32) (SN SC : Nat → Nat) (SFs : Nat → hF) (pl : Nat) (T z : Nat → Int32) (hn : n ≤ 20) (hc : c ≤ 6) (a1 a2 : Int32) : hM l G yX7_ofCrew wsX7_ofCrew ({ frames := 2, cells := 0, slots := 0, locals := 62 }) (hbW G w h t u v k kk r n c F tn tc Ft x y N C Fs sv SN SC SFs pl T z) [.ref (w 0), .int a1, .int a2] (hR (some (.int (telC c F a1 a2))) (hbW G w h t u v k kk r n c F tn tc Ft x y N C Fs sv SN SC SFs pl T z)) := by
  refine hM_of (cc := cX7_ofCrew) (maxL := 3) (ret := (some .int)) (by decide) rfl (Nat.le_of_ble_eq_true rfl) ?_
  intro pp ee ss mm aa bb me cd X hin
  have iX1 : ∀ w ∈ wsX10, w ∈ wsX7_ofCrew := by decide +kernel
  have iX7 : ∀ w ∈ wsX70, w ∈ wsX7_ofCrew := by decide +kernel
  refine haload_n X dX7_ofCrew_0 rfl ?_
  refine hget1 X (T := TX7) (N := 6) iX7 0 rfl rfl 0 (by decide) (by decide +kernel) rfl dX7_ofCrew_1 ?_
  refine hgetN X (T := TX1) (N := 7) iX1 6 rfl rfl 3 (by decide) (by decide +kernel) rfl dX7_ofCrew_4 ?_
  refine hiload_n X dX7_ofCrew_7 rfl ?_
  refine hiload_n X dX7_ofCrew_8 rfl ?_
  refine hV_perm (ws' := (crW G h c F) ++ _) (pbCr G w h t u v k kk r _ _ _ _ _ _ _ _ _ _ _ _ _ _ _ _ _ _) ?_
  refine hcallVr (C := RX0) (T := TX0) (N := 7) (As := [.int a1, .int a2]) (rest := []) (st' := [.int (telC c F a1 a2)]) (w := crW G h c F) X (q0 := 0) (kX0_tell l G h F c a1 a2 (by first | assumption | omega)) gX7_ofCrew_X0_tell rfl (n := 2) (by decide +kernel) (by decide) rfl rfl rfl rfl (Nat.le_of_ble_eq_true rfl) dX7_ofCrew_9 rfl rfl (by decide) rfl ?_
  refine hV_perm (ws' := hbW G w h t u v k kk r n c F tn tc Ft x y N C Fs sv SN SC SFs pl T z) (pbCr G w h t u v k kk r _ _ _ _ _ _ _ _ _ _ _ _ _ _ _ _ _ _).symm ?_
  refine hiret X dX7_ofCrew_12 ⟨rfl, ?_⟩
  rfl

set_option maxHeartbeats 4000000 in
set_option maxRecDepth 100000 in
theorem kX7_load (l : Launch) (G : hG) (w h t u v : Nat → Nat) (k kk : Nat → Nat → Nat) (r : Nat → Nat) (n c : Nat) (F : hF) (tn tc : Nat) (Ft : hF) (x y : Nat) (N C : Nat → Nat) (Fs : Nat → hF) (sv : Nat → Int32) (SN SC : Nat → Nat) (SFs : Nat → hF) (pl : Nat) (T z : Nat → Int32) (hn : n ≤ 20) (hc : c ≤ 6) (a1 : Int32) : hM l G yX7_load wsX7_load ({ frames := 2, cells := 0, slots := 0, locals := 61 }) (hbW G w h t u v k kk r n c F tn tc Ft x y N C Fs sv SN SC SFs pl T z) [.ref (w 0), .int a1] (hR (some (.int (ldH F a1))) (hbW G w h t u v k kk r n c F tn tc Ft x y N C Fs sv SN SC SFs pl T z)) := by
  refine hM_of (cc := cX7_load) (maxL := 2) (ret := (some .int)) (by decide) rfl (Nat.le_of_ble_eq_true rfl) ?_
  intro pp ee ss mm aa bb me cd X hin
  have iX7 : ∀ w ∈ wsX70, w ∈ wsX7_load := by decide +kernel
  refine haload_n X dX7_load_0 rfl ?_
  refine hget1 X (T := TX7) (N := 6) iX7 0 rfl rfl 0 (by decide) (by decide +kernel) rfl dX7_load_1 ?_
  refine hiload_n X dX7_load_4 rfl ?_
  refine hV_perm (ws' := (haW G h n c F) ++ _) (pbHa G w h t u v k kk r _ _ _ _ _ _ _ _ _ _ _ _ _ _ _ _ _ _) ?_
  refine hcallVr (C := RX1) (T := TX1) (N := 7) (As := [.int a1]) (rest := []) (st' := [.int (ldH F a1)]) (w := haW G h n c F) X (q0 := 0) (kX1_loadOf l G h F n c (by first | assumption | omega) (by first | assumption | omega) a1) gX7_load_X1_loadOf rfl (n := 1) (by decide +kernel) (by decide) rfl rfl rfl rfl (Nat.le_of_ble_eq_true rfl) dX7_load_5 rfl rfl (by decide) rfl ?_
  refine hV_perm (ws' := hbW G w h t u v k kk r n c F tn tc Ft x y N C Fs sv SN SC SFs pl T z) (pbHa G w h t u v k kk r _ _ _ _ _ _ _ _ _ _ _ _ _ _ _ _ _ _).symm ?_
  refine hiret X dX7_load_8 ⟨rfl, ?_⟩
  rfl

set_option maxHeartbeats 4000000 in
set_option maxRecDepth 100000 in
theorem kX7_waitsFor (l : Launch) (G : hG) (w h t u v : Nat → Nat) (k kk : Nat → Nat → Nat) (r : Nat → Nat) (n c : Nat) (F : hF) (tn tc : Nat) (Ft : hF) (x y : Nat) (N C : Nat → Nat) (Fs : Nat → hF) (sv : Nat → Int32) (SN SC : Nat → Nat) (SFs : Nat → hF) (pl : Nat) (T z : Nat → Int32) (hn : n ≤ 20) (hc : c ≤ 6) (a1 : Int32) : hM l G yX7_waitsFor wsX7_waitsFor ({ frames := 4, cells := 0, slots := 0, locals := 104 }) (hbW G w h t u v k kk r n c F tn tc Ft x y N C Fs sv SN SC SFs pl T z) [.ref (w 0), .int a1] (hR (some (.int (waH n F a1))) (hbW G w h t u v k kk r n c F tn tc Ft x y N C Fs sv SN SC SFs pl T z)) := by
  refine hM_of (cc := cX7_waitsFor) (maxL := 2) (ret := (some .int)) (by decide) rfl (Nat.le_of_ble_eq_true rfl) ?_
  intro pp ee ss mm aa bb me cd X hin
  have iX7 : ∀ w ∈ wsX70, w ∈ wsX7_waitsFor := by decide +kernel
  refine haload_n X dX7_waitsFor_0 rfl ?_
  refine hget1 X (T := TX7) (N := 6) iX7 0 rfl rfl 0 (by decide) (by decide +kernel) rfl dX7_waitsFor_1 ?_
  refine hiload_n X dX7_waitsFor_4 rfl ?_
  refine hV_perm (ws' := (haW G h n c F) ++ _) (pbHa G w h t u v k kk r _ _ _ _ _ _ _ _ _ _ _ _ _ _ _ _ _ _) ?_
  refine hcallVr (C := RX1) (T := TX1) (N := 7) (As := [.int a1]) (rest := []) (st' := [.int (waH n F a1)]) (w := haW G h n c F) X (q0 := 0) (kX1_reasonToWait l G h F n c (by first | assumption | omega) (by first | assumption | omega) a1) gX7_waitsFor_X1_reasonToWait rfl (n := 1) (by decide +kernel) (by decide) rfl rfl rfl rfl (Nat.le_of_ble_eq_true rfl) dX7_waitsFor_5 rfl rfl (by decide) rfl ?_
  refine hV_perm (ws' := hbW G w h t u v k kk r n c F tn tc Ft x y N C Fs sv SN SC SFs pl T z) (pbHa G w h t u v k kk r _ _ _ _ _ _ _ _ _ _ _ _ _ _ _ _ _ _).symm ?_
  refine hiret X dX7_waitsFor_8 ⟨rfl, ?_⟩
  rfl

set_option maxHeartbeats 4000000 in
set_option maxRecDepth 100000 in
theorem kX7_count (l : Launch) (G : hG) (w h t u v : Nat → Nat) (k kk : Nat → Nat → Nat) (r : Nat → Nat) (n c : Nat) (F : hF) (tn tc : Nat) (Ft : hF) (x y : Nat) (N C : Nat → Nat) (Fs : Nat → hF) (sv : Nat → Int32) (SN SC : Nat → Nat) (SFs : Nat → hF) (pl : Nat) (T z : Nat → Int32) (hn : n ≤ 20) (hc : c ≤ 6) (a1 : Int32) : hM l G yX7_count wsX7_count ({ frames := 3, cells := 0, slots := 0, locals := 84 }) (hbW G w h t u v k kk r n c F tn tc Ft x y N C Fs sv SN SC SFs pl T z) [.ref (w 0), .int a1] (hR (some (.int (if a1 = 18 then nI pl else if a1 = 19 then nI y else nuH n c F a1))) (hbW G w h t u v k kk r n c F tn tc Ft x y N C Fs sv SN SC SFs pl T z)) := by
  refine hM_of (cc := cX7_count) (maxL := 2) (ret := (some .int)) (by decide) rfl (Nat.le_of_ble_eq_true rfl) ?_
  intro pp ee ss mm aa bb me cd X hin
  have iX2 : ∀ w ∈ wsX20, w ∈ wsX7_count := by decide +kernel
  have iX4 : ∀ w ∈ wsX40, w ∈ wsX7_count := by decide +kernel
  have iX7 : ∀ w ∈ wsX70, w ∈ wsX7_count := by decide +kernel
  refine hiload_n X dX7_count_0 rfl ?_
  by_cases sx1 : (a1 : Int32) = 18
  · refine hlookup (off := 27) (tgt := 28) X dX7_count_1 (by decide) (by rw [sx1]; decide) (by decide) ?_
    refine haload_n X dX7_count_28 rfl ?_
    refine hget1 X (T := TX7) (N := 6) iX7 0 rfl rfl 5 (by decide) (by decide +kernel) rfl dX7_count_29 ?_
    refine hgetN X (T := TX4) (N := 2) iX4 4 rfl rfl 1 (by decide) (by decide +kernel) rfl dX7_count_32 ?_
    refine hiret X dX7_count_35 ⟨congrArg (fun z => some (Value.int z)) (?_ : (nI pl) = if a1 = 18 then nI pl else if a1 = 19 then nI y else nuH n c F a1), ?_⟩
    · first | (simp [*]; done) | (subst_vars; simp; done)
    rfl
  by_cases sx2 : (a1 : Int32) = 19
  · refine hlookup (off := 35) (tgt := 36) X dX7_count_1 (by decide) (by rw [sx2]; decide) (by decide) ?_
    refine haload_n X dX7_count_36 rfl ?_
    refine hget1 X (T := TX7) (N := 6) iX7 0 rfl rfl 2 (by decide) (by decide +kernel) rfl dX7_count_37 ?_
    refine hgetN X (T := TX2) (N := 3) iX2 1 rfl rfl 2 (by decide) (by decide +kernel) rfl dX7_count_40 ?_
    refine hiret X dX7_count_43 ⟨congrArg (fun z => some (Value.int z)) (?_ : (nI y) = if a1 = 18 then nI pl else if a1 = 19 then nI y else nuH n c F a1), ?_⟩
    · first | (simp [*]; done) | (subst_vars; simp; done)
    rfl
  refine hlookup (off := 43) (tgt := 44) X dX7_count_1 (by decide) (by show Op.lookupswitch.offset [(18, 27), (19, 35)] (43) _ = (43); rw [lv_osw sx1 (by decide), lv_osw sx2 (by decide)]; rfl) (by decide) ?_
  refine haload_n X dX7_count_44 rfl ?_
  refine hget1 X (T := TX7) (N := 6) iX7 0 rfl rfl 0 (by decide) (by decide +kernel) rfl dX7_count_45 ?_
  refine hiload_n X dX7_count_48 rfl ?_
  refine hV_perm (ws' := (haW G h n c F) ++ _) (pbHa G w h t u v k kk r _ _ _ _ _ _ _ _ _ _ _ _ _ _ _ _ _ _) ?_
  refine hcallVr (C := RX1) (T := TX1) (N := 7) (As := [.int a1]) (rest := []) (st' := [.int (nuH n c F a1)]) (w := haW G h n c F) X (q0 := 0) (kX1_number l G h F n c (by first | assumption | omega) (by first | assumption | omega) a1) gX7_count_X1_number rfl (n := 1) (by decide +kernel) (by decide) rfl rfl rfl rfl (Nat.le_of_ble_eq_true rfl) dX7_count_49 rfl rfl (by decide) rfl ?_
  refine hV_perm (ws' := hbW G w h t u v k kk r n c F tn tc Ft x y N C Fs sv SN SC SFs pl T z) (pbHa G w h t u v k kk r _ _ _ _ _ _ _ _ _ _ _ _ _ _ _ _ _ _).symm ?_
  refine hiret X dX7_count_52 ⟨congrArg (fun z => some (Value.int z)) (?_ : (nuH n c F a1) = if a1 = 18 then nI pl else if a1 = 19 then nI y else nuH n c F a1), ?_⟩
  · first | (simp [*]; done) | (subst_vars; simp; done)
  rfl

set_option maxHeartbeats 4000000 in
set_option maxRecDepth 100000 in
theorem kX7_fault (l : Launch) (G : hG) (w h t u v : Nat → Nat) (k kk : Nat → Nat → Nat) (r : Nat → Nat) (n c : Nat) (F : hF) (tn tc : Nat) (Ft : hF) (x y : Nat) (N C : Nat → Nat) (Fs : Nat → hF) (sv : Nat → Int32) (SN SC : Nat → Nat) (SFs : Nat → hF) (pl : Nat) (T z : Nat → Int32) (hn : n ≤ 20) (hc : c ≤ 6) (hpl : pl ≤ 80) (hT : ∀ i, narrow .char (.int (T i)) = .int (T i))  : hM l G yX7_fault wsX7_fault ({ frames := 6, cells := 0, slots := 0, locals := 146 }) (hbW G w h t u v k kk r n c F tn tc Ft x y N C Fs sv SN SC SFs pl T z) [.ref (w 0)] (hR (some (.int (vFF T pl z))) (hbW G w h t u v k kk r n c F tn tc Ft x y N C Fs sv SN SC SFs pl T (zFF T pl 80 (zS0 z)))) := by
  refine hM_of (cc := cX7_fault) (maxL := 1) (ret := (some .int)) (by decide) rfl (Nat.le_of_ble_eq_true rfl) ?_
  intro pp ee ss mm aa bb me cd X hin
  have iX7 : ∀ w ∈ wsX70, w ∈ wsX7_fault := by decide +kernel
  refine haload_n X dX7_fault_0 rfl ?_
  refine hget1 X (T := TX7) (N := 6) iX7 0 rfl rfl 4 (by decide) (by decide +kernel) rfl dX7_fault_1 ?_
  refine hV_perm (ws' := (rdW G r pl T z) ++ _) (pbRd G w h t u v k kk r _ _ _ _ _ _ _ _ _ _ _ _ _ _ _ _ _ _) ?_
  refine hcallVr (C := RX3) (T := TX3) (N := 8) (As := []) (rest := []) (st' := [.int (vFF T pl z)]) (w := rdW G r pl T (zFF T pl 80 (zS0 z))) X (q0 := 0) (kX3_findFault l G r T z pl (by first | assumption | omega) (by first | assumption | omega)) gX7_fault_X3_findFault rfl (n := 0) (by decide +kernel) (by decide) rfl rfl rfl rfl (Nat.le_of_ble_eq_true rfl) dX7_fault_4 rfl rfl (by decide) rfl ?_
  refine hV_perm (ws' := hbW G w h t u v k kk r n c F tn tc Ft x y N C Fs sv SN SC SFs pl T (zFF T pl 80 (zS0 z))) (pbRd G w h t u v k kk r _ _ _ _ _ _ _ _ _ _ _ _ _ _ _ _ _ _).symm ?_
  refine hiret X dX7_fault_7 ⟨rfl, ?_⟩
  rfl

set_option maxHeartbeats 4000000 in
set_option maxRecDepth 100000 in
theorem kX7_wipe (l : Launch) (G : hG) (w h t u v : Nat → Nat) (k kk : Nat → Nat → Nat) (r : Nat → Nat) (n c : Nat) (F : hF) (tn tc : Nat) (Ft : hF) (x y : Nat) (N C : Nat → Nat) (Fs : Nat → hF) (sv : Nat → Int32) (SN SC : Nat → Nat) (SFs : Nat → hF) (pl : Nat) (T z : Nat → Int32) (hn : n ≤ 20) (hc : c ≤ 6)  : hM l G yX7_wipe wsX7_wipe ({ frames := 2, cells := 0, slots := 0, locals := 61 }) (hbW G w h t u v k kk r n c F tn tc Ft x y N C Fs sv SN SC SFs pl T z) [.ref (w 0)] (hR (some (.int (nI pl))) (hbW G w h t u v k kk r n c F tn tc Ft x y N C Fs sv SN SC SFs 0 T z)) := by
  refine hM_of (cc := cX7_wipe) (maxL := 1) (ret := (some .int)) (by decide) rfl (Nat.le_of_ble_eq_true rfl) ?_
  intro pp ee ss mm aa bb me cd X hin
  have iX7 : ∀ w ∈ wsX70, w ∈ wsX7_wipe := by decide +kernel
  refine haload_n X dX7_wipe_0 rfl ?_
  refine hget1 X (T := TX7) (N := 6) iX7 0 rfl rfl 5 (by decide) (by decide +kernel) rfl dX7_wipe_1 ?_
  refine hV_perm (ws' := (pdW G r pl T) ++ _) (pbPd G w h t u v k kk r _ _ _ _ _ _ _ _ _ _ _ _ _ _ _ _ _ _) ?_
  refine hcallVr (C := RX4) (T := TX4) (N := 2) (As := []) (rest := []) (st' := [.int (nI pl)]) (w := pdW G r 0 T) X (q0 := 0) (kX4_clear l G r T pl) gX7_wipe_X4_clear rfl (n := 0) (by decide +kernel) (by decide) rfl rfl rfl rfl (Nat.le_of_ble_eq_true rfl) dX7_wipe_4 rfl rfl (by decide) rfl ?_
  refine hV_perm (ws' := hbW G w h t u v k kk r n c F tn tc Ft x y N C Fs sv SN SC SFs 0 T z) (pbPd G w h t u v k kk r _ _ _ _ _ _ _ _ _ _ _ _ _ _ _ _ _ _).symm ?_
  refine hiret X dX7_wipe_7 ⟨rfl, ?_⟩
  rfl

set_option maxHeartbeats 4000000 in
set_option maxRecDepth 100000 in
theorem kX7_put (l : Launch) (G : hG) (w h t u v : Nat → Nat) (k kk : Nat → Nat → Nat) (r : Nat → Nat) (n c : Nat) (F : hF) (tn tc : Nat) (Ft : hF) (x y : Nat) (N C : Nat → Nat) (Fs : Nat → hF) (sv : Nat → Int32) (SN SC : Nat → Nat) (SFs : Nat → hF) (pl : Nat) (T z : Nat → Int32) (hpl : pl ≤ 80) (a1 : Int64) : hM l G yX7_put wsX7_put ({ frames := 4, cells := 0, slots := 0, locals := 112 }) (hbW G w h t u v k kk r n c F tn tc Ft x y N C Fs sv SN SC SFs pl T z) [.ref (w 0), .long a1] (hR (some (.int (apdR pl a1))) (hbW G w h t u v k kk r n c F tn tc Ft x y N C Fs sv SN SC SFs (apdL pl a1) (apdT T pl a1) z)) := by
  refine hM_of (cc := cX7_put) (maxL := 3) (ret := (some .int)) (by decide) rfl (Nat.le_of_ble_eq_true rfl) ?_
  intro pp ee ss mm aa bb me cd X hin
  have iX7 : ∀ w ∈ wsX70, w ∈ wsX7_put := by decide +kernel
  refine haload_n X dX7_put_0 rfl ?_
  refine hget1 X (T := TX7) (N := 6) iX7 0 rfl rfl 5 (by decide) (by decide +kernel) rfl dX7_put_1 ?_
  refine hlload_n X dX7_put_4 rfl ?_
  refine hV_perm (ws' := (pdW G r pl T) ++ _) (pbPd G w h t u v k kk r _ _ _ _ _ _ _ _ _ _ _ _ _ _ _ _ _ _) ?_
  refine hcallVr (C := RX4) (T := TX4) (N := 2) (As := [.long a1]) (rest := []) (st' := [.int (apdR pl a1)]) (w := pdW G r (apdL pl a1) (apdT T pl a1)) X (q0 := 0) (kX4_append l G r T pl a1 (by first | assumption | omega)) gX7_put_X4_append rfl (n := 1) (by decide +kernel) (by decide) rfl rfl rfl rfl (Nat.le_of_ble_eq_true rfl) dX7_put_5 rfl rfl (by decide) rfl ?_
  refine hV_perm (ws' := hbW G w h t u v k kk r n c F tn tc Ft x y N C Fs sv SN SC SFs (apdL pl a1) (apdT T pl a1) z) (pbPd G w h t u v k kk r _ _ _ _ _ _ _ _ _ _ _ _ _ _ _ _ _ _).symm ?_
  refine hiret X dX7_put_8 ⟨rfl, ?_⟩
  rfl

set_option maxHeartbeats 4000000 in
set_option maxRecDepth 100000 in
theorem kX7_undo (l : Launch) (G : hG) (w h t u v : Nat → Nat) (k kk : Nat → Nat → Nat) (r : Nat → Nat) (n c : Nat) (F : hF) (tn tc : Nat) (Ft : hF) (x y : Nat) (N C : Nat → Nat) (Fs : Nat → hF) (sv : Nat → Int32) (SN SC : Nat → Nat) (SFs : Nat → hF) (pl : Nat) (T z : Nat → Int32) (hn : n ≤ 20) (hc : c ≤ 6) (hx : x < 7) (hy : y ≤ 6) (hb : F 18 1 = 0 ∨ F 18 1 = 1) (hbs : ∀ i, Fs i 18 1 = 0 ∨ Fs i 18 1 = 1)  : hM l G yX7_undo wsX7_undo ({ frames := 5, cells := 0, slots := 0, locals := 145 }) (hbW G w h t u v k kk r n c F tn tc Ft x y N C Fs sv SN SC SFs pl T z) [.ref (w 0)] (hR (some (.int (bkR y))) (hbW G w h t u v k kk r (if y = 0 then n else N (bkN x y)) (if y = 0 then c else C (bkN x y)) (if y = 0 then F else hcF (Fs (bkN x y)) F) tn tc Ft (bkN x y) (y - 1) N C Fs sv SN SC SFs pl T z)) := by
  refine hM_of (cc := cX7_undo) (maxL := 1) (ret := (some .int)) (by decide) rfl (Nat.le_of_ble_eq_true rfl) ?_
  intro pp ee ss mm aa bb me cd X hin
  have iX7 : ∀ w ∈ wsX70, w ∈ wsX7_undo := by decide +kernel
  refine haload_n X dX7_undo_0 rfl ?_
  refine hget1 X (T := TX7) (N := 6) iX7 0 rfl rfl 2 (by decide) (by decide +kernel) rfl dX7_undo_1 ?_
  refine haload_n X dX7_undo_4 rfl ?_
  refine hget1 X (T := TX7) (N := 6) iX7 0 rfl rfl 0 (by decide) (by decide +kernel) rfl dX7_undo_5 ?_
  refine hV_perm (ws' := (hsW G u k h x y N C Fs n c F) ++ _) (pbHs G w h t u v k kk r _ _ _ _ _ _ _ _ _ _ _ _ _ _ _ _ _ _) ?_
  refine hcallVr (C := RX2) (T := TX2) (N := 3) (As := [.ref (h 0)]) (rest := []) (st' := [.int (bkR y)]) (w := hsW G u k h (bkN x y) (y - 1) N C Fs (if y = 0 then n else N (bkN x y)) (if y = 0 then c else C (bkN x y)) (if y = 0 then F else hcF (Fs (bkN x y)) F)) X (q0 := 0) (kX2_stepBack l G u k h x y N C Fs n c F (by first | assumption | omega) (by first | assumption | omega) (by first | assumption | omega)) gX7_undo_X2_stepBack rfl (n := 1) (by decide +kernel) (by decide) rfl rfl rfl rfl (Nat.le_of_ble_eq_true rfl) dX7_undo_8 rfl rfl (by decide) rfl ?_
  refine hV_perm (ws' := hbW G w h t u v k kk r (if y = 0 then n else N (bkN x y)) (if y = 0 then c else C (bkN x y)) (if y = 0 then F else hcF (Fs (bkN x y)) F) tn tc Ft (bkN x y) (y - 1) N C Fs sv SN SC SFs pl T z) (pbHs G w h t u v k kk r _ _ _ _ _ _ _ _ _ _ _ _ _ _ _ _ _ _).symm ?_
  refine hiret X dX7_undo_11 ⟨rfl, ?_⟩
  rfl

set_option maxHeartbeats 4000000 in
set_option maxRecDepth 100000 in
theorem kX7_save (l : Launch) (G : hG) (w h t u v : Nat → Nat) (k kk : Nat → Nat → Nat) (r : Nat → Nat) (n c : Nat) (F : hF) (tn tc : Nat) (Ft : hF) (x y : Nat) (N C : Nat → Nat) (Fs : Nat → hF) (sv : Nat → Int32) (SN SC : Nat → Nat) (SFs : Nat → hF) (pl : Nat) (T z : Nat → Int32) (hn : n ≤ 20) (hc : c ≤ 6) (hb : F 18 1 = 0 ∨ F 18 1 = 1) (a1 : Int32) : hM l G yX7_save wsX7_save ({ frames := 5, cells := 0, slots := 0, locals := 146 }) (hbW G w h t u v k kk r n c F tn tc Ft x y N C Fs sv SN SC SFs pl T z) [.ref (w 0), .int a1] (hR (some (.int (if inS a1 then nI n else -2))) (hbW G w h t u v k kk r n c F tn tc Ft x y N C Fs (if inS a1 then upd sv a1.toNatClampNeg (vp_nar .boolean 1) else sv) (if inS a1 then up SN a1.toNatClampNeg n else SN) (if inS a1 then up SC a1.toNatClampNeg c else SC) (if inS a1 then up SFs a1.toNatClampNeg (hcF F (SFs a1.toNatClampNeg)) else SFs) pl T z)) := by
  refine hM_of (cc := cX7_save) (maxL := 2) (ret := (some .int)) (by decide) rfl (Nat.le_of_ble_eq_true rfl) ?_
  intro pp ee ss mm aa bb me cd X hin
  have iX7 : ∀ w ∈ wsX70, w ∈ wsX7_save := by decide +kernel
  refine haload_n X dX7_save_0 rfl ?_
  refine hget1 X (T := TX7) (N := 6) iX7 0 rfl rfl 3 (by decide) (by decide +kernel) rfl dX7_save_1 ?_
  refine hiload_n X dX7_save_4 rfl ?_
  refine haload_n X dX7_save_5 rfl ?_
  refine hget1 X (T := TX7) (N := 6) iX7 0 rfl rfl 0 (by decide) (by decide +kernel) rfl dX7_save_6 ?_
  refine hV_perm (ws' := (slW G v kk h sv SN SC SFs n c F) ++ _) (pbSl G w h t u v k kk r _ _ _ _ _ _ _ _ _ _ _ _ _ _ _ _ _ _) ?_
  refine hcallVr (C := RX5) (T := TX5) (N := 2) (As := [.int a1, .ref (h 0)]) (rest := []) (st' := [.int (if inS a1 then nI n else -2)]) (w := slW G v kk h (if inS a1 then upd sv a1.toNatClampNeg (vp_nar .boolean 1) else sv) (if inS a1 then up SN a1.toNatClampNeg n else SN) (if inS a1 then up SC a1.toNatClampNeg c else SC) (if inS a1 then up SFs a1.toNatClampNeg (hcF F (SFs a1.toNatClampNeg)) else SFs) n c F) X (q0 := 0) (kX5_keep l G v kk h sv SN SC SFs n c F a1 (by first | assumption | omega)) gX7_save_X5_keep rfl (n := 2) (by decide +kernel) (by decide) rfl rfl rfl rfl (Nat.le_of_ble_eq_true rfl) dX7_save_9 rfl rfl (by decide) rfl ?_
  refine hV_perm (ws' := hbW G w h t u v k kk r n c F tn tc Ft x y N C Fs (if inS a1 then upd sv a1.toNatClampNeg (vp_nar .boolean 1) else sv) (if inS a1 then up SN a1.toNatClampNeg n else SN) (if inS a1 then up SC a1.toNatClampNeg c else SC) (if inS a1 then up SFs a1.toNatClampNeg (hcF F (SFs a1.toNatClampNeg)) else SFs) pl T z) (pbSl G w h t u v k kk r _ _ _ _ _ _ _ _ _ _ _ _ _ _ _ _ _ _).symm ?_
  refine hiret X dX7_save_12 ⟨rfl, ?_⟩
  rfl

set_option maxHeartbeats 4000000 in
set_option maxRecDepth 100000 in
theorem kX7_restore (l : Launch) (G : hG) (w h t u v : Nat → Nat) (k kk : Nat → Nat → Nat) (r : Nat → Nat) (n c : Nat) (F : hF) (tn tc : Nat) (Ft : hF) (x y : Nat) (N C : Nat → Nat) (Fs : Nat → hF) (sv : Nat → Int32) (SN SC : Nat → Nat) (SFs : Nat → hF) (pl : Nat) (T z : Nat → Int32) (hn : n ≤ 20) (hc : c ≤ 6) (hx : x < 7) (hy : y ≤ 6) (hb : F 18 1 = 0 ∨ F 18 1 = 1) (hbs : ∀ i, SFs i 18 1 = 0 ∨ SFs i 18 1 = 1) (a1 : Int32) : hM l G yX7_restore wsX7_restore ({ frames := 5, cells := 0, slots := 0, locals := 146 }) (hbW G w h t u v k kk r n c F tn tc Ft x y N C Fs sv SN SC SFs pl T z) [.ref (w 0), .int a1] (hR (some (.int (if inS a1 then (if sv a1.toNatClampNeg = 0 then -5 else nI (SN a1.toNatClampNeg)) else -2))) (hbW G w h t u v k kk r (if inS a1 then (if sv a1.toNatClampNeg = 0 then n else SN a1.toNatClampNeg) else n) (if inS a1 then (if sv a1.toNatClampNeg = 0 then c else SC a1.toNatClampNeg) else c) (if inS a1 then (if sv a1.toNatClampNeg = 0 then F else hcF (SFs a1.toNatClampNeg) F) else F) tn tc Ft (rgN (if inS a1 then (if sv a1.toNatClampNeg = 0 then -5 else nI (SN a1.toNatClampNeg)) else -2) x) (rgK (if inS a1 then (if sv a1.toNatClampNeg = 0 then -5 else nI (SN a1.toNatClampNeg)) else -2) y) (up N x n) (up C x c) (up Fs x (hcF F (Fs x))) sv SN SC SFs pl T z)) := by
  refine hM_of (cc := cX7_restore) (maxL := 2) (ret := (some .int)) (by decide) rfl (Nat.le_of_ble_eq_true rfl) ?_
  intro pp ee ss mm aa bb me cd X hin
  have iX7 : ∀ w ∈ wsX70, w ∈ wsX7_restore := by decide +kernel
  refine haload_n X dX7_restore_0 rfl ?_
  refine hget1 X (T := TX7) (N := 6) iX7 0 rfl rfl 2 (by decide) (by decide +kernel) rfl dX7_restore_1 ?_
  refine haload_n X dX7_restore_4 rfl ?_
  refine hget1 X (T := TX7) (N := 6) iX7 0 rfl rfl 0 (by decide) (by decide +kernel) rfl dX7_restore_5 ?_
  refine hV_perm (ws' := (hsW G u k h x y N C Fs n c F) ++ _) (pbHs G w h t u v k kk r _ _ _ _ _ _ _ _ _ _ _ _ _ _ _ _ _ _) ?_
  refine hcallVr (C := RX2) (T := TX2) (N := 3) (As := [.ref (h 0)]) (rest := []) (st' := []) (w := hsW G u k h x y (up N x n) (up C x c) (up Fs x (hcF F (Fs x))) n c F) X (q0 := 0) (kX2_prepare l G u k h x y N C Fs n c F (by first | assumption | omega) (by first | assumption | omega) (by first | assumption | omega)) gX7_restore_X2_prepare rfl (n := 1) (by decide +kernel) (by decide) rfl rfl rfl rfl (Nat.le_of_ble_eq_true rfl) dX7_restore_8 rfl rfl (by decide) rfl ?_
  refine hV_perm (ws' := hbW G w h t u v k kk r n c F tn tc Ft x y (up N x n) (up C x c) (up Fs x (hcF F (Fs x))) sv SN SC SFs pl T z) (pbHs G w h t u v k kk r _ _ _ _ _ _ _ _ _ _ _ _ _ _ _ _ _ _).symm ?_
  refine haload_n X dX7_restore_11 rfl ?_
  refine hget1 X (T := TX7) (N := 6) iX7 0 rfl rfl 2 (by decide) (by decide +kernel) rfl dX7_restore_12 ?_
  refine haload_n X dX7_restore_15 rfl ?_
  refine hget1 X (T := TX7) (N := 6) iX7 0 rfl rfl 3 (by decide) (by decide +kernel) rfl dX7_restore_16 ?_
  refine hiload_n X dX7_restore_19 rfl ?_
  refine haload_n X dX7_restore_20 rfl ?_
  refine hget1 X (T := TX7) (N := 6) iX7 0 rfl rfl 0 (by decide) (by decide +kernel) rfl dX7_restore_21 ?_
  refine hV_perm (ws' := (slW G v kk h sv SN SC SFs n c F) ++ _) (pbSl G w h t u v k kk r _ _ _ _ _ _ _ _ _ _ _ _ _ _ _ _ _ _) ?_
  refine hcallVr (C := RX5) (T := TX5) (N := 2) (As := [.int a1, .ref (h 0)]) (rest := [.ref (u 0)]) (st' := [.int (if inS a1 then (if sv a1.toNatClampNeg = 0 then -5 else nI (SN a1.toNatClampNeg)) else -2), .ref (u 0)]) (w := slW G v kk h sv SN SC SFs (if inS a1 then (if sv a1.toNatClampNeg = 0 then n else SN a1.toNatClampNeg) else n) (if inS a1 then (if sv a1.toNatClampNeg = 0 then c else SC a1.toNatClampNeg) else c) (if inS a1 then (if sv a1.toNatClampNeg = 0 then F else hcF (SFs a1.toNatClampNeg) F) else F)) X (q0 := 0) (kX5_giveBack l G v kk h sv SN SC SFs n c F a1 (by first | assumption | omega)) gX7_restore_X5_giveBack rfl (n := 2) (by decide +kernel) (by decide) rfl rfl rfl rfl (Nat.le_of_ble_eq_true rfl) dX7_restore_24 rfl rfl (by decide) rfl ?_
  refine hV_perm (ws' := hbW G w h t u v k kk r (if inS a1 then (if sv a1.toNatClampNeg = 0 then n else SN a1.toNatClampNeg) else n) (if inS a1 then (if sv a1.toNatClampNeg = 0 then c else SC a1.toNatClampNeg) else c) (if inS a1 then (if sv a1.toNatClampNeg = 0 then F else hcF (SFs a1.toNatClampNeg) F) else F) tn tc Ft x y (up N x n) (up C x c) (up Fs x (hcF F (Fs x))) sv SN SC SFs pl T z) (pbSl G w h t u v k kk r _ _ _ _ _ _ _ _ _ _ _ _ _ _ _ _ _ _).symm ?_
  refine hV_perm (ws' := (hsW G u k h x y (up N x n) (up C x c) (up Fs x (hcF F (Fs x))) (if inS a1 then (if sv a1.toNatClampNeg = 0 then n else SN a1.toNatClampNeg) else n) (if inS a1 then (if sv a1.toNatClampNeg = 0 then c else SC a1.toNatClampNeg) else c) (if inS a1 then (if sv a1.toNatClampNeg = 0 then F else hcF (SFs a1.toNatClampNeg) F) else F)) ++ _) (pbHs G w h t u v k kk r _ _ _ _ _ _ _ _ _ _ _ _ _ _ _ _ _ _) ?_
  refine hcallVr (C := RX2) (T := TX2) (N := 3) (As := [.int (if inS a1 then (if sv a1.toNatClampNeg = 0 then -5 else nI (SN a1.toNatClampNeg)) else -2)]) (rest := []) (st' := [.int (if inS a1 then (if sv a1.toNatClampNeg = 0 then -5 else nI (SN a1.toNatClampNeg)) else -2)]) (w := hsW G u k h (rgN (if inS a1 then (if sv a1.toNatClampNeg = 0 then -5 else nI (SN a1.toNatClampNeg)) else -2) x) (rgK (if inS a1 then (if sv a1.toNatClampNeg = 0 then -5 else nI (SN a1.toNatClampNeg)) else -2) y) (up N x n) (up C x c) (up Fs x (hcF F (Fs x))) (if inS a1 then (if sv a1.toNatClampNeg = 0 then n else SN a1.toNatClampNeg) else n) (if inS a1 then (if sv a1.toNatClampNeg = 0 then c else SC a1.toNatClampNeg) else c) (if inS a1 then (if sv a1.toNatClampNeg = 0 then F else hcF (SFs a1.toNatClampNeg) F) else F)) X (q0 := 0) (kX2_settle l G u k h x y (up N x n) (up C x c) (up Fs x (hcF F (Fs x))) (if inS a1 then (if sv a1.toNatClampNeg = 0 then n else SN a1.toNatClampNeg) else n) (if inS a1 then (if sv a1.toNatClampNeg = 0 then c else SC a1.toNatClampNeg) else c) (if inS a1 then (if sv a1.toNatClampNeg = 0 then F else hcF (SFs a1.toNatClampNeg) F) else F) (by first | assumption | omega) (by first | assumption | omega) (if inS a1 then (if sv a1.toNatClampNeg = 0 then -5 else nI (SN a1.toNatClampNeg)) else -2)) gX7_restore_X2_settle rfl (n := 1) (by decide +kernel) (by decide) rfl rfl rfl rfl (Nat.le_of_ble_eq_true rfl) dX7_restore_27 rfl rfl (by decide) rfl ?_
  refine hV_perm (ws' := hbW G w h t u v k kk r (if inS a1 then (if sv a1.toNatClampNeg = 0 then n else SN a1.toNatClampNeg) else n) (if inS a1 then (if sv a1.toNatClampNeg = 0 then c else SC a1.toNatClampNeg) else c) (if inS a1 then (if sv a1.toNatClampNeg = 0 then F else hcF (SFs a1.toNatClampNeg) F) else F) tn tc Ft (rgN (if inS a1 then (if sv a1.toNatClampNeg = 0 then -5 else nI (SN a1.toNatClampNeg)) else -2) x) (rgK (if inS a1 then (if sv a1.toNatClampNeg = 0 then -5 else nI (SN a1.toNatClampNeg)) else -2) y) (up N x n) (up C x c) (up Fs x (hcF F (Fs x))) sv SN SC SFs pl T z) (pbHs G w h t u v k kk r _ _ _ _ _ _ _ _ _ _ _ _ _ _ _ _ _ _).symm ?_
  refine hiret X dX7_restore_30 ⟨rfl, ?_⟩
  rfl

set_option maxHeartbeats 4000000 in
set_option maxRecDepth 100000 in
theorem kX7_allIn (l : Launch) (G : hG) (w h t u v : Nat → Nat) (k kk : Nat → Nat → Nat) (r : Nat → Nat) (n c : Nat) (F : hF) (tn tc : Nat) (Ft : hF) (x y : Nat) (N C : Nat → Nat) (Fs : Nat → hF) (sv : Nat → Int32) (SN SC : Nat → Nat) (SFs : Nat → hF) (pl : Nat) (T z : Nat → Int32) (hn : n ≤ 20) (hc : c ≤ 6) (hb : F 18 1 = 0 ∨ F 18 1 = 1) : hM l G yX7_allIn wsX7_allIn ({ frames := 7, cells := 0, slots := 0, locals := 176 }) (hbW G w h t u v k kk r n c F tn tc Ft x y N C Fs sv SN SC SFs pl T z) [.ref (w 0)] (hR (some (.int ((huN n c ((hcF F Ft) 18 0) (nI 1000) 1000 (hcF F Ft)).1))) (hbW G w h t u v k kk r n c F n c ((huN n c ((hcF F Ft) 18 0) (nI 1000) 1000 (hcF F Ft)).2) x y N C Fs sv SN SC SFs pl T z)) := by
  refine hM_of (cc := cX7_allIn) (maxL := 1) (ret := (some .int)) (by decide) rfl (Nat.le_of_ble_eq_true rfl) ?_
  intro pp ee ss mm aa bb me cd X hin
  have iX7 : ∀ w ∈ wsX70, w ∈ wsX7_allIn := by decide +kernel
  refine haload_n X dX7_allIn_0 rfl ?_
  refine hget1 X (T := TX7) (N := 6) iX7 0 rfl rfl 1 (by decide) (by decide +kernel) rfl dX7_allIn_1 ?_
  refine haload_n X dX7_allIn_4 rfl ?_
  refine hget1 X (T := TX7) (N := 6) iX7 0 rfl rfl 0 (by decide) (by decide +kernel) rfl dX7_allIn_5 ?_
  refine hV_perm (ws' := (haW G h n c F ++ haW G t tn tc Ft) ++ _) (pbHt G w h t u v k kk r _ _ _ _ _ _ _ _ _ _ _ _ _ _ _ _ _ _) ?_
  refine hcallVr (C := RX1) (T := TX1) (N := 7) (As := [.ref (h 0)]) (rest := []) (st' := []) (w := haW G h n c F ++ haW G t n c (hcF F Ft)) X (q0 := 21) (kX1_copyFrom l G t h n c tn tc F Ft (by first | assumption | omega | decide)) gX7_allIn_X1_copyFrom rfl (n := 1) (by decide +kernel) (by decide) rfl rfl rfl rfl (Nat.le_of_ble_eq_true rfl) dX7_allIn_8 rfl rfl (by decide) rfl ?_
  refine hV_perm (ws' := hbW G w h t u v k kk r n c F n c (hcF F Ft) x y N C Fs sv SN SC SFs pl T z) (pbHt G w h t u v k kk r _ _ _ _ _ _ _ _ _ _ _ _ _ _ _ _ _ _).symm ?_
  refine haload_n X dX7_allIn_11 rfl ?_
  refine hget1 X (T := TX7) (N := 6) iX7 0 rfl rfl 1 (by decide) (by decide +kernel) rfl dX7_allIn_12 ?_
  refine hsipush (v := 1000) X dX7_allIn_15 rfl ?_
  refine hV_perm (ws' := (haW G t n c (hcF F Ft)) ++ _) (pbTr G w h t u v k kk r _ _ _ _ _ _ _ _ _ _ _ _ _ _ _ _ _ _) ?_
  refine hcallVr (C := RX1) (T := TX1) (N := 7) (As := [.int (nI 1000)]) (rest := []) (st' := [.int ((huN n c ((hcF F Ft) 18 0) (nI 1000) 1000 (hcF F Ft)).1)]) (w := haW G t n c ((huN n c ((hcF F Ft) 18 0) (nI 1000) 1000 (hcF F Ft)).2)) X (q0 := 0) (kX1_hoursUntilAllIn l G t (hcF F Ft) n c (by first | assumption | omega | decide) (by first | assumption | omega | decide) 1000 (by first | assumption | omega | decide)) gX7_allIn_X1_hoursUntilAllIn rfl (n := 1) (by decide +kernel) (by decide) rfl rfl rfl rfl (Nat.le_of_ble_eq_true rfl) dX7_allIn_18 rfl rfl (by decide) rfl ?_
  refine hV_perm (ws' := hbW G w h t u v k kk r n c F n c ((huN n c ((hcF F Ft) 18 0) (nI 1000) 1000 (hcF F Ft)).2) x y N C Fs sv SN SC SFs pl T z) (pbTr G w h t u v k kk r _ _ _ _ _ _ _ _ _ _ _ _ _ _ _ _ _ _).symm ?_
  refine hiret X dX7_allIn_21 ⟨rfl, ?_⟩
  rfl

set_option maxHeartbeats 4000000 in
set_option maxRecDepth 100000 in
theorem kX7_withCrew (l : Launch) (G : hG) (w h t u v : Nat → Nat) (k kk : Nat → Nat → Nat) (r : Nat → Nat) (n c : Nat) (F : hF) (tn tc : Nat) (Ft : hF) (x y : Nat) (N C : Nat → Nat) (Fs : Nat → hF) (sv : Nat → Int32) (SN SC : Nat → Nat) (SFs : Nat → hF) (pl : Nat) (T z : Nat → Int32) (hn : n ≤ 20) (hc : c ≤ 6) (hb : F 18 1 = 0 ∨ F 18 1 = 1) (a1 : Int32) : hM l G yX7_withCrew wsX7_withCrew ({ frames := 7, cells := 0, slots := 0, locals := 176 }) (hbW G w h t u v k kk r n c F tn tc Ft x y N C Fs sv SN SC SFs pl T z) [.ref (w 0), .int a1] (hR (some (.int (if (acT c (hcF F Ft) a1 0).1 < 0 then (acT c (hcF F Ft) a1 0).1 else (huN n (acT c (hcF F Ft) a1 0).2.1 ((acT c (hcF F Ft) a1 0).2.2 18 0) (nI 1000) 1000 (acT c (hcF F Ft) a1 0).2.2).1))) (hbW G w h t u v k kk r n c F n ((acT c (hcF F Ft) a1 0).2.1) (if (acT c (hcF F Ft) a1 0).1 < 0 then (acT c (hcF F Ft) a1 0).2.2 else (huN n (acT c (hcF F Ft) a1 0).2.1 ((acT c (hcF F Ft) a1 0).2.2 18 0) (nI 1000) 1000 (acT c (hcF F Ft) a1 0).2.2).2) x y N C Fs sv SN SC SFs pl T z)) := by
  refine hM_of (cc := cX7_withCrew) (maxL := 3) (ret := (some .int)) (by decide) rfl (Nat.le_of_ble_eq_true rfl) ?_
  intro pp ee ss mm aa bb me cd X hin
  have iX7 : ∀ w ∈ wsX70, w ∈ wsX7_withCrew := by decide +kernel
  refine haload_n X dX7_withCrew_0 rfl ?_
  refine hget1 X (T := TX7) (N := 6) iX7 0 rfl rfl 1 (by decide) (by decide +kernel) rfl dX7_withCrew_1 ?_
  refine haload_n X dX7_withCrew_4 rfl ?_
  refine hget1 X (T := TX7) (N := 6) iX7 0 rfl rfl 0 (by decide) (by decide +kernel) rfl dX7_withCrew_5 ?_
  refine hV_perm (ws' := (haW G h n c F ++ haW G t tn tc Ft) ++ _) (pbHt G w h t u v k kk r _ _ _ _ _ _ _ _ _ _ _ _ _ _ _ _ _ _) ?_
  refine hcallVr (C := RX1) (T := TX1) (N := 7) (As := [.ref (h 0)]) (rest := []) (st' := []) (w := haW G h n c F ++ haW G t n c (hcF F Ft)) X (q0 := 21) (kX1_copyFrom l G t h n c tn tc F Ft (by first | assumption | omega | decide | exact acT_le hc)) gX7_withCrew_X1_copyFrom rfl (n := 1) (by decide +kernel) (by decide) rfl rfl rfl rfl (Nat.le_of_ble_eq_true rfl) dX7_withCrew_8 rfl rfl (by decide) rfl ?_
  refine hV_perm (ws' := hbW G w h t u v k kk r n c F n c (hcF F Ft) x y N C Fs sv SN SC SFs pl T z) (pbHt G w h t u v k kk r _ _ _ _ _ _ _ _ _ _ _ _ _ _ _ _ _ _).symm ?_
  refine haload_n X dX7_withCrew_11 rfl ?_
  refine hget1 X (T := TX7) (N := 6) iX7 0 rfl rfl 1 (by decide) (by decide +kernel) rfl dX7_withCrew_12 ?_
  refine hiload_n X dX7_withCrew_15 rfl ?_
  refine hiconst (v := 0) X dX7_withCrew_16 rfl ?_
  refine hV_perm (ws' := (haW G t n c (hcF F Ft)) ++ _) (pbTr G w h t u v k kk r _ _ _ _ _ _ _ _ _ _ _ _ _ _ _ _ _ _) ?_
  refine hcallVr (C := RX1) (T := TX1) (N := 7) (As := [.int a1, .int 0]) (rest := []) (st' := [.int ((acT c (hcF F Ft) a1 0).1)]) (w := haW G t n ((acT c (hcF F Ft) a1 0).2.1) ((acT c (hcF F Ft) a1 0).2.2)) X (q0 := 0) (kX1_addCrew l G t (hcF F Ft) n c (by first | assumption | omega | decide | exact acT_le hc) (by first | assumption | omega | decide | exact acT_le hc) a1 0) gX7_withCrew_X1_addCrew rfl (n := 2) (by decide +kernel) (by decide) rfl rfl rfl rfl (Nat.le_of_ble_eq_true rfl) dX7_withCrew_17 rfl rfl (by decide) rfl ?_
  refine hV_perm (ws' := hbW G w h t u v k kk r n c F n ((acT c (hcF F Ft) a1 0).2.1) ((acT c (hcF F Ft) a1 0).2.2) x y N C Fs sv SN SC SFs pl T z) (pbTr G w h t u v k kk r _ _ _ _ _ _ _ _ _ _ _ _ _ _ _ _ _ _).symm ?_
  refine histore_n (lv' := [(2, .int ((acT c (hcF F Ft) a1 0).1)), (0, .ref (w 0)), (1, .int a1)]) X dX7_withCrew_20 (by decide) rfl ?_
  refine hiload_n X dX7_withCrew_21 rfl ?_
  refine hif_ge (tgt := 29) X dX7_withCrew_22 (by decide) (fun c1 => ?_) (fun c1 => ?_)
  · have hq : ¬ (acT c (hcF F Ft) a1 0).1 < 0 := Int32.not_lt.mpr c1
    refine haload_n X dX7_withCrew_29 rfl ?_
    refine hget1 X (T := TX7) (N := 6) iX7 0 rfl rfl 1 (by decide) (by decide +kernel) rfl dX7_withCrew_30 ?_
    refine hsipush (v := 1000) X dX7_withCrew_33 rfl ?_
    refine hV_perm (ws' := (haW G t n ((acT c (hcF F Ft) a1 0).2.1) ((acT c (hcF F Ft) a1 0).2.2)) ++ _) (pbTr G w h t u v k kk r _ _ _ _ _ _ _ _ _ _ _ _ _ _ _ _ _ _) ?_
    refine hcallVr (C := RX1) (T := TX1) (N := 7) (As := [.int (nI 1000)]) (rest := []) (st' := [.int ((huN n ((acT c (hcF F Ft) a1 0).2.1) (((acT c (hcF F Ft) a1 0).2.2) 18 0) (nI 1000) 1000 ((acT c (hcF F Ft) a1 0).2.2)).1)]) (w := haW G t n ((acT c (hcF F Ft) a1 0).2.1) ((huN n ((acT c (hcF F Ft) a1 0).2.1) (((acT c (hcF F Ft) a1 0).2.2) 18 0) (nI 1000) 1000 ((acT c (hcF F Ft) a1 0).2.2)).2)) X (q0 := 0) (kX1_hoursUntilAllIn l G t ((acT c (hcF F Ft) a1 0).2.2) n ((acT c (hcF F Ft) a1 0).2.1) (by first | assumption | omega | decide | exact acT_le hc) (by first | assumption | omega | decide | exact acT_le hc) 1000 (by first | assumption | omega | decide | exact acT_le hc)) gX7_withCrew_X1_hoursUntilAllIn rfl (n := 1) (by decide +kernel) (by decide) rfl rfl rfl rfl (Nat.le_of_ble_eq_true rfl) dX7_withCrew_36 rfl rfl (by decide) rfl ?_
    refine hV_perm (ws' := hbW G w h t u v k kk r n c F n ((acT c (hcF F Ft) a1 0).2.1) ((huN n ((acT c (hcF F Ft) a1 0).2.1) (((acT c (hcF F Ft) a1 0).2.2) 18 0) (nI 1000) 1000 ((acT c (hcF F Ft) a1 0).2.2)).2) x y N C Fs sv SN SC SFs pl T z) (pbTr G w h t u v k kk r _ _ _ _ _ _ _ _ _ _ _ _ _ _ _ _ _ _).symm ?_
    refine hiret X dX7_withCrew_39 ⟨congrArg (fun z => some (Value.int z)) (?_ : ((huN n ((acT c (hcF F Ft) a1 0).2.1) (((acT c (hcF F Ft) a1 0).2.2) 18 0) (nI 1000) 1000 ((acT c (hcF F Ft) a1 0).2.2)).1) = if (acT c (hcF F Ft) a1 0).1 < 0 then (acT c (hcF F Ft) a1 0).1 else (huN n (acT c (hcF F Ft) a1 0).2.1 ((acT c (hcF F Ft) a1 0).2.2 18 0) (nI 1000) 1000 (acT c (hcF F Ft) a1 0).2.2).1), ?_⟩
    · simp only [if_neg hq]
    simp only [if_neg hq]
  · have hq : (acT c (hcF F Ft) a1 0).1 < 0 := Int32.not_le.mp c1
    refine hiload_n X dX7_withCrew_25 rfl ?_
    refine hgoto (tgt := 39) X dX7_withCrew_26 (by decide) ?_
    refine hiret X dX7_withCrew_39 ⟨congrArg (fun z => some (Value.int z)) (?_ : ((acT c (hcF F Ft) a1 0).1) = if (acT c (hcF F Ft) a1 0).1 < 0 then (acT c (hcF F Ft) a1 0).1 else (huN n (acT c (hcF F Ft) a1 0).2.1 ((acT c (hcF F Ft) a1 0).2.2 18 0) (nI 1000) 1000 (acT c (hcF F Ft) a1 0).2.2).1), ?_⟩
    · simp only [if_pos hq]
    simp only [if_pos hq]

set_option maxHeartbeats 4000000 in
set_option maxRecDepth 100000 in
theorem kX7_hoursWithDock (l : Launch) (G : hG) (w h t u v : Nat → Nat) (k kk : Nat → Nat → Nat) (r : Nat → Nat) (n c : Nat) (F : hF) (tn tc : Nat) (Ft : hF) (x y : Nat) (N C : Nat → Nat) (Fs : Nat → hF) (sv : Nat → Int32) (SN SC : Nat → Nat) (SFs : Nat → hF) (pl : Nat) (T z : Nat → Int32) (hn : n ≤ 20) (hc : c ≤ 6) (hb : F 18 1 = 0 ∨ F 18 1 = 1) (a1 : Int32) (m1 : Nat) (hm1 : m1 ≤ 1000) : hM l G yX7_hoursWithDock wsX7_hoursWithDock ({ frames := 7, cells := 0, slots := 0, locals := 176 }) (hbW G w h t u v k kk r n c F tn tc Ft x y N C Fs sv SN SC SFs pl T z) [.ref (w 0), .int a1, .int (nI m1)] (hR (some (.int ((huN n c ((chT3 (hcF F Ft) 0 a1).2 18 0) (nI m1) m1 (chT3 (hcF F Ft) 0 a1).2).1))) (hbW G w h t u v k kk r n c F n c ((huN n c ((chT3 (hcF F Ft) 0 a1).2 18 0) (nI m1) m1 (chT3 (hcF F Ft) 0 a1).2).2) x y N C Fs sv SN SC SFs pl T z)) := by
  refine hM_of (cc := cX7_hoursWithDock) (maxL := 3) (ret := (some .int)) (by decide) rfl (Nat.le_of_ble_eq_true rfl) ?_
  intro pp ee ss mm aa bb me cd X hin
  have iX7 : ∀ w ∈ wsX70, w ∈ wsX7_hoursWithDock := by decide +kernel
  refine haload_n X dX7_hoursWithDock_0 rfl ?_
  refine hget1 X (T := TX7) (N := 6) iX7 0 rfl rfl 1 (by decide) (by decide +kernel) rfl dX7_hoursWithDock_1 ?_
  refine haload_n X dX7_hoursWithDock_4 rfl ?_
  refine hget1 X (T := TX7) (N := 6) iX7 0 rfl rfl 0 (by decide) (by decide +kernel) rfl dX7_hoursWithDock_5 ?_
  refine hV_perm (ws' := (haW G h n c F ++ haW G t tn tc Ft) ++ _) (pbHt G w h t u v k kk r _ _ _ _ _ _ _ _ _ _ _ _ _ _ _ _ _ _) ?_
  refine hcallVr (C := RX1) (T := TX1) (N := 7) (As := [.ref (h 0)]) (rest := []) (st' := []) (w := haW G h n c F ++ haW G t n c (hcF F Ft)) X (q0 := 21) (kX1_copyFrom l G t h n c tn tc F Ft (by first | assumption | omega | decide)) gX7_hoursWithDock_X1_copyFrom rfl (n := 1) (by decide +kernel) (by decide) rfl rfl rfl rfl (Nat.le_of_ble_eq_true rfl) dX7_hoursWithDock_8 rfl rfl (by decide) rfl ?_
  refine hV_perm (ws' := hbW G w h t u v k kk r n c F n c (hcF F Ft) x y N C Fs sv SN SC SFs pl T z) (pbHt G w h t u v k kk r _ _ _ _ _ _ _ _ _ _ _ _ _ _ _ _ _ _).symm ?_
  refine haload_n X dX7_hoursWithDock_11 rfl ?_
  refine hget1 X (T := TX7) (N := 6) iX7 0 rfl rfl 1 (by decide) (by decide +kernel) rfl dX7_hoursWithDock_12 ?_
  refine hiconst (v := 0) X dX7_hoursWithDock_15 rfl ?_
  refine hiload_n X dX7_hoursWithDock_16 rfl ?_
  refine hV_perm (ws' := (haW G t n c (hcF F Ft)) ++ _) (pbTr G w h t u v k kk r _ _ _ _ _ _ _ _ _ _ _ _ _ _ _ _ _ _) ?_
  refine hcallVr (C := RX1) (T := TX1) (N := 7) (As := [.int 0, .int a1]) (rest := []) (st' := [.int ((chT3 (hcF F Ft) 0 a1).1)]) (w := haW G t n c ((chT3 (hcF F Ft) 0 a1).2)) X (q0 := 0) (kX1_changeSetting l G t (hcF F Ft) n c (by first | assumption | omega | decide) (by first | assumption | omega | decide) 0 a1) gX7_hoursWithDock_X1_changeSetting rfl (n := 2) (by decide +kernel) (by decide) rfl rfl rfl rfl (Nat.le_of_ble_eq_true rfl) dX7_hoursWithDock_17 rfl rfl (by decide) rfl ?_
  refine hV_perm (ws' := hbW G w h t u v k kk r n c F n c ((chT3 (hcF F Ft) 0 a1).2) x y N C Fs sv SN SC SFs pl T z) (pbTr G w h t u v k kk r _ _ _ _ _ _ _ _ _ _ _ _ _ _ _ _ _ _).symm ?_
  refine hpop X dX7_hoursWithDock_20 rfl ?_
  refine haload_n X dX7_hoursWithDock_21 rfl ?_
  refine hget1 X (T := TX7) (N := 6) iX7 0 rfl rfl 1 (by decide) (by decide +kernel) rfl dX7_hoursWithDock_22 ?_
  refine hiload_n X dX7_hoursWithDock_25 rfl ?_
  refine hV_perm (ws' := (haW G t n c ((chT3 (hcF F Ft) 0 a1).2)) ++ _) (pbTr G w h t u v k kk r _ _ _ _ _ _ _ _ _ _ _ _ _ _ _ _ _ _) ?_
  refine hcallVr (C := RX1) (T := TX1) (N := 7) (As := [.int (nI m1)]) (rest := []) (st' := [.int ((huN n c (((chT3 (hcF F Ft) 0 a1).2) 18 0) (nI m1) m1 ((chT3 (hcF F Ft) 0 a1).2)).1)]) (w := haW G t n c ((huN n c (((chT3 (hcF F Ft) 0 a1).2) 18 0) (nI m1) m1 ((chT3 (hcF F Ft) 0 a1).2)).2)) X (q0 := 0) (kX1_hoursUntilAllIn l G t ((chT3 (hcF F Ft) 0 a1).2) n c (by first | assumption | omega | decide) (by first | assumption | omega | decide) m1 (by first | assumption | omega | decide)) gX7_hoursWithDock_X1_hoursUntilAllIn rfl (n := 1) (by decide +kernel) (by decide) rfl rfl rfl rfl (Nat.le_of_ble_eq_true rfl) dX7_hoursWithDock_26 rfl rfl (by decide) rfl ?_
  refine hV_perm (ws' := hbW G w h t u v k kk r n c F n c ((huN n c (((chT3 (hcF F Ft) 0 a1).2) 18 0) (nI m1) m1 ((chT3 (hcF F Ft) 0 a1).2)).2) x y N C Fs sv SN SC SFs pl T z) (pbTr G w h t u v k kk r _ _ _ _ _ _ _ _ _ _ _ _ _ _ _ _ _ _).symm ?_
  refine hiret X dX7_hoursWithDock_29 ⟨congrArg (fun z => some (Value.int z)) (?_ : ((huN n c (((chT3 (hcF F Ft) 0 a1).2) 18 0) (nI m1) m1 ((chT3 (hcF F Ft) 0 a1).2)).1) = (huN n c ((chT3 (hcF F Ft) 0 a1).2 18 0) (nI m1) m1 (chT3 (hcF F Ft) 0 a1).2).1), ?_⟩
  · simp [*]
  rfl

