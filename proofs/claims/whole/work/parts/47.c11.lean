/-! the least dock; the orders of a text carried out -/
def hwD (n c : Nat) (F Ft : hF) (d : Int32) (m : Nat) : Int32 := (huN n c ((chT3 (hcF F Ft) 0 d).2 18 0) (nI m) m (chT3 (hcF F Ft) 0 d).2).1
def ldP (P : Nat → Int32) : Nat → Nat → Int32
  | 0, _ => 60
  | j + 1, d => if P d = -6 then ldP P j (d + 1) else nI d
def oneT (n c : Nat) (F : hF) (z : Nat → Int32) : Int32 × Nat × Nat × hF :=
  if z 2 = 43 then ((adT n F (z 3) (z 4) (z 5) (z 6)).1, (adT n F (z 3) (z 4) (z 5) (z 6)).2.1, c, (adT n F (z 3) (z 4) (z 5) (z 6)).2.2)
  else if z 2 = 99 then ((acT c F (z 3) (z 4)).1, n, (acT c F (z 3) (z 4)).2.1, (acT c F (z 3) (z 4)).2.2)
  else if z 2 = 100 then ((chT3 F 0 (z 3)).1, n, c, (chT3 F 0 (z 3)).2)
  else if z 2 = 101 then ((enT n c F).1, n, c, (enT n c F).2)
  else if z 2 = 116 then ((phT n c F (z 3)).1, n, c, (phT n c F (z 3)).2)
  else (-3, n, c, F)
theorem adT_le {n : Nat} {F : hF} {w1 w2 w3 w4 : Int32} (hn : n ≤ 20) : (adT n F w1 w2 w3 w4).2.1 ≤ 20 := by
  unfold adT
  repeat' split
  all_goals first | exact hn | (show n + 1 ≤ 20; omega)
theorem oneT_n {n c : Nat} {F : hF} {z : Nat → Int32} (hn : n ≤ 20) : (oneT n c F z).2.1 ≤ 20 := by
  unfold oneT
  split
  · exact adT_le hn
  · repeat' split
    all_goals exact hn
theorem oneT_c {n c : Nat} {F : hF} {z : Nat → Int32} (hc : c ≤ 6) : (oneT n c F z).2.2.1 ≤ 6 := by
  unfold oneT
  split
  · exact hc
  · split
    · exact acT_le hc
    · repeat' split
      all_goals exact hc
def coN (T : Nat → Int32) (pl : Nat) : Nat → Nat × Nat × Nat × hF × (Nat → Int32) → Nat × Nat × Nat × hF × (Nat → Int32)
  | 0, a => a
  | d + 1, (k, n, c, F, z) =>
    if (oneT n c F (zRO T pl z)).1 < 0 then (k, (oneT n c F (zRO T pl z)).2.1, (oneT n c F (zRO T pl z)).2.2.1, (oneT n c F (zRO T pl z)).2.2.2, zRO T pl z)
    else if zP T pl (zRO T pl z) 59 then coN T pl d (k + 1, (oneT n c F (zRO T pl z)).2.1, (oneT n c F (zRO T pl z)).2.2.1, (oneT n c F (zRO T pl z)).2.2.2, zTk T pl (zRO T pl z) 59)
    else (k + 1, (oneT n c F (zRO T pl z)).2.1, (oneT n c F (zRO T pl z)).2.2.1, (oneT n c F (zRO T pl z)).2.2.2, zTk T pl (zRO T pl z) 59)
theorem coN_lt {T : Nat → Int32} {pl d k n c : Nat} {F : hF} {z : Nat → Int32} (h : ¬ 0 ≤ (oneT n c F (zRO T pl z)).1) : coN T pl (d + 1) (k, n, c, F, z) = (k, (oneT n c F (zRO T pl z)).2.1, (oneT n c F (zRO T pl z)).2.2.1, (oneT n c F (zRO T pl z)).2.2.2, zRO T pl z) := if_pos (Int32.not_le.mp h)
theorem coN_more {T : Nat → Int32} {pl d k n c : Nat} {F : hF} {z : Nat → Int32} (h : 0 ≤ (oneT n c F (zRO T pl z)).1) (h2 : zP T pl (zRO T pl z) 59) : coN T pl (d + 1) (k, n, c, F, z) = coN T pl d (k + 1, (oneT n c F (zRO T pl z)).2.1, (oneT n c F (zRO T pl z)).2.2.1, (oneT n c F (zRO T pl z)).2.2.2, zTk T pl (zRO T pl z) 59) := (if_neg (Int32.not_lt.mpr h)).trans (if_pos h2)
theorem coN_end {T : Nat → Int32} {pl d k n c : Nat} {F : hF} {z : Nat → Int32} (h : 0 ≤ (oneT n c F (zRO T pl z)).1) (h2 : ¬ zP T pl (zRO T pl z) 59) : coN T pl (d + 1) (k, n, c, F, z) = (k + 1, (oneT n c F (zRO T pl z)).2.1, (oneT n c F (zRO T pl z)).2.2.1, (oneT n c F (zRO T pl z)).2.2.2, zTk T pl (zRO T pl z) 59) := (if_neg (Int32.not_lt.mpr h)).trans (if_neg h2)
set_option maxHeartbeats 4000000 in
set_option maxRecDepth 100000 in
theorem kX7_leastDock (l : Launch) (G : hG) (w h t u v : Nat → Nat) (k kk : Nat → Nat → Nat) (r : Nat → Nat) (n c : Nat) (F : hF) (tn tc : Nat) (Ft : hF) (x y : Nat) (N C : Nat → Nat) (Fs : Nat → hF) (sv : Nat → Int32) (SN SC : Nat → Nat) (SFs : Nat → hF) (pl : Nat) (T z : Nat → Int32) (hn : n ≤ 20) (hc : c ≤ 6) (hb : F 18 1 = 0 ∨ F 18 1 = 1) (v60 : Int32) (g : Nat) (P : Nat → Int32) (hg : g ≤ 1000) (hv : v60 = -6 ∨ v60 = nI g) (h60 : ∀ Ft, hwD n c F Ft 60 1000 = v60) (hP : v60 = nI g → ∀ d, 1 ≤ d → d < 60 → ∀ Ft, hwD n c F Ft (nI d) g = P d) : hM l G yX7_leastDock wsX7_leastDock ({ frames := 8, cells := 0, slots := 0, locals := 198 }) (hbW G w h t u v k kk r n c F tn tc Ft x y N C Fs sv SN SC SFs pl T z) [.ref (w 0)] (fun v' w' => v' = some (.int (if v60 = -6 then -6 else ldP P 59 1)) ∧ ∃ (tn' tc' : Nat) (Ft' : hF), w' = hbW G w h t u v k kk r n c F tn' tc' Ft' x y N C Fs sv SN SC SFs pl T z) := by
  refine hM_of (cc := cX7_leastDock) (maxL := 3) (ret := (some .int)) (by decide) rfl (Nat.le_of_ble_eq_true rfl) ?_
  intro pp ee ss mm aa bb me cd X hin
  have L1 : ∀ (d : Nat) (o tm te : Nat) (Fu : hF), (1 ≤ o) → (o ≤ 60) → (v60 = nI g) → (¬ v60 = -6) → (ldP P (60 - o) o = ldP P 59 1) → (60 - o) < d → hV pp l ee ({ frames := 8, cells := 0, slots := 0, locals := 198 }) ss mm aa bb me cd G (va_A (hbW G w h t u v k kk r n c F tn tc Ft x y N C Fs sv SN SC SFs pl T z) ss.heap.size) 3 0 0 (MQ bb (hQc G (hbW G w h t u v k kk r n c F tn tc Ft x y N C Fs sv SN SC SFs pl T z) ss.heap.size (fun v' w' => v' = some (.int (if v60 = -6 then -6 else ldP P 59 1)) ∧ ∃ (tn' tc' : Nat) (Ft' : hF), w' = hbW G w h t u v k kk r n c F tn' tc' Ft' x y N C Fs sv SN SC SFs pl T z)) aa ss 0 0 (va_A (hbW G w h t u v k kk r n c F tn tc Ft x y N C Fs sv SN SC SFs pl T z) ss.heap.size)) (hbW G w h t u v k kk r n c F tm te Fu x y N C Fs sv SN SC SFs pl T z) 21 [(2, .int (nI o)), (1, .int (nI g)), (0, .ref (w 0))] [] := by
    intro d
    induction d with
    | zero =>
      intro o tm te Fu hd1 hd hv0 hv6 hr hd0
      exact absurd hd0 (Nat.not_lt_zero _)
    | succ d ih =>
      intro o tm te Fu hd1 hd hv0 hv6 hr hd0
      refine hiload_n X dX7_leastDock_21 rfl ?_
      refine hbipush (v := 60) X dX7_leastDock_22 rfl ?_
      refine hicmp_ge (tgt := 46) X dX7_leastDock_24 (by decide) (fun c1 => ?_) (fun c1 => ?_)
      · have ek : 60 ≤ o := (nI_leI (a := 60) (b := o) (by decide) (by omega)).mp c1
        refine hbipush (v := 60) X dX7_leastDock_46 rfl ?_
        refine hiret X dX7_leastDock_48 ⟨congrArg (fun z => some (Value.int z)) (?_ : 60 = if v60 = -6 then -6 else ldP P 59 1), _, _, _, rfl⟩
        rw [if_neg hv6, ← hr, show 60 - o = 0 by omega]; rfl
      · have ek : o < 60 := Nat.lt_of_not_le fun z9 => c1 ((nI_leI (a := 60) (b := o) (by decide) (by omega)).mpr z9)
        refine haload_n X dX7_leastDock_27 rfl ?_
        refine hiload_n X dX7_leastDock_28 rfl ?_
        refine hiload_n X dX7_leastDock_29 rfl ?_
        refine hcallV0 (C := RX7) (T := TX7) (N := 6) (As := [.int (nI o), .int (nI g)]) (rest := []) (st' := [.int ((huN n c ((chT3 (hcF F Fu) 0 (nI o)).2 18 0) (nI g) g (chT3 (hcF F Fu) 0 (nI o)).2).1)]) (w := hbW G w h t u v k kk r n c F n c ((huN n c ((chT3 (hcF F Fu) 0 (nI o)).2 18 0) (nI g) g (chT3 (hcF F Fu) 0 (nI o)).2).2) x y N C Fs sv SN SC SFs pl T z) X (q0 := 0) (kX7_hoursWithDock l G w h t u v k kk r n c F tm te Fu x y N C Fs sv SN SC SFs pl T z (by first | assumption | omega | decide) (by first | assumption | omega | decide) (by first | assumption | omega | decide) (nI o) g (by first | assumption | omega | decide)) gX7_leastDock_X7_hoursWithDock rfl (n := 2) (by decide +kernel) (by decide) rfl rfl rfl rfl (Nat.le_of_ble_eq_true rfl) dX7_leastDock_30 rfl rfl (by decide) rfl ?_
        refine hV_st (st' := [.int (P o)]) (congrArg (fun z => ([Value.int z] : List Value)) (hP hv0 o hd1 (by omega) _)) ?_
        refine hbipush (v := (-6)) X dX7_leastDock_33 rfl ?_
        refine hicmp_eq (tgt := 40) X dX7_leastDock_35 (by decide) (fun c2 => ?_) (fun c2 => ?_)
        · refine hiinc (v := nI (o + 1)) (lv' := [(2, .int (nI (o + 1))), (1, .int (nI g)), (0, .ref (w 0))]) X dX7_leastDock_40 rfl (nI_1 _) (by decide) rfl ?_
          refine hgoto (tgt := 21) X dX7_leastDock_43 (by decide) ?_
          exact hV_to (ws' := hbW G w h t u v k kk r n c F n c ((huN n c ((chT3 (hcF F Fu) 0 (nI o)).2 18 0) (nI g) g (chT3 (hcF F Fu) 0 (nI o)).2).2) x y N C Fs sv SN SC SFs pl T z) (lv' := [(2, .int (nI (o + 1))), (1, .int (nI g)), (0, .ref (w 0))]) (st' := []) rfl rfl rfl (ih (o + 1) n c ((huN n c ((chT3 (hcF F Fu) 0 (nI o)).2 18 0) (nI g) g (chT3 (hcF F Fu) 0 (nI o)).2).2) (by omega) (by omega) hv0 hv6 (by rw [← hr, show 60 - o = (60 - (o + 1)) + 1 by omega]; exact (if_pos c2).symm) (by omega))
        · refine hiload_n X dX7_leastDock_38 rfl ?_
          refine hiret X dX7_leastDock_39 ⟨congrArg (fun z => some (Value.int z)) (?_ : (nI o) = if v60 = -6 then -6 else ldP P 59 1), _, _, _, rfl⟩
          rw [if_neg hv6, ← hr, show 60 - o = (60 - (o + 1)) + 1 by omega]; exact (if_neg c2).symm
  refine haload_n X dX7_leastDock_0 rfl ?_
  refine hbipush (v := 60) X dX7_leastDock_1 rfl ?_
  refine hsipush (v := 1000) X dX7_leastDock_3 rfl ?_
  refine hcallV0 (C := RX7) (T := TX7) (N := 6) (As := [.int 60, .int (nI 1000)]) (rest := []) (st' := [.int ((huN n c ((chT3 (hcF F Ft) 0 60).2 18 0) (nI 1000) 1000 (chT3 (hcF F Ft) 0 60).2).1)]) (w := hbW G w h t u v k kk r n c F n c ((huN n c ((chT3 (hcF F Ft) 0 60).2 18 0) (nI 1000) 1000 (chT3 (hcF F Ft) 0 60).2).2) x y N C Fs sv SN SC SFs pl T z) X (q0 := 0) (kX7_hoursWithDock l G w h t u v k kk r n c F tn tc Ft x y N C Fs sv SN SC SFs pl T z (by first | assumption | omega | decide) (by first | assumption | omega | decide) (by first | assumption | omega | decide) 60 1000 (by first | assumption | omega | decide)) gX7_leastDock_X7_hoursWithDock rfl (n := 2) (by decide +kernel) (by decide) rfl rfl rfl rfl (Nat.le_of_ble_eq_true rfl) dX7_leastDock_6 rfl rfl (by decide) rfl ?_
  refine hV_st (st' := [.int v60]) (congrArg (fun z => ([Value.int z] : List Value)) (h60 _)) ?_
  refine histore_n (lv' := [(1, .int v60), (0, .ref (w 0))]) X dX7_leastDock_9 (by decide) rfl ?_
  refine hiload_n X dX7_leastDock_10 rfl ?_
  refine hbipush (v := (-6)) X dX7_leastDock_11 rfl ?_
  refine hicmp_ne (tgt := 19) X dX7_leastDock_13 (by decide) (fun c3 => ?_) (fun c3 => ?_)
  · refine hiconst (v := 1) X dX7_leastDock_19 rfl ?_
    refine histore_n (lv' := [(2, .int 1), (1, .int v60), (0, .ref (w 0))]) X dX7_leastDock_20 (by decide) rfl ?_
    have e4 : (v60 : Int32) = nI g := by
      exact hv.resolve_left c3
    exact hV_to (ws' := hbW G w h t u v k kk r n c F n c ((huN n c ((chT3 (hcF F Ft) 0 60).2 18 0) (nI 1000) 1000 (chT3 (hcF F Ft) 0 60).2).2) x y N C Fs sv SN SC SFs pl T z) (lv' := [(2, .int 1), (1, .int (nI g)), (0, .ref (w 0))]) (st' := []) rfl (congrArg (fun v9 => ([(2, .int 1), (1, .int v9), (0, .ref (w 0))] : List (Nat × Value))) e4) rfl (L1 _ 1 n c ((huN n c ((chT3 (hcF F Ft) 0 60).2 18 0) (nI 1000) 1000 (chT3 (hcF F Ft) 0 60).2).2) (Nat.le_refl 1) (by decide) (hv.resolve_left c3) c3 rfl (Nat.lt_succ_self _))
  · refine hbipush (v := (-6)) X dX7_leastDock_16 rfl ?_
    refine hiret X dX7_leastDock_18 ⟨congrArg (fun z => some (Value.int z)) (?_ : (-6) = if v60 = -6 then -6 else ldP P 59 1), _, _, _, rfl⟩
    exact (if_pos c3).symm

set_option maxHeartbeats 4000000 in
set_option maxRecDepth 100000 in
theorem kX7_carryOutOne (l : Launch) (G : hG) (w h t u v : Nat → Nat) (k kk : Nat → Nat → Nat) (r : Nat → Nat) (n c : Nat) (F : hF) (tn tc : Nat) (Ft : hF) (x y : Nat) (N C : Nat → Nat) (Fs : Nat → hF) (sv : Nat → Int32) (SN SC : Nat → Nat) (SFs : Nat → hF) (pl : Nat) (T z : Nat → Int32) (hn : n ≤ 20) (hc : c ≤ 6)  : hM l G yX7_carryOutOne wsX7_carryOutOne ({ frames := 7, cells := 0, slots := 0, locals := 174 }) (hbW G w h t u v k kk r n c F tn tc Ft x y N C Fs sv SN SC SFs pl T z) [.ref (w 0)] (hR (some (.int ((oneT n c F z).1))) (hbW G w h t u v k kk r ((oneT n c F z).2.1) ((oneT n c F z).2.2.1) ((oneT n c F z).2.2.2) tn tc Ft x y N C Fs sv SN SC SFs pl T z)) := by
  refine hM_of (cc := cX7_carryOutOne) (maxL := 1) (ret := (some .int)) (by decide) rfl (Nat.le_of_ble_eq_true rfl) ?_
  intro pp ee ss mm aa bb me cd X hin
  have iX3 : ∀ w ∈ wsX30, w ∈ wsX7_carryOutOne := by decide +kernel
  have iX7 : ∀ w ∈ wsX70, w ∈ wsX7_carryOutOne := by decide +kernel
  refine haload_n X dX7_carryOutOne_0 rfl ?_
  refine hget1 X (T := TX7) (N := 6) iX7 0 rfl rfl 4 (by decide) (by decide +kernel) rfl dX7_carryOutOne_1 ?_
  refine hgetN X (T := TX3) (N := 8) iX3 3 rfl rfl 3 (by decide) (by decide +kernel) rfl dX7_carryOutOne_4 ?_
  by_cases sx1 : (z 2 : Int32) = 43
  · refine hlookup (off := 49) (tgt := 56) X dX7_carryOutOne_7 (by decide) (by rw [sx1]; decide) (by decide) ?_
    refine haload_n X dX7_carryOutOne_56 rfl ?_
    refine hget1 X (T := TX7) (N := 6) iX7 0 rfl rfl 0 (by decide) (by decide +kernel) rfl dX7_carryOutOne_57 ?_
    refine haload_n X dX7_carryOutOne_60 rfl ?_
    refine hget1 X (T := TX7) (N := 6) iX7 0 rfl rfl 4 (by decide) (by decide +kernel) rfl dX7_carryOutOne_61 ?_
    refine hgetN X (T := TX3) (N := 8) iX3 3 rfl rfl 4 (by decide) (by decide +kernel) rfl dX7_carryOutOne_64 ?_
    refine haload_n X dX7_carryOutOne_67 rfl ?_
    refine hget1 X (T := TX7) (N := 6) iX7 0 rfl rfl 4 (by decide) (by decide +kernel) rfl dX7_carryOutOne_68 ?_
    refine hgetN X (T := TX3) (N := 8) iX3 3 rfl rfl 5 (by decide) (by decide +kernel) rfl dX7_carryOutOne_71 ?_
    refine haload_n X dX7_carryOutOne_74 rfl ?_
    refine hget1 X (T := TX7) (N := 6) iX7 0 rfl rfl 4 (by decide) (by decide +kernel) rfl dX7_carryOutOne_75 ?_
    refine hgetN X (T := TX3) (N := 8) iX3 3 rfl rfl 6 (by decide) (by decide +kernel) rfl dX7_carryOutOne_78 ?_
    refine haload_n X dX7_carryOutOne_81 rfl ?_
    refine hget1 X (T := TX7) (N := 6) iX7 0 rfl rfl 4 (by decide) (by decide +kernel) rfl dX7_carryOutOne_82 ?_
    refine hgetN X (T := TX3) (N := 8) iX3 3 rfl rfl 7 (by decide) (by decide +kernel) rfl dX7_carryOutOne_85 ?_
    refine hV_perm (ws' := (haW G h n c F) ++ _) (pbHa G w h t u v k kk r _ _ _ _ _ _ _ _ _ _ _ _ _ _ _ _ _ _) ?_
    refine hcallVr (C := RX1) (T := TX1) (N := 7) (As := [.int (z 3), .int (z 4), .int (z 5), .int (z 6)]) (rest := []) (st' := [.int ((adT n F (z 3) (z 4) (z 5) (z 6)).1)]) (w := haW G h ((adT n F (z 3) (z 4) (z 5) (z 6)).2.1) c ((adT n F (z 3) (z 4) (z 5) (z 6)).2.2)) X (q0 := 0) (kX1_addStand l G h F n c (by first | assumption | omega) (by first | assumption | omega) (z 3) (z 4) (z 5) (z 6)) gX7_carryOutOne_X1_addStand rfl (n := 4) (by decide +kernel) (by decide) rfl rfl rfl rfl (Nat.le_of_ble_eq_true rfl) dX7_carryOutOne_88 rfl rfl (by decide) rfl ?_
    refine hV_perm (ws' := hbW G w h t u v k kk r ((adT n F (z 3) (z 4) (z 5) (z 6)).2.1) c ((adT n F (z 3) (z 4) (z 5) (z 6)).2.2) tn tc Ft x y N C Fs sv SN SC SFs pl T z) (pbHa G w h t u v k kk r _ _ _ _ _ _ _ _ _ _ _ _ _ _ _ _ _ _).symm ?_
    refine hiret X dX7_carryOutOne_91 ⟨congrArg (fun z => some (Value.int z)) (?_ : ((adT n F (z 3) (z 4) (z 5) (z 6)).1) = (oneT n c F z).1), ?_⟩
    · simp only [oneT, if_pos sx1]
    simp only [oneT, if_pos sx1]
  by_cases sx2 : (z 2 : Int32) = 99
  · refine hlookup (off := 85) (tgt := 92) X dX7_carryOutOne_7 (by decide) (by rw [sx2]; decide) (by decide) ?_
    refine haload_n X dX7_carryOutOne_92 rfl ?_
    refine hget1 X (T := TX7) (N := 6) iX7 0 rfl rfl 0 (by decide) (by decide +kernel) rfl dX7_carryOutOne_93 ?_
    refine haload_n X dX7_carryOutOne_96 rfl ?_
    refine hget1 X (T := TX7) (N := 6) iX7 0 rfl rfl 4 (by decide) (by decide +kernel) rfl dX7_carryOutOne_97 ?_
    refine hgetN X (T := TX3) (N := 8) iX3 3 rfl rfl 4 (by decide) (by decide +kernel) rfl dX7_carryOutOne_100 ?_
    refine haload_n X dX7_carryOutOne_103 rfl ?_
    refine hget1 X (T := TX7) (N := 6) iX7 0 rfl rfl 4 (by decide) (by decide +kernel) rfl dX7_carryOutOne_104 ?_
    refine hgetN X (T := TX3) (N := 8) iX3 3 rfl rfl 5 (by decide) (by decide +kernel) rfl dX7_carryOutOne_107 ?_
    refine hV_perm (ws' := (haW G h n c F) ++ _) (pbHa G w h t u v k kk r _ _ _ _ _ _ _ _ _ _ _ _ _ _ _ _ _ _) ?_
    refine hcallVr (C := RX1) (T := TX1) (N := 7) (As := [.int (z 3), .int (z 4)]) (rest := []) (st' := [.int ((acT c F (z 3) (z 4)).1)]) (w := haW G h n ((acT c F (z 3) (z 4)).2.1) ((acT c F (z 3) (z 4)).2.2)) X (q0 := 0) (kX1_addCrew l G h F n c (by first | assumption | omega) (by first | assumption | omega) (z 3) (z 4)) gX7_carryOutOne_X1_addCrew rfl (n := 2) (by decide +kernel) (by decide) rfl rfl rfl rfl (Nat.le_of_ble_eq_true rfl) dX7_carryOutOne_110 rfl rfl (by decide) rfl ?_
    refine hV_perm (ws' := hbW G w h t u v k kk r n ((acT c F (z 3) (z 4)).2.1) ((acT c F (z 3) (z 4)).2.2) tn tc Ft x y N C Fs sv SN SC SFs pl T z) (pbHa G w h t u v k kk r _ _ _ _ _ _ _ _ _ _ _ _ _ _ _ _ _ _).symm ?_
    refine hiret X dX7_carryOutOne_113 ⟨congrArg (fun z => some (Value.int z)) (?_ : ((acT c F (z 3) (z 4)).1) = (oneT n c F z).1), ?_⟩
    · simp only [oneT, if_neg sx1, if_pos sx2]
    simp only [oneT, if_neg sx1, if_pos sx2]
  by_cases sx3 : (z 2 : Int32) = 100
  · refine hlookup (off := 107) (tgt := 114) X dX7_carryOutOne_7 (by decide) (by rw [sx3]; decide) (by decide) ?_
    refine haload_n X dX7_carryOutOne_114 rfl ?_
    refine hget1 X (T := TX7) (N := 6) iX7 0 rfl rfl 0 (by decide) (by decide +kernel) rfl dX7_carryOutOne_115 ?_
    refine hiconst (v := 0) X dX7_carryOutOne_118 rfl ?_
    refine haload_n X dX7_carryOutOne_119 rfl ?_
    refine hget1 X (T := TX7) (N := 6) iX7 0 rfl rfl 4 (by decide) (by decide +kernel) rfl dX7_carryOutOne_120 ?_
    refine hgetN X (T := TX3) (N := 8) iX3 3 rfl rfl 4 (by decide) (by decide +kernel) rfl dX7_carryOutOne_123 ?_
    refine hV_perm (ws' := (haW G h n c F) ++ _) (pbHa G w h t u v k kk r _ _ _ _ _ _ _ _ _ _ _ _ _ _ _ _ _ _) ?_
    refine hcallVr (C := RX1) (T := TX1) (N := 7) (As := [.int 0, .int (z 3)]) (rest := []) (st' := [.int ((chT3 F 0 (z 3)).1)]) (w := haW G h n c ((chT3 F 0 (z 3)).2)) X (q0 := 0) (kX1_changeSetting l G h F n c (by first | assumption | omega) (by first | assumption | omega) 0 (z 3)) gX7_carryOutOne_X1_changeSetting rfl (n := 2) (by decide +kernel) (by decide) rfl rfl rfl rfl (Nat.le_of_ble_eq_true rfl) dX7_carryOutOne_126 rfl rfl (by decide) rfl ?_
    refine hV_perm (ws' := hbW G w h t u v k kk r n c ((chT3 F 0 (z 3)).2) tn tc Ft x y N C Fs sv SN SC SFs pl T z) (pbHa G w h t u v k kk r _ _ _ _ _ _ _ _ _ _ _ _ _ _ _ _ _ _).symm ?_
    refine hiret X dX7_carryOutOne_129 ⟨congrArg (fun z => some (Value.int z)) (?_ : ((chT3 F 0 (z 3)).1) = (oneT n c F z).1), ?_⟩
    · simp only [oneT, if_neg sx1, if_neg sx2, if_pos sx3]
    simp only [oneT, if_neg sx1, if_neg sx2, if_pos sx3]
  by_cases sx4 : (z 2 : Int32) = 101
  · refine hlookup (off := 138) (tgt := 145) X dX7_carryOutOne_7 (by decide) (by rw [sx4]; decide) (by decide) ?_
    refine haload_n X dX7_carryOutOne_145 rfl ?_
    refine hget1 X (T := TX7) (N := 6) iX7 0 rfl rfl 0 (by decide) (by decide +kernel) rfl dX7_carryOutOne_146 ?_
    refine hV_perm (ws' := (haW G h n c F) ++ _) (pbHa G w h t u v k kk r _ _ _ _ _ _ _ _ _ _ _ _ _ _ _ _ _ _) ?_
    refine hcallVr (C := RX1) (T := TX1) (N := 7) (As := []) (rest := []) (st' := [.int ((enT n c F).1)]) (w := haW G h n c ((enT n c F).2)) X (q0 := 0) (kX1_endFair l G h F n c (by first | assumption | omega) (by first | assumption | omega)) gX7_carryOutOne_X1_endFair rfl (n := 0) (by decide +kernel) (by decide) rfl rfl rfl rfl (Nat.le_of_ble_eq_true rfl) dX7_carryOutOne_149 rfl rfl (by decide) rfl ?_
    refine hV_perm (ws' := hbW G w h t u v k kk r n c ((enT n c F).2) tn tc Ft x y N C Fs sv SN SC SFs pl T z) (pbHa G w h t u v k kk r _ _ _ _ _ _ _ _ _ _ _ _ _ _ _ _ _ _).symm ?_
    refine hiret X dX7_carryOutOne_152 ⟨congrArg (fun z => some (Value.int z)) (?_ : ((enT n c F).1) = (oneT n c F z).1), ?_⟩
    · simp only [oneT, if_neg sx1, if_neg sx2, if_neg sx3, if_pos sx4]
    simp only [oneT, if_neg sx1, if_neg sx2, if_neg sx3, if_pos sx4]
  by_cases sx5 : (z 2 : Int32) = 116
  · refine hlookup (off := 123) (tgt := 130) X dX7_carryOutOne_7 (by decide) (by rw [sx5]; decide) (by decide) ?_
    refine haload_n X dX7_carryOutOne_130 rfl ?_
    refine hget1 X (T := TX7) (N := 6) iX7 0 rfl rfl 0 (by decide) (by decide +kernel) rfl dX7_carryOutOne_131 ?_
    refine haload_n X dX7_carryOutOne_134 rfl ?_
    refine hget1 X (T := TX7) (N := 6) iX7 0 rfl rfl 4 (by decide) (by decide +kernel) rfl dX7_carryOutOne_135 ?_
    refine hgetN X (T := TX3) (N := 8) iX3 3 rfl rfl 4 (by decide) (by decide +kernel) rfl dX7_carryOutOne_138 ?_
    refine hV_perm (ws' := (haW G h n c F) ++ _) (pbHa G w h t u v k kk r _ _ _ _ _ _ _ _ _ _ _ _ _ _ _ _ _ _) ?_
    refine hcallVr (C := RX1) (T := TX1) (N := 7) (As := [.int (z 3)]) (rest := []) (st' := [.int ((phT n c F (z 3)).1)]) (w := haW G h n c ((phT n c F (z 3)).2)) X (q0 := 0) (kX1_passHours l G h F n c (by first | assumption | omega) (by first | assumption | omega) (z 3)) gX7_carryOutOne_X1_passHours rfl (n := 1) (by decide +kernel) (by decide) rfl rfl rfl rfl (Nat.le_of_ble_eq_true rfl) dX7_carryOutOne_141 rfl rfl (by decide) rfl ?_
    refine hV_perm (ws' := hbW G w h t u v k kk r n c ((phT n c F (z 3)).2) tn tc Ft x y N C Fs sv SN SC SFs pl T z) (pbHa G w h t u v k kk r _ _ _ _ _ _ _ _ _ _ _ _ _ _ _ _ _ _).symm ?_
    refine hiret X dX7_carryOutOne_144 ⟨congrArg (fun z => some (Value.int z)) (?_ : ((phT n c F (z 3)).1) = (oneT n c F z).1), ?_⟩
    · simp only [oneT, if_neg sx1, if_neg sx2, if_neg sx3, if_neg sx4, if_pos sx5]
    simp only [oneT, if_neg sx1, if_neg sx2, if_neg sx3, if_neg sx4, if_pos sx5]
  refine hlookup (off := 146) (tgt := 153) X dX7_carryOutOne_7 (by decide) (by show Op.lookupswitch.offset [(43, 49), (99, 85), (100, 107), (101, 138), (116, 123)] (146) _ = (146); rw [lv_osw sx1 (by decide), lv_osw sx2 (by decide), lv_osw sx3 (by decide), lv_osw sx4 (by decide), lv_osw sx5 (by decide)]; rfl) (by decide) ?_
  refine hbipush (v := (-3)) X dX7_carryOutOne_153 rfl ?_
  refine hiret X dX7_carryOutOne_155 ⟨congrArg (fun z => some (Value.int z)) (?_ : (-3) = (oneT n c F z).1), ?_⟩
  · simp only [oneT, if_neg sx1, if_neg sx2, if_neg sx3, if_neg sx4, if_neg sx5]
  simp only [oneT, if_neg sx1, if_neg sx2, if_neg sx3, if_neg sx4, if_neg sx5]

set_option maxHeartbeats 4000000 in
set_option maxRecDepth 100000 in
theorem kX7_carryOut_bad (l : Launch) (G : hG) (w h t u v : Nat → Nat) (k kk : Nat → Nat → Nat) (r : Nat → Nat) (n c : Nat) (F : hF) (tn tc : Nat) (Ft : hF) (x y : Nat) (N C : Nat → Nat) (Fs : Nat → hF) (sv : Nat → Int32) (SN SC : Nat → Nat) (SFs : Nat → hF) (pl : Nat) (T z : Nat → Int32) (hn : n ≤ 20) (hc : c ≤ 6) (hx : x < 7) (hy : y ≤ 6) (hb : F 18 1 = 0 ∨ F 18 1 = 1) (hpl : pl ≤ 80) (hT : ∀ i, narrow .char (.int (T i)) = .int (T i)) (hq : ¬ vFF T pl z = -6) : hM l G yX7_carryOut wsX7_carryOut ({ frames := 8, cells := 0, slots := 0, locals := 194 }) (hbW G w h t u v k kk r n c F tn tc Ft x y N C Fs sv SN SC SFs pl T z) [.ref (w 0)] (hR (some (.int (-3))) (hbW G w h t u v k kk r n c F tn tc Ft x y N C Fs sv SN SC SFs pl T (zFF T pl 80 (zS0 z)))) := by
  refine hM_of (cc := cX7_carryOut) (maxL := 3) (ret := (some .int)) (by decide) rfl (Nat.le_of_ble_eq_true rfl) ?_
  intro pp ee ss mm aa bb me cd X hin
  have iX7 : ∀ w ∈ wsX70, w ∈ wsX7_carryOut := by decide +kernel
  refine haload_n X dX7_carryOut_0 rfl ?_
  refine hget1 X (T := TX7) (N := 6) iX7 0 rfl rfl 4 (by decide) (by decide +kernel) rfl dX7_carryOut_1 ?_
  refine hV_perm (ws' := (rdW G r pl T z) ++ _) (pbRd G w h t u v k kk r _ _ _ _ _ _ _ _ _ _ _ _ _ _ _ _ _ _) ?_
  refine hcallVr (C := RX3) (T := TX3) (N := 8) (As := []) (rest := []) (st' := [.int (vFF T pl z)]) (w := rdW G r pl T (zFF T pl 80 (zS0 z))) X (q0 := 0) (kX3_findFault l G r T z pl (by first | assumption | omega) (by first | assumption | omega)) gX7_carryOut_X3_findFault rfl (n := 0) (by decide +kernel) (by decide) rfl rfl rfl rfl (Nat.le_of_ble_eq_true rfl) dX7_carryOut_4 rfl rfl (by decide) rfl ?_
  refine hV_perm (ws' := hbW G w h t u v k kk r n c F tn tc Ft x y N C Fs sv SN SC SFs pl T (zFF T pl 80 (zS0 z))) (pbRd G w h t u v k kk r _ _ _ _ _ _ _ _ _ _ _ _ _ _ _ _ _ _).symm ?_
  refine hbipush (v := (-6)) X dX7_carryOut_7 rfl ?_
  refine hicmp_eq (tgt := 15) X dX7_carryOut_9 (by decide) (fun c1 => ?_) (fun c1 => ?_)
  · exact (hq c1).elim
  · refine hbipush (v := (-3)) X dX7_carryOut_12 rfl ?_
    refine hiret X dX7_carryOut_14 ⟨rfl, ?_⟩
    rfl

set_option maxHeartbeats 4000000 in
set_option maxRecDepth 100000 in
theorem kX7_carryOut (l : Launch) (G : hG) (w h t u v : Nat → Nat) (k kk : Nat → Nat → Nat) (r : Nat → Nat) (n c : Nat) (F : hF) (tn tc : Nat) (Ft : hF) (x y : Nat) (N C : Nat → Nat) (Fs : Nat → hF) (sv : Nat → Int32) (SN SC : Nat → Nat) (SFs : Nat → hF) (pl : Nat) (T z : Nat → Int32) (hn : n ≤ 20) (hc : c ≤ 6) (hx : x < 7) (hy : y ≤ 6) (hb : F 18 1 = 0 ∨ F 18 1 = 1) (hpl : pl ≤ 80) (hT : ∀ i, narrow .char (.int (T i)) = .int (T i)) (hq : vFF T pl z = -6) : hM l G yX7_carryOut wsX7_carryOut ({ frames := 8, cells := 0, slots := 0, locals := 194 }) (hbW G w h t u v k kk r n c F tn tc Ft x y N C Fs sv SN SC SFs pl T z) [.ref (w 0)] (hR (some (.int (nI (coN T pl 80 (0, n, c, F, zS0 (zFF T pl 80 (zS0 z)))).1))) (hbW G w h t u v k kk r ((coN T pl 80 (0, n, c, F, zS0 (zFF T pl 80 (zS0 z)))).2.1) ((coN T pl 80 (0, n, c, F, zS0 (zFF T pl 80 (zS0 z)))).2.2.1) ((coN T pl 80 (0, n, c, F, zS0 (zFF T pl 80 (zS0 z)))).2.2.2.1) tn tc Ft (rgN (nI (coN T pl 80 (0, n, c, F, zS0 (zFF T pl 80 (zS0 z)))).1) x) (rgK (nI (coN T pl 80 (0, n, c, F, zS0 (zFF T pl 80 (zS0 z)))).1) y) (up N x n) (up C x c) (up Fs x (hcF F (Fs x))) sv SN SC SFs 0 T ((coN T pl 80 (0, n, c, F, zS0 (zFF T pl 80 (zS0 z)))).2.2.2.2))) := by
  refine hM_of (cc := cX7_carryOut) (maxL := 3) (ret := (some .int)) (by decide) rfl (Nat.le_of_ble_eq_true rfl) ?_
  intro pp ee ss mm aa bb me cd X hin
  have iX7 : ∀ w ∈ wsX70, w ∈ wsX7_carryOut := by decide +kernel
  have L2 : ∀ (kd n8 c8 : Nat) (F8 : hF) (z8 : Nat → Int32), (kd ≤ 80) → (coN T pl 80 (0, n, c, F, zS0 (zFF T pl 80 (zS0 z))) = (kd, n8, c8, F8, z8)) → hV pp l ee ({ frames := 8, cells := 0, slots := 0, locals := 194 }) ss mm aa bb me cd G (va_A (hbW G w h t u v k kk r n c F tn tc Ft x y N C Fs sv SN SC SFs pl T z) ss.heap.size) 3 0 0 (MQ bb (hQc G (hbW G w h t u v k kk r n c F tn tc Ft x y N C Fs sv SN SC SFs pl T z) ss.heap.size (hR (some (.int (nI (coN T pl 80 (0, n, c, F, zS0 (zFF T pl 80 (zS0 z)))).1))) (hbW G w h t u v k kk r ((coN T pl 80 (0, n, c, F, zS0 (zFF T pl 80 (zS0 z)))).2.1) ((coN T pl 80 (0, n, c, F, zS0 (zFF T pl 80 (zS0 z)))).2.2.1) ((coN T pl 80 (0, n, c, F, zS0 (zFF T pl 80 (zS0 z)))).2.2.2.1) tn tc Ft (rgN (nI (coN T pl 80 (0, n, c, F, zS0 (zFF T pl 80 (zS0 z)))).1) x) (rgK (nI (coN T pl 80 (0, n, c, F, zS0 (zFF T pl 80 (zS0 z)))).1) y) (up N x n) (up C x c) (up Fs x (hcF F (Fs x))) sv SN SC SFs 0 T ((coN T pl 80 (0, n, c, F, zS0 (zFF T pl 80 (zS0 z)))).2.2.2.2)))) aa ss 0 0 (va_A (hbW G w h t u v k kk r n c F tn tc Ft x y N C Fs sv SN SC SFs pl T z) ss.heap.size)) (hbW G w h t u v k kk r n8 c8 F8 tn tc Ft x y (up N x n) (up C x c) (up Fs x (hcF F (Fs x))) sv SN SC SFs pl T z8) 84 [(1, .int (nI kd)), (0, .ref (w 0))] [] := by
    intro kd n8 c8 F8 z8 hk hE
    refine haload_n X dX7_carryOut_84 rfl ?_
    refine hget1 X (T := TX7) (N := 6) iX7 0 rfl rfl 5 (by decide) (by decide +kernel) rfl dX7_carryOut_85 ?_
    refine hV_perm (ws' := (pdW G r pl T) ++ _) (pbPd G w h t u v k kk r _ _ _ _ _ _ _ _ _ _ _ _ _ _ _ _ _ _) ?_
    refine hcallVr (C := RX4) (T := TX4) (N := 2) (As := []) (rest := []) (st' := [.int (nI pl)]) (w := pdW G r 0 T) X (q0 := 0) (kX4_clear l G r T pl) gX7_carryOut_X4_clear rfl (n := 0) (by decide +kernel) (by decide) rfl rfl rfl rfl (Nat.le_of_ble_eq_true rfl) dX7_carryOut_88 rfl rfl (by decide) rfl ?_
    refine hV_perm (ws' := hbW G w h t u v k kk r n8 c8 F8 tn tc Ft x y (up N x n) (up C x c) (up Fs x (hcF F (Fs x))) sv SN SC SFs 0 T z8) (pbPd G w h t u v k kk r _ _ _ _ _ _ _ _ _ _ _ _ _ _ _ _ _ _).symm ?_
    refine hpop X dX7_carryOut_91 rfl ?_
    refine haload_n X dX7_carryOut_92 rfl ?_
    refine hget1 X (T := TX7) (N := 6) iX7 0 rfl rfl 2 (by decide) (by decide +kernel) rfl dX7_carryOut_93 ?_
    refine hiload_n X dX7_carryOut_96 rfl ?_
    refine hV_perm (ws' := (hsW G u k h x y (up N x n) (up C x c) (up Fs x (hcF F (Fs x))) n8 c8 F8) ++ _) (pbHs G w h t u v k kk r _ _ _ _ _ _ _ _ _ _ _ _ _ _ _ _ _ _) ?_
    refine hcallVr (C := RX2) (T := TX2) (N := 3) (As := [.int (nI kd)]) (rest := []) (st' := [.int (nI kd)]) (w := hsW G u k h (rgN (nI kd) x) (rgK (nI kd) y) (up N x n) (up C x c) (up Fs x (hcF F (Fs x))) n8 c8 F8) X (q0 := 0) (kX2_settle l G u k h x y (up N x n) (up C x c) (up Fs x (hcF F (Fs x))) n8 c8 F8 (by first | assumption | omega | decide | exact zRO_ok hpl hz8) (by first | assumption | omega | decide | exact zRO_ok hpl hz8) (nI kd)) gX7_carryOut_X2_settle rfl (n := 1) (by decide +kernel) (by decide) rfl rfl rfl rfl (Nat.le_of_ble_eq_true rfl) dX7_carryOut_97 rfl rfl (by decide) rfl ?_
    refine hV_perm (ws' := hbW G w h t u v k kk r n8 c8 F8 tn tc Ft (rgN (nI kd) x) (rgK (nI kd) y) (up N x n) (up C x c) (up Fs x (hcF F (Fs x))) sv SN SC SFs 0 T z8) (pbHs G w h t u v k kk r _ _ _ _ _ _ _ _ _ _ _ _ _ _ _ _ _ _).symm ?_
    refine hiret X dX7_carryOut_100 ⟨congrArg (fun z => some (Value.int z)) (?_ : (nI kd) = nI (coN T pl 80 (0, n, c, F, zS0 (zFF T pl 80 (zS0 z)))).1), ?_⟩
    · rw [hE]
    rw [hE]
  have L1 : ∀ (d : Nat) (o kd n8 c8 : Nat) (F8 : hF) (z8 : Nat → Int32), (o ≤ 80) → (kd ≤ o) → (n8 ≤ 20) → (c8 ≤ 6) → (zOk pl z8) → (coN T pl (80 - o) (kd, n8, c8, F8, z8) = coN T pl 80 (0, n, c, F, zS0 (zFF T pl 80 (zS0 z)))) → (80 - o) < d → hV pp l ee ({ frames := 8, cells := 0, slots := 0, locals := 194 }) ss mm aa bb me cd G (va_A (hbW G w h t u v k kk r n c F tn tc Ft x y N C Fs sv SN SC SFs pl T z) ss.heap.size) 3 0 0 (MQ bb (hQc G (hbW G w h t u v k kk r n c F tn tc Ft x y N C Fs sv SN SC SFs pl T z) ss.heap.size (hR (some (.int (nI (coN T pl 80 (0, n, c, F, zS0 (zFF T pl 80 (zS0 z)))).1))) (hbW G w h t u v k kk r ((coN T pl 80 (0, n, c, F, zS0 (zFF T pl 80 (zS0 z)))).2.1) ((coN T pl 80 (0, n, c, F, zS0 (zFF T pl 80 (zS0 z)))).2.2.1) ((coN T pl 80 (0, n, c, F, zS0 (zFF T pl 80 (zS0 z)))).2.2.2.1) tn tc Ft (rgN (nI (coN T pl 80 (0, n, c, F, zS0 (zFF T pl 80 (zS0 z)))).1) x) (rgK (nI (coN T pl 80 (0, n, c, F, zS0 (zFF T pl 80 (zS0 z)))).1) y) (up N x n) (up C x c) (up Fs x (hcF F (Fs x))) sv SN SC SFs 0 T ((coN T pl 80 (0, n, c, F, zS0 (zFF T pl 80 (zS0 z)))).2.2.2.2)))) aa ss 0 0 (va_A (hbW G w h t u v k kk r n c F tn tc Ft x y N C Fs sv SN SC SFs pl T z) ss.heap.size)) (hbW G w h t u v k kk r n8 c8 F8 tn tc Ft x y (up N x n) (up C x c) (up Fs x (hcF F (Fs x))) sv SN SC SFs pl T z8) 37 [(2, .int (nI o)), (1, .int (nI kd)), (0, .ref (w 0))] [] := by
    intro d
    induction d with
    | zero =>
      intro o kd n8 c8 F8 z8 ho hk hn8 hc8 hz8 hr hd0
      exact absurd hd0 (Nat.not_lt_zero _)
    | succ d ih =>
      intro o kd n8 c8 F8 z8 ho hk hn8 hc8 hz8 hr hd0
      refine hiload_n X dX7_carryOut_37 rfl ?_
      refine hbipush (v := 80) X dX7_carryOut_38 rfl ?_
      refine hicmp_ge (tgt := 84) X dX7_carryOut_40 (by decide) (fun c1 => ?_) (fun c1 => ?_)
      · have ek : 80 ≤ o := (nI_leI (a := 80) (b := o) (by decide) (by omega)).mp c1
        refine hV_lv (lv' := [(1, .int (nI kd)), (0, .ref (w 0))]) [1, 2] rfl ?_
        exact hV_to (ws' := hbW G w h t u v k kk r n8 c8 F8 tn tc Ft x y (up N x n) (up C x c) (up Fs x (hcF F (Fs x))) sv SN SC SFs pl T z8) (lv' := [(1, .int (nI kd)), (0, .ref (w 0))]) (st' := []) rfl rfl rfl (L2 kd n8 c8 F8 z8 (by omega) (by rw [← hr, show 80 - o = 0 by omega]; rfl))
      · have ek : o < 80 := Nat.lt_of_not_le fun z9 => c1 ((nI_leI (a := 80) (b := o) (by decide) (by omega)).mpr z9)
        refine haload_n X dX7_carryOut_43 rfl ?_
        refine hget1 X (T := TX7) (N := 6) iX7 0 rfl rfl 4 (by decide) (by decide +kernel) rfl dX7_carryOut_44 ?_
        refine hV_perm (ws' := (rdW G r pl T z8) ++ _) (pbRd G w h t u v k kk r _ _ _ _ _ _ _ _ _ _ _ _ _ _ _ _ _ _) ?_
        refine hcallVr (C := RX3) (T := TX3) (N := 8) (As := []) (rest := []) (st' := []) (w := rdW G r pl T (zRO T pl z8)) X (q0 := 0) (kX3_readOrder l G r T z8 pl (by first | assumption | omega | decide | exact zRO_ok hpl hz8) (by first | assumption | omega | decide | exact zRO_ok hpl hz8) (by first | assumption | omega | decide | exact zRO_ok hpl hz8)) gX7_carryOut_X3_readOrder rfl (n := 0) (by decide +kernel) (by decide) rfl rfl rfl rfl (Nat.le_of_ble_eq_true rfl) dX7_carryOut_47 rfl rfl (by decide) rfl ?_
        refine hV_perm (ws' := hbW G w h t u v k kk r n8 c8 F8 tn tc Ft x y (up N x n) (up C x c) (up Fs x (hcF F (Fs x))) sv SN SC SFs pl T (zRO T pl z8)) (pbRd G w h t u v k kk r _ _ _ _ _ _ _ _ _ _ _ _ _ _ _ _ _ _).symm ?_
        refine haload_n X dX7_carryOut_50 rfl ?_
        refine hcallV0 (C := RX7) (T := TX7) (N := 6) (As := []) (rest := []) (st' := [.int ((oneT n8 c8 F8 (zRO T pl z8)).1)]) (w := hbW G w h t u v k kk r ((oneT n8 c8 F8 (zRO T pl z8)).2.1) ((oneT n8 c8 F8 (zRO T pl z8)).2.2.1) ((oneT n8 c8 F8 (zRO T pl z8)).2.2.2) tn tc Ft x y (up N x n) (up C x c) (up Fs x (hcF F (Fs x))) sv SN SC SFs pl T (zRO T pl z8)) X (q0 := 0) (kX7_carryOutOne l G w h t u v k kk r n8 c8 F8 tn tc Ft x y (up N x n) (up C x c) (up Fs x (hcF F (Fs x))) sv SN SC SFs pl T (zRO T pl z8) (by first | assumption | omega | decide | exact zRO_ok hpl hz8) (by first | assumption | omega | decide | exact zRO_ok hpl hz8)) gX7_carryOut_X7_carryOutOne rfl (n := 0) (by decide +kernel) (by decide) rfl rfl rfl rfl (Nat.le_of_ble_eq_true rfl) dX7_carryOut_51 rfl rfl (by decide) rfl ?_
        refine hif_ge (tgt := 60) X dX7_carryOut_54 (by decide) (fun c2 => ?_) (fun c2 => ?_)
        · refine hiinc (v := nI (kd + 1)) (lv' := [(1, .int (nI (kd + 1))), (2, .int (nI o)), (0, .ref (w 0))]) X dX7_carryOut_60 rfl (nI_1 _) (by decide) rfl ?_
          refine haload_n X dX7_carryOut_63 rfl ?_
          refine hget1 X (T := TX7) (N := 6) iX7 0 rfl rfl 4 (by decide) (by decide +kernel) rfl dX7_carryOut_64 ?_
          refine hbipush (v := 59) X dX7_carryOut_67 rfl ?_
          refine hV_perm (ws' := (rdW G r pl T (zRO T pl z8)) ++ _) (pbRd G w h t u v k kk r _ _ _ _ _ _ _ _ _ _ _ _ _ _ _ _ _ _) ?_
          refine hcallVr (C := RX3) (T := TX3) (N := 8) (As := [.int 59]) (rest := []) (st' := [.int (bI (zP T pl (zRO T pl z8) 59))]) (w := rdW G r pl T (zTk T pl (zRO T pl z8) 59)) X (q0 := 0) (kX3_takeZ l G r T (zRO T pl z8) pl 59 (by first | assumption | omega | decide | exact zRO_ok hpl hz8) (by first | assumption | omega | decide | exact zRO_ok hpl hz8) (by first | assumption | omega | decide | exact zRO_ok hpl hz8)) gX7_carryOut_X3_take rfl (n := 1) (by decide +kernel) (by decide) rfl rfl rfl rfl (Nat.le_of_ble_eq_true rfl) dX7_carryOut_69 rfl rfl (by decide) rfl ?_
          refine hV_perm (ws' := hbW G w h t u v k kk r ((oneT n8 c8 F8 (zRO T pl z8)).2.1) ((oneT n8 c8 F8 (zRO T pl z8)).2.2.1) ((oneT n8 c8 F8 (zRO T pl z8)).2.2.2) tn tc Ft x y (up N x n) (up C x c) (up Fs x (hcF F (Fs x))) sv SN SC SFs pl T (zTk T pl (zRO T pl z8) 59)) (pbRd G w h t u v k kk r _ _ _ _ _ _ _ _ _ _ _ _ _ _ _ _ _ _).symm ?_
          refine hif_neB (tgt := 78) X dX7_carryOut_72 (by decide) (fun c3 => ?_) (fun c3 => ?_)
          · refine hiinc (v := nI (o + 1)) (lv' := [(2, .int (nI (o + 1))), (1, .int (nI (kd + 1))), (0, .ref (w 0))]) X dX7_carryOut_78 rfl (nI_1 _) (by decide) rfl ?_
            refine hgoto (tgt := 37) X dX7_carryOut_81 (by decide) ?_
            exact hV_to (ws' := hbW G w h t u v k kk r ((oneT n8 c8 F8 (zRO T pl z8)).2.1) ((oneT n8 c8 F8 (zRO T pl z8)).2.2.1) ((oneT n8 c8 F8 (zRO T pl z8)).2.2.2) tn tc Ft x y (up N x n) (up C x c) (up Fs x (hcF F (Fs x))) sv SN SC SFs pl T (zTk T pl (zRO T pl z8) 59)) (lv' := [(2, .int (nI (o + 1))), (1, .int (nI (kd + 1))), (0, .ref (w 0))]) (st' := []) rfl rfl rfl (ih (o + 1) (kd + 1) ((oneT n8 c8 F8 (zRO T pl z8)).2.1) ((oneT n8 c8 F8 (zRO T pl z8)).2.2.1) ((oneT n8 c8 F8 (zRO T pl z8)).2.2.2) (zTk T pl (zRO T pl z8) 59) (by omega) (by omega) (oneT_n hn8) (oneT_c hc8) (zTk_ok hpl (by decide) (zRO_ok hpl hz8)) (by rw [← hr, show 80 - o = (80 - (o + 1)) + 1 by omega]; exact (coN_more c2 c3).symm) (by omega))
          · refine hgoto (tgt := 84) X dX7_carryOut_75 (by decide) ?_
            refine hV_lv (lv' := [(1, .int (nI (kd + 1))), (0, .ref (w 0))]) [0, 2] rfl ?_
            exact hV_to (ws' := hbW G w h t u v k kk r ((oneT n8 c8 F8 (zRO T pl z8)).2.1) ((oneT n8 c8 F8 (zRO T pl z8)).2.2.1) ((oneT n8 c8 F8 (zRO T pl z8)).2.2.2) tn tc Ft x y (up N x n) (up C x c) (up Fs x (hcF F (Fs x))) sv SN SC SFs pl T (zTk T pl (zRO T pl z8) 59)) (lv' := [(1, .int (nI (kd + 1))), (0, .ref (w 0))]) (st' := []) rfl rfl rfl (L2 (kd + 1) ((oneT n8 c8 F8 (zRO T pl z8)).2.1) ((oneT n8 c8 F8 (zRO T pl z8)).2.2.1) ((oneT n8 c8 F8 (zRO T pl z8)).2.2.2) (zTk T pl (zRO T pl z8) 59) (by omega) (by rw [← hr, show 80 - o = (80 - (o + 1)) + 1 by omega]; exact coN_end c2 c3))
        · refine hgoto (tgt := 84) X dX7_carryOut_57 (by decide) ?_
          refine hV_lv (lv' := [(1, .int (nI kd)), (0, .ref (w 0))]) [1, 2] rfl ?_
          exact hV_to (ws' := hbW G w h t u v k kk r ((oneT n8 c8 F8 (zRO T pl z8)).2.1) ((oneT n8 c8 F8 (zRO T pl z8)).2.2.1) ((oneT n8 c8 F8 (zRO T pl z8)).2.2.2) tn tc Ft x y (up N x n) (up C x c) (up Fs x (hcF F (Fs x))) sv SN SC SFs pl T (zRO T pl z8)) (lv' := [(1, .int (nI kd)), (0, .ref (w 0))]) (st' := []) rfl rfl rfl (L2 kd ((oneT n8 c8 F8 (zRO T pl z8)).2.1) ((oneT n8 c8 F8 (zRO T pl z8)).2.2.1) ((oneT n8 c8 F8 (zRO T pl z8)).2.2.2) (zRO T pl z8) (by omega) (by rw [← hr, show 80 - o = (80 - (o + 1)) + 1 by omega]; exact coN_lt c2))
  refine haload_n X dX7_carryOut_0 rfl ?_
  refine hget1 X (T := TX7) (N := 6) iX7 0 rfl rfl 4 (by decide) (by decide +kernel) rfl dX7_carryOut_1 ?_
  refine hV_perm (ws' := (rdW G r pl T z) ++ _) (pbRd G w h t u v k kk r _ _ _ _ _ _ _ _ _ _ _ _ _ _ _ _ _ _) ?_
  refine hcallVr (C := RX3) (T := TX3) (N := 8) (As := []) (rest := []) (st' := [.int (vFF T pl z)]) (w := rdW G r pl T (zFF T pl 80 (zS0 z))) X (q0 := 0) (kX3_findFault l G r T z pl (by first | assumption | omega | decide | exact zRO_ok hpl hz8) (by first | assumption | omega | decide | exact zRO_ok hpl hz8)) gX7_carryOut_X3_findFault rfl (n := 0) (by decide +kernel) (by decide) rfl rfl rfl rfl (Nat.le_of_ble_eq_true rfl) dX7_carryOut_4 rfl rfl (by decide) rfl ?_
  refine hV_perm (ws' := hbW G w h t u v k kk r n c F tn tc Ft x y N C Fs sv SN SC SFs pl T (zFF T pl 80 (zS0 z))) (pbRd G w h t u v k kk r _ _ _ _ _ _ _ _ _ _ _ _ _ _ _ _ _ _).symm ?_
  refine hbipush (v := (-6)) X dX7_carryOut_7 rfl ?_
  refine hicmp_eq (tgt := 15) X dX7_carryOut_9 (by decide) (fun c4 => ?_) (fun c4 => ?_)
  · refine haload_n X dX7_carryOut_15 rfl ?_
    refine hget1 X (T := TX7) (N := 6) iX7 0 rfl rfl 2 (by decide) (by decide +kernel) rfl dX7_carryOut_16 ?_
    refine haload_n X dX7_carryOut_19 rfl ?_
    refine hget1 X (T := TX7) (N := 6) iX7 0 rfl rfl 0 (by decide) (by decide +kernel) rfl dX7_carryOut_20 ?_
    refine hV_perm (ws' := (hsW G u k h x y N C Fs n c F) ++ _) (pbHs G w h t u v k kk r _ _ _ _ _ _ _ _ _ _ _ _ _ _ _ _ _ _) ?_
    refine hcallVr (C := RX2) (T := TX2) (N := 3) (As := [.ref (h 0)]) (rest := []) (st' := []) (w := hsW G u k h x y (up N x n) (up C x c) (up Fs x (hcF F (Fs x))) n c F) X (q0 := 0) (kX2_prepare l G u k h x y N C Fs n c F (by first | assumption | omega | decide | exact zRO_ok hpl hz8) (by first | assumption | omega | decide | exact zRO_ok hpl hz8) (by first | assumption | omega | decide | exact zRO_ok hpl hz8)) gX7_carryOut_X2_prepare rfl (n := 1) (by decide +kernel) (by decide) rfl rfl rfl rfl (Nat.le_of_ble_eq_true rfl) dX7_carryOut_23 rfl rfl (by decide) rfl ?_
    refine hV_perm (ws' := hbW G w h t u v k kk r n c F tn tc Ft x y (up N x n) (up C x c) (up Fs x (hcF F (Fs x))) sv SN SC SFs pl T (zFF T pl 80 (zS0 z))) (pbHs G w h t u v k kk r _ _ _ _ _ _ _ _ _ _ _ _ _ _ _ _ _ _).symm ?_
    refine hiconst (v := 0) X dX7_carryOut_26 rfl ?_
    refine histore_n (lv' := [(1, .int 0), (0, .ref (w 0))]) X dX7_carryOut_27 (by decide) rfl ?_
    refine haload_n X dX7_carryOut_28 rfl ?_
    refine hget1 X (T := TX7) (N := 6) iX7 0 rfl rfl 4 (by decide) (by decide +kernel) rfl dX7_carryOut_29 ?_
    refine hV_perm (ws' := (rdW G r pl T (zFF T pl 80 (zS0 z))) ++ _) (pbRd G w h t u v k kk r _ _ _ _ _ _ _ _ _ _ _ _ _ _ _ _ _ _) ?_
    refine hcallVr (C := RX3) (T := TX3) (N := 8) (As := []) (rest := []) (st' := []) (w := rdW G r pl T (zS0 (zFF T pl 80 (zS0 z)))) X (q0 := 0) (kX3_startZ l G r T (zFF T pl 80 (zS0 z)) pl) gX7_carryOut_X3_start rfl (n := 0) (by decide +kernel) (by decide) rfl rfl rfl rfl (Nat.le_of_ble_eq_true rfl) dX7_carryOut_32 rfl rfl (by decide) rfl ?_
    refine hV_perm (ws' := hbW G w h t u v k kk r n c F tn tc Ft x y (up N x n) (up C x c) (up Fs x (hcF F (Fs x))) sv SN SC SFs pl T (zS0 (zFF T pl 80 (zS0 z)))) (pbRd G w h t u v k kk r _ _ _ _ _ _ _ _ _ _ _ _ _ _ _ _ _ _).symm ?_
    refine hiconst (v := 0) X dX7_carryOut_35 rfl ?_
    refine histore_n (lv' := [(2, .int 0), (1, .int 0), (0, .ref (w 0))]) X dX7_carryOut_36 (by decide) rfl ?_
    exact hV_to (ws' := hbW G w h t u v k kk r n c F tn tc Ft x y (up N x n) (up C x c) (up Fs x (hcF F (Fs x))) sv SN SC SFs pl T (zS0 (zFF T pl 80 (zS0 z)))) (lv' := [(2, .int 0), (1, .int 0), (0, .ref (w 0))]) (st' := []) rfl rfl rfl (L1 _ 0 0 n c F (zS0 (zFF T pl 80 (zS0 z))) (Nat.zero_le _) (Nat.zero_le _) hn hc (zS0_ok pl _) rfl (Nat.lt_succ_self _))
  · exact (c4 hq).elim

