/-! the orders of a text, in the reference -/
def wnd (E : hF) : Int32 := if E 6 3 = 43 then whyS E (E 6 4) (E 6 5) (E 6 6) (E 6 7) else if E 6 3 = 99 then whcS E (E 6 4) (E 6 5) else if E 6 3 = 100 then (if isvP 0 (E 6 4) then 0 else -2) else if E 6 3 = 116 then whpS E (E 6 4) else if E 0 6 = 1 then -5 else 0
def dsE (n c : Nat) (E : hF) : hF := if E 6 3 = 43 then cmsE E n (E 6 4) (E 6 5) (E 6 6) (E 6 7) else if E 6 3 = 99 then cmcE E c (E 6 4) (E 6 5) else if E 6 3 = 100 then fs E 0 0 (E 6 4) else if E 6 3 = 116 then (psE n c (E 6 4).toNatClampNeg E).1 else (ensE n E).1
theorem sr_cmsE (E : hF) (n : Nat) (w1 w2 w3 w4 : Int32) : sr0 E (cmsE E n w1 w2 w3 w4) := by
  unfold cmsE
  exact ((((((((((sr0.rfl'.fs _ _).fs _ _).fs _ _).fs _ _).fs _ _).fs _ _).fs _ _).fs _ _).fs _ _).fs _ _).fs _ _
theorem sr_psN (n c : Nat) (E : hF) : ∀ k, sr0 E (itN k (psS n c) (E, 0)).1
  | 0 => sr0.rfl'
  | k + 1 => (sr_psN n c E k).tr (sr_poE n c _)
theorem sr_ens (n : Nat) (E : hF) : ∀ k, sr0 E (itN k enS (fs E 0 6 1, 0)).1
  | 0 => sr0.rfl'.fs _ _
  | k + 1 => by
    refine (sr_ens n E k).tr ?_
    show sr0 _ (enS k (itN k enS (fs E 0 6 1, 0))).1
    generalize itN k enS (fs E 0 6 1, 0) = r
    unfold enS
    split
    · exact sr0.rfl'
    · show sr0 r.1 (enA r.1 k)
      unfold enA
      refine sr0.fs (sr0.fs (sr0.fs ?_ _ _) _ _) _ _
      split
      · exact sr0.rfl'
      · exact sr0.rfl'.fs _ _
theorem sr_dsE (n c : Nat) (E : hF) : sr0 E (dsE n c E) := by
  unfold dsE
  split
  · exact sr_cmsE _ _ _ _ _ _
  · split
    · exact sr_cmcE _ _ _ _
    · split
      · exact sr0.rfl'.fs _ _
      · split
        · exact sr_psN _ _ _ _
        · exact sr_ens n E n
theorem recE_fr {E : hF} {y : Nat → Int32} {r j : Nat} (h6 : j ≠ 6) : recE (fr E 6 y) r j = recE E r j := by
  unfold recE
  by_cases e : r = 6
  · rw [if_pos e, if_pos e, fs_ne _ _ _ h6, fs_ne _ _ _ h6]
    by_cases e2 : j = 2
    · subst e2
      rw [fr_same, fr_same]
      rfl
    · rw [fr_ne _ _ e2, fr_ne _ _ e2, fs_ne _ _ _ h6, fs_ne _ _ _ h6, fr_ne _ _ e2, fr_ne _ _ e2, fr_ne _ _ h6]
  · rw [if_neg e, if_neg e, fs_ne _ _ _ h6, fs_ne _ _ _ h6]
    by_cases e2 : j = 2
    · subst e2
      rw [fr_same, fr_same]
      rfl
    · rw [fr_ne _ _ e2, fr_ne _ _ e2, fr_ne _ _ h6]
theorem recE_60 {E : hF} {r : Nat} : recE E r 6 0 = if r = 6 then 6 else nI r + 1 := by
  unfold recE
  split
  · rw [fs_same]
  · rw [fs_same]
set_option maxHeartbeats 4000000 in
set_option maxRecDepth 100000 in
theorem kX8_whyNotDone (l : Launch) (G : hG) (q : Nat → Nat) (E : hF) (n c : Nat) (h : mOk n c E) : hM l G yX8_whyNotDone wsX8_whyNotDone ({ frames := 4, cells := 0, slots := 0, locals := 108 }) (mW G q E) [.ref (q 0)] (hR (some (.int (wnd E))) (mW G q E)) := by
  refine hM_of (cc := cX8_whyNotDone) (maxL := 1) (ret := (some .int)) (by decide) rfl (Nat.le_of_ble_eq_true rfl) ?_
  intro pp ee ss mm aa bb me cd X hin
  have iX8 : ∀ w ∈ wsX80, w ∈ wsX8_whyNotDone := by decide +kernel
  refine haload_n X dX8_whyNotDone_0 rfl ?_
  refine hget1 X (T := TX8) (N := 14) iX8 0 rfl rfl 9 (by decide) (by decide +kernel) rfl dX8_whyNotDone_1 ?_
  by_cases sx1 : (E 6 3 : Int32) = 43
  · refine hlookup (off := 44) (tgt := 48) X dX8_whyNotDone_4 (by decide) (by rw [sx1]; decide) (by decide) ?_
    refine haload_n X dX8_whyNotDone_48 rfl ?_
    refine haload_n X dX8_whyNotDone_49 rfl ?_
    refine hget1 X (T := TX8) (N := 14) iX8 0 rfl rfl 10 (by decide) (by decide +kernel) rfl dX8_whyNotDone_50 ?_
    refine haload_n X dX8_whyNotDone_53 rfl ?_
    refine hget1 X (T := TX8) (N := 14) iX8 0 rfl rfl 11 (by decide) (by decide +kernel) rfl dX8_whyNotDone_54 ?_
    refine haload_n X dX8_whyNotDone_57 rfl ?_
    refine hget1 X (T := TX8) (N := 14) iX8 0 rfl rfl 12 (by decide) (by decide +kernel) rfl dX8_whyNotDone_58 ?_
    refine haload_n X dX8_whyNotDone_61 rfl ?_
    refine hget1 X (T := TX8) (N := 14) iX8 0 rfl rfl 13 (by decide) (by decide +kernel) rfl dX8_whyNotDone_62 ?_
    refine hcallV0 (C := RX8) (T := TX8) (N := 14) (As := [.int (E 6 4), .int (E 6 5), .int (E 6 6), .int (E 6 7)]) (rest := []) (st' := [.int (whyS E (E 6 4) (E 6 5) (E 6 6) (E 6 7))]) (w := mW G q E) X (q0 := 0) (kX8_whyNoStand l G q E n c (by first | assumption | omega) (E 6 4) (E 6 5) (E 6 6) (E 6 7)) gX8_whyNotDone_X8_whyNoStand rfl (n := 4) (by decide +kernel) (by decide) rfl rfl rfl rfl (Nat.le_of_ble_eq_true rfl) dX8_whyNotDone_65 rfl rfl (by decide) rfl ?_
    refine hiret X dX8_whyNotDone_68 ⟨congrArg (fun z => some (Value.int z)) (?_ : (whyS E (E 6 4) (E 6 5) (E 6 6) (E 6 7)) = wnd E), ?_⟩
    · simp only [wnd, if_pos sx1]
    rfl
  by_cases sx2 : (E 6 3 : Int32) = 99
  · refine hlookup (off := 65) (tgt := 69) X dX8_whyNotDone_4 (by decide) (by rw [sx2]; decide) (by decide) ?_
    refine haload_n X dX8_whyNotDone_69 rfl ?_
    refine haload_n X dX8_whyNotDone_70 rfl ?_
    refine hget1 X (T := TX8) (N := 14) iX8 0 rfl rfl 10 (by decide) (by decide +kernel) rfl dX8_whyNotDone_71 ?_
    refine haload_n X dX8_whyNotDone_74 rfl ?_
    refine hget1 X (T := TX8) (N := 14) iX8 0 rfl rfl 11 (by decide) (by decide +kernel) rfl dX8_whyNotDone_75 ?_
    refine hcallV0 (C := RX8) (T := TX8) (N := 14) (As := [.int (E 6 4), .int (E 6 5)]) (rest := []) (st' := [.int (whcS E (E 6 4) (E 6 5))]) (w := mW G q E) X (q0 := 0) (kX8_whyNoCrew l G q E (E 6 4) (E 6 5)) gX8_whyNotDone_X8_whyNoCrew rfl (n := 2) (by decide +kernel) (by decide) rfl rfl rfl rfl (Nat.le_of_ble_eq_true rfl) dX8_whyNotDone_78 rfl rfl (by decide) rfl ?_
    refine hiret X dX8_whyNotDone_81 ⟨congrArg (fun z => some (Value.int z)) (?_ : (whcS E (E 6 4) (E 6 5)) = wnd E), ?_⟩
    · simp only [wnd, if_neg sx1, if_pos sx2]
    rfl
  by_cases sx3 : (E 6 3 : Int32) = 100
  · refine hlookup (off := 78) (tgt := 82) X dX8_whyNotDone_4 (by decide) (by rw [sx3]; decide) (by decide) ?_
    refine hiconst (v := 0) X dX8_whyNotDone_82 rfl ?_
    refine haload_n X dX8_whyNotDone_83 rfl ?_
    refine hget1 X (T := TX8) (N := 14) iX8 0 rfl rfl 10 (by decide) (by decide +kernel) rfl dX8_whyNotDone_84 ?_
    refine hcallSr (wsC := []) (wsR := mW G q E) (As := [.int 0, .int (E 6 4)]) (rest := []) (st' := [.int (bI (isvP 0 (E 6 4)))]) (w := []) X (kX8_isValue l G 0 (E 6 4)) gX8_whyNotDone_X8_isValue rfl (n := 2) (by decide +kernel) (by decide) rfl rfl (Nat.le_of_ble_eq_true rfl) dX8_whyNotDone_87 rfl rfl (by decide) rfl ?_
    refine hV_to (ws' := mW G q E) rfl rfl rfl ?_
    refine hif_eqB (tgt := 97) X dX8_whyNotDone_90 (by decide) (fun c4 => ?_) (fun c4 => ?_)
    · refine hbipush (v := (-2)) X dX8_whyNotDone_97 rfl ?_
      refine hiret X dX8_whyNotDone_99 ⟨congrArg (fun z => some (Value.int z)) (?_ : (-2) = wnd E), ?_⟩
      · simp only [wnd, if_neg sx1, if_neg sx2, if_pos sx3, if_neg c4]
      rfl
    · refine hiconst (v := 0) X dX8_whyNotDone_93 rfl ?_
      refine hgoto (tgt := 99) X dX8_whyNotDone_94 (by decide) ?_
      refine hiret X dX8_whyNotDone_99 ⟨congrArg (fun z => some (Value.int z)) (?_ : 0 = wnd E), ?_⟩
      · simp only [wnd, if_neg sx1, if_neg sx2, if_pos sx3, if_pos c4]
      rfl
  by_cases sx5 : (E 6 3 : Int32) = 116
  · refine hlookup (off := 96) (tgt := 100) X dX8_whyNotDone_4 (by decide) (by rw [sx5]; decide) (by decide) ?_
    refine haload_n X dX8_whyNotDone_100 rfl ?_
    refine haload_n X dX8_whyNotDone_101 rfl ?_
    refine hget1 X (T := TX8) (N := 14) iX8 0 rfl rfl 10 (by decide) (by decide +kernel) rfl dX8_whyNotDone_102 ?_
    refine hcallV0 (C := RX8) (T := TX8) (N := 14) (As := [.int (E 6 4)]) (rest := []) (st' := [.int (whpS E (E 6 4))]) (w := mW G q E) X (q0 := 0) (kX8_whyNotPassed l G q E (E 6 4)) gX8_whyNotDone_X8_whyNotPassed rfl (n := 1) (by decide +kernel) (by decide) rfl rfl rfl rfl (Nat.le_of_ble_eq_true rfl) dX8_whyNotDone_105 rfl rfl (by decide) rfl ?_
    refine hiret X dX8_whyNotDone_108 ⟨congrArg (fun z => some (Value.int z)) (?_ : (whpS E (E 6 4)) = wnd E), ?_⟩
    · simp only [wnd, if_neg sx1, if_neg sx2, if_neg sx3, if_pos sx5]
    rfl
  refine hlookup (off := 105) (tgt := 109) X dX8_whyNotDone_4 (by decide) (by show Op.lookupswitch.offset [(43, 44), (99, 65), (100, 78), (116, 96)] (105) _ = (105); rw [lv_osw sx1 (by decide), lv_osw sx2 (by decide), lv_osw sx3 (by decide), lv_osw sx5 (by decide)]; rfl) (by decide) ?_
  refine haload_n X dX8_whyNotDone_109 rfl ?_
  refine hget1 X (T := TX8) (N := 14) iX8 0 rfl rfl 0 (by decide) (by decide +kernel) rfl dX8_whyNotDone_110 ?_
  refine hbipush (v := 6) X dX8_whyNotDone_113 rfl ?_
  refine hiald (n := 250) (f := E 0) X 1 rfl 6 rfl (by omega) (by decide) dX8_whyNotDone_115 ?_
  refine hiconst (v := 1) X dX8_whyNotDone_116 rfl ?_
  refine hicmp_ne (tgt := 125) X dX8_whyNotDone_117 (by decide) (fun c6 => ?_) (fun c6 => ?_)
  · refine hiconst (v := 0) X dX8_whyNotDone_125 rfl ?_
    refine hiret X dX8_whyNotDone_126 ⟨congrArg (fun z => some (Value.int z)) (?_ : 0 = wnd E), ?_⟩
    · simp only [wnd, if_neg sx1, if_neg sx2, if_neg sx3, if_neg sx5, if_neg c6]
    rfl
  · refine hbipush (v := (-5)) X dX8_whyNotDone_120 rfl ?_
    refine hgoto (tgt := 126) X dX8_whyNotDone_122 (by decide) ?_
    refine hiret X dX8_whyNotDone_126 ⟨congrArg (fun z => some (Value.int z)) (?_ : (-5) = wnd E), ?_⟩
    · simp only [wnd, if_neg sx1, if_neg sx2, if_neg sx3, if_neg sx5, if_pos c6]
    rfl

set_option maxHeartbeats 4000000 in
set_option maxRecDepth 100000 in
theorem kX8_does (l : Launch) (G : hG) (q : Nat → Nat) (E : hF) (n c : Nat) (h : mOk n c E) (hw : wnd E = 0) : hM l G yX8_does wsX8_does ({ frames := 8, cells := 0, slots := 0, locals := 199 }) (mW G q E) [.ref (q 0)] (hR none (mW G q (dsE n c E))) := by
  refine hM_of (cc := cX8_does) (maxL := 1) (ret := none) (by decide) rfl (Nat.le_of_ble_eq_true rfl) ?_
  intro pp ee ss mm aa bb me cd X hin
  have iX8 : ∀ w ∈ wsX80, w ∈ wsX8_does := by decide +kernel
  have hA : E 6 3 = 43 → n < 20 := fun e9 => whyS_n h (w1 := E 6 4) (w2 := E 6 5) (w3 := E 6 6) (w4 := E 6 7) (by have g9 := hw; unfold wnd at g9; rw [if_pos e9] at g9; rw [g9]; decide)
  have hB : ¬ E 6 3 = 43 → E 6 3 = 99 → c < 6 := fun e8 e9 => whcS_n h (x := E 6 4) (y := E 6 5) (by have g9 := hw; unfold wnd at g9; rw [if_neg e8, if_pos e9] at g9; rw [g9]; decide)
  have hC : ¬ E 6 3 = 43 → ¬ E 6 3 = 99 → ¬ E 6 3 = 100 → E 6 3 = 116 → ∃ j, 1 ≤ j ∧ j ≤ 99 ∧ E 6 4 = nI j := fun e6 e7 e8 e9 => whpS_n (x := E 6 4) (by have g9 := hw; unfold wnd at g9; rw [if_neg e6, if_neg e7, if_neg e8, if_pos e9] at g9; rw [g9]; decide)
  refine haload_n X dX8_does_0 rfl ?_
  refine hget1 X (T := TX8) (N := 14) iX8 0 rfl rfl 9 (by decide) (by decide +kernel) rfl dX8_does_1 ?_
  by_cases sx1 : (E 6 3 : Int32) = 43
  · refine hlookup (off := 44) (tgt := 48) X dX8_does_4 (by decide) (by rw [sx1]; decide) (by decide) ?_
    refine haload_n X dX8_does_48 rfl ?_
    refine haload_n X dX8_does_49 rfl ?_
    refine hget1 X (T := TX8) (N := 14) iX8 0 rfl rfl 10 (by decide) (by decide +kernel) rfl dX8_does_50 ?_
    refine haload_n X dX8_does_53 rfl ?_
    refine hget1 X (T := TX8) (N := 14) iX8 0 rfl rfl 11 (by decide) (by decide +kernel) rfl dX8_does_54 ?_
    refine haload_n X dX8_does_57 rfl ?_
    refine hget1 X (T := TX8) (N := 14) iX8 0 rfl rfl 12 (by decide) (by decide +kernel) rfl dX8_does_58 ?_
    refine haload_n X dX8_does_61 rfl ?_
    refine hget1 X (T := TX8) (N := 14) iX8 0 rfl rfl 13 (by decide) (by decide +kernel) rfl dX8_does_62 ?_
    refine hcallV0 (C := RX8) (T := TX8) (N := 14) (As := [.int (E 6 4), .int (E 6 5), .int (E 6 6), .int (E 6 7)]) (rest := []) (st' := [.int (nI n)]) (w := mW G q (cmsE E n (E 6 4) (E 6 5) (E 6 6) (E 6 7))) X (q0 := 0) (kX8_comes l G q E n c (by first | assumption | omega) (hA sx1) (E 6 4) (E 6 5) (E 6 6) (E 6 7)) gX8_does_X8_comes rfl (n := 4) (by decide +kernel) (by decide) rfl rfl rfl rfl (Nat.le_of_ble_eq_true rfl) dX8_does_65 rfl rfl (by decide) rfl ?_
    refine hpop X dX8_does_68 rfl ?_
    refine hgoto (tgt := 118) X dX8_does_69 (by decide) ?_
    refine hvret X dX8_does_118 ⟨rfl, ?_⟩
    refine congrArg (mW G q) (?_ : (cmsE E n (E 6 4) (E 6 5) (E 6 6) (E 6 7) : hF) = dsE n c E)
    simp only [dsE, if_pos sx1]
  by_cases sx2 : (E 6 3 : Int32) = 99
  · refine hlookup (off := 68) (tgt := 72) X dX8_does_4 (by decide) (by rw [sx2]; decide) (by decide) ?_
    refine haload_n X dX8_does_72 rfl ?_
    refine haload_n X dX8_does_73 rfl ?_
    refine hget1 X (T := TX8) (N := 14) iX8 0 rfl rfl 10 (by decide) (by decide +kernel) rfl dX8_does_74 ?_
    refine haload_n X dX8_does_77 rfl ?_
    refine hget1 X (T := TX8) (N := 14) iX8 0 rfl rfl 11 (by decide) (by decide +kernel) rfl dX8_does_78 ?_
    refine hcallV0 (C := RX8) (T := TX8) (N := 14) (As := [.int (E 6 4), .int (E 6 5)]) (rest := []) (st' := [.int (nI c)]) (w := mW G q (cmcE E c (E 6 4) (E 6 5))) X (q0 := 0) (kX8_comesCrew l G q E n c (by first | assumption | omega) (hB sx1 sx2) (E 6 4) (E 6 5)) gX8_does_X8_comesCrew rfl (n := 2) (by decide +kernel) (by decide) rfl rfl rfl rfl (Nat.le_of_ble_eq_true rfl) dX8_does_81 rfl rfl (by decide) rfl ?_
    refine hpop X dX8_does_84 rfl ?_
    refine hgoto (tgt := 118) X dX8_does_85 (by decide) ?_
    refine hvret X dX8_does_118 ⟨rfl, ?_⟩
    refine congrArg (mW G q) (?_ : (cmcE E c (E 6 4) (E 6 5) : hF) = dsE n c E)
    simp only [dsE, if_neg sx1, if_pos sx2]
  by_cases sx3 : (E 6 3 : Int32) = 100
  · refine hlookup (off := 84) (tgt := 88) X dX8_does_4 (by decide) (by rw [sx3]; decide) (by decide) ?_
    refine haload_n X dX8_does_88 rfl ?_
    refine hget1 X (T := TX8) (N := 14) iX8 0 rfl rfl 0 (by decide) (by decide +kernel) rfl dX8_does_89 ?_
    refine hiconst (v := 0) X dX8_does_92 rfl ?_
    refine haload_n X dX8_does_93 rfl ?_
    refine hget1 X (T := TX8) (N := 14) iX8 0 rfl rfl 10 (by decide) (by decide +kernel) rfl dX8_does_94 ?_
    refine hiast (n := 250) (f := E 0) X 1 rfl 0 rfl (by omega) (by decide) dX8_does_97 (ws' := mW G q (fs E 0 0 (E 6 4))) (mWs0 G q _ _ _) ?_
    refine hgoto (tgt := 118) X dX8_does_98 (by decide) ?_
    refine hvret X dX8_does_118 ⟨rfl, ?_⟩
    refine congrArg (mW G q) (?_ : (fs E 0 0 (E 6 4) : hF) = dsE n c E)
    simp only [dsE, if_neg sx1, if_neg sx2, if_pos sx3]
  by_cases sx4 : (E 6 3 : Int32) = 116
  · refine hlookup (off := 97) (tgt := 101) X dX8_does_4 (by decide) (by rw [sx4]; decide) (by decide) ?_
    refine haload_n X dX8_does_101 rfl ?_
    refine haload_n X dX8_does_102 rfl ?_
    refine hget1 X (T := TX8) (N := 14) iX8 0 rfl rfl 10 (by decide) (by decide +kernel) rfl dX8_does_103 ?_
    obtain ⟨jj, hj1, hj2, hjx⟩ := hC sx1 sx2 sx3 sx4
    refine hV_st (st' := [.int (nI jj), .ref (q 0)]) (congrArg (fun v9 => Value.int v9 :: [.ref (q 0)]) hjx) ?_
    refine hcallV0 (C := RX8) (T := TX8) (N := 14) (As := [.int (nI jj)]) (rest := []) (st' := [.int ((psE n c jj E).2)]) (w := mW G q ((psE n c jj E).1)) X (q0 := 0) (kX8_passes l G q E n c jj (by first | assumption | omega) (by omega)) gX8_does_X8_passes rfl (n := 1) (by decide +kernel) (by decide) rfl rfl rfl rfl (Nat.le_of_ble_eq_true rfl) dX8_does_106 rfl rfl (by decide) rfl ?_
    refine hpop X dX8_does_109 rfl ?_
    refine hgoto (tgt := 118) X dX8_does_110 (by decide) ?_
    refine hvret X dX8_does_118 ⟨rfl, ?_⟩
    refine congrArg (mW G q) (?_ : ((psE n c jj E).1 : hF) = dsE n c E)
    simp only [dsE, if_neg sx1, if_neg sx2, if_neg sx3, if_pos sx4, hjx, nI_clamp (show jj < 2 ^ 31 by omega)]
  refine hlookup (off := 109) (tgt := 113) X dX8_does_4 (by decide) (by show Op.lookupswitch.offset [(43, 44), (99, 68), (100, 84), (116, 97)] (109) _ = (109); rw [lv_osw sx1 (by decide), lv_osw sx2 (by decide), lv_osw sx3 (by decide), lv_osw sx4 (by decide)]; rfl) (by decide) ?_
  refine haload_n X dX8_does_113 rfl ?_
  refine hcallV0 (C := RX8) (T := TX8) (N := 14) (As := []) (rest := []) (st' := [.int ((ensE n E).2)]) (w := mW G q ((ensE n E).1)) X (q0 := 0) (kX8_ends l G q E n c (by first | assumption | omega)) gX8_does_X8_ends rfl (n := 0) (by decide +kernel) (by decide) rfl rfl rfl rfl (Nat.le_of_ble_eq_true rfl) dX8_does_114 rfl rfl (by decide) rfl ?_
  refine hpop X dX8_does_117 rfl ?_
  refine hvret X dX8_does_118 ⟨rfl, ?_⟩
  refine congrArg (mW G q) (?_ : ((ensE n E).1 : hF) = dsE n c E)
  simp only [dsE, if_neg sx1, if_neg sx2, if_neg sx3, if_neg sx4]

