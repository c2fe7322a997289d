abbrev inS (a : Int32) : Prop := ¬ a < 0 ∧ a < 2
set_option maxHeartbeats 4000000 in
set_option maxRecDepth 100000 in
theorem kX5_keep (l : Launch) (G : hG) (u : Nat → Nat) (k : Nat → Nat → Nat) (h : Nat → Nat) (sv : Nat → Int32) (N C : Nat → Nat) (Fs : Nat → hF) (n c : Nat) (F : hF) (a : Int32) (hb : F 18 1 = 0 ∨ F 18 1 = 1) : hM l G yX5_keep wsX5_keep ({ frames := 4, cells := 0, slots := 0, locals := 123 }) (slW G u k h sv N C Fs n c F) [.ref (u 0), .int a, .ref (h 0)] (hR (some (.int (if inS a then nI n else -2))) (slW G u k h (if inS a then upd sv a.toNatClampNeg (vp_nar .boolean 1) else sv) (if inS a then up N a.toNatClampNeg n else N) (if inS a then up C a.toNatClampNeg c else C) (if inS a then up Fs a.toNatClampNeg (hcF F (Fs a.toNatClampNeg)) else Fs) n c F)) := by
  refine hM_of (cc := cX5_keep) (maxL := 4) (ret := (some .int)) (by decide) rfl (Nat.le_of_ble_eq_true rfl) ?_
  intro pp ee ss mm aa bb me cd X hin
  have iX1 : ∀ w ∈ wsX10, w ∈ wsX5_keep := by decide +kernel
  have iX5 : ∀ w ∈ wsX50, w ∈ wsX5_keep := by decide +kernel
  have iX6 : ∀ w ∈ wsX60, w ∈ wsX5_keep := by decide +kernel
  refine hiload_n X dX5_keep_0 rfl ?_
  refine hif_lt (tgt := 22) X dX5_keep_1 (by decide) (fun c1 => ?_) (fun c1 => ?_)
  · have hin : ¬ inS a := fun z9 => z9.1 c1
    refine hbipush (v := (-2)) X dX5_keep_22 rfl ?_
    refine hiret X dX5_keep_24 ⟨congrArg (fun z => some (Value.int z)) (?_ : (-2) = if inS a then nI n else -2), ?_⟩
    · simp only [if_neg hin]
    simp only [if_neg hin]
  · have ha0 : ¬ a < 0 := c1
    refine hiload_n X dX5_keep_4 rfl ?_
    refine haload_n X dX5_keep_5 rfl ?_
    refine hget1 X (T := TX5) (N := 2) iX5 0 rfl rfl 0 (by decide) (by decide +kernel) rfl dX5_keep_6 ?_
    refine hialen X 1 3 rfl rfl (v := 2) rfl dX5_keep_9 ?_
    refine hicmp_ge (tgt := 22) X dX5_keep_10 (by decide) (fun c2 => ?_) (fun c2 => ?_)
    · have hin : ¬ inS a := fun z9 => Int32.not_lt.mpr c2 z9.2
      refine hbipush (v := (-2)) X dX5_keep_22 rfl ?_
      refine hiret X dX5_keep_24 ⟨congrArg (fun z => some (Value.int z)) (?_ : (-2) = if inS a then nI n else -2), ?_⟩
      · simp only [if_neg hin]
      simp only [if_neg hin]
    · have ha2 : a < 2 := Int32.not_le.mp c2
      have hin : inS a := ⟨ha0, ha2⟩
      have ea : a = nI a.toNatClampNeg := (sl_nat ha0 ha2).1
      have hi : a.toNatClampNeg < 2 := (sl_nat ha0 ha2).2
      refine hiload_n X dX5_keep_13 rfl ?_
      refine haload_n X dX5_keep_14 rfl ?_
      refine hget1 X (T := TX5) (N := 2) iX5 0 rfl rfl 1 (by decide) (by decide +kernel) rfl dX5_keep_15 ?_
      refine hialen X 2 2 rfl rfl (v := 2) rfl dX5_keep_18 ?_
      refine hicmp_lt (tgt := 25) X dX5_keep_19 (by decide) (fun c3 => ?_) (fun c3 => ?_)
      · refine haload_n X dX5_keep_25 rfl ?_
        refine hget1 X (T := TX5) (N := 2) iX5 0 rfl rfl 0 (by decide) (by decide +kernel) rfl dX5_keep_26 ?_
        refine hiload_n X dX5_keep_29 rfl ?_
        refine hV_st (st' := [.int (nI a.toNatClampNeg), .ref (u 1)]) (congrArg (fun v9 => ([Value.int v9, .ref (u 1)] : List Value)) (ea)) ?_
        refine haald (n := 2) (f := fun i9 => some (k i9 0)) X 1 rfl a.toNatClampNeg rfl (by omega) (by decide) dX5_keep_30 ?_
        refine hV_st (st' := [.ref (k a.toNatClampNeg 0)]) rfl ?_
        refine hastore_n (lv' := [(3, .ref (k a.toNatClampNeg 0)), (0, .ref (u 0)), (1, .int a), (2, .ref (h 0))]) X dX5_keep_31 (by decide) rfl ?_
        refine haload_n X dX5_keep_32 rfl ?_
        refine hifnonnull (tgt := 39) X dX5_keep_33 (by decide) ?_
        refine haload_n X dX5_keep_39 rfl ?_
        refine haload_n X dX5_keep_40 rfl ?_
        refine hV_perm (ws' := (haW G h n c F ++ haW G (k a.toNatClampNeg) (N a.toNatClampNeg) (C a.toNatClampNeg) (Fs a.toNatClampNeg)) ++ (soW G u k sv ++ hlX G k N C Fs a.toNatClampNeg 2)) (pmLr G u k h _ _ _ _ _ _ _ (hi)) ?_
        refine hcallVr (C := RX1) (T := TX1) (N := 7) (As := [.ref (h 0)]) (rest := []) (st' := []) (w := haW G h n c F ++ haW G (k a.toNatClampNeg) n c (hcF F (Fs a.toNatClampNeg))) X (q0 := 21) (kX1_copyFrom l G (k a.toNatClampNeg) h n c (N a.toNatClampNeg) (C a.toNatClampNeg) F (Fs a.toNatClampNeg) hb) gX5_keep_X1_copyFrom rfl (n := 1) (by decide +kernel) (by decide) rfl rfl rfl rfl (Nat.le_of_ble_eq_true rfl) dX5_keep_41 rfl rfl (by decide) rfl ?_
        refine hV_perm (ws' := slW G u k h sv (up N a.toNatClampNeg n) (up C a.toNatClampNeg c) (up Fs a.toNatClampNeg (hcF F (Fs a.toNatClampNeg))) n c F) (pmLr' G u k h _ _ _ _ _ _ _ _ _ _ (hi)) ?_
        refine haload_n X dX5_keep_44 rfl ?_
        refine hget1 X (T := TX5) (N := 2) iX5 0 rfl rfl 1 (by decide) (by decide +kernel) rfl dX5_keep_45 ?_
        refine hiload_n X dX5_keep_48 rfl ?_
        refine hiconst (v := 1) X dX5_keep_49 rfl ?_
        refine hV_st (st' := [.int 1, .int (nI a.toNatClampNeg), .ref (u 2)]) (congrArg (fun v9 => ([.int 1, Value.int v9, .ref (u 2)] : List Value)) (ea)) ?_
        refine hzast (n := 2) (f := sv) X 2 rfl a.toNatClampNeg rfl (by omega) (by decide) dX5_keep_50 (ws' := slW G u k h (upd sv a.toNatClampNeg (vp_nar .boolean 1)) (up N a.toNatClampNeg n) (up C a.toNatClampNeg c) (up Fs a.toNatClampNeg (hcF F (Fs a.toNatClampNeg))) n c F) (slWs G u k h _ _ _ _ _ _ _ _ _) ?_
        refine haload_n X dX5_keep_51 rfl ?_
        refine hgetN X (T := TX1) (N := 7) iX1 3 rfl rfl 2 (by decide) (by decide +kernel) rfl dX5_keep_52 ?_
        refine hgetN X (T := TX6) (N := 11) iX6 6 rfl rfl 0 (by decide) (by decide +kernel) rfl dX5_keep_55 ?_
        refine hiret X dX5_keep_58 ⟨congrArg (fun z => some (Value.int z)) (?_ : (nI n) = if inS a then nI n else -2), ?_⟩
        · simp only [if_pos hin]
        simp only [if_pos hin]
      · exact (c3 ha2).elim

set_option maxHeartbeats 4000000 in
set_option maxRecDepth 100000 in
theorem kX5_giveBack (l : Launch) (G : hG) (u : Nat → Nat) (k : Nat → Nat → Nat) (h : Nat → Nat) (sv : Nat → Int32) (N C : Nat → Nat) (Fs : Nat → hF) (n c : Nat) (F : hF) (a : Int32) (hbs : ∀ i, Fs i 18 1 = 0 ∨ Fs i 18 1 = 1) : hM l G yX5_giveBack wsX5_giveBack ({ frames := 4, cells := 0, slots := 0, locals := 123 }) (slW G u k h sv N C Fs n c F) [.ref (u 0), .int a, .ref (h 0)] (hR (some (.int (if inS a then (if sv a.toNatClampNeg = 0 then -5 else nI (N a.toNatClampNeg)) else -2))) (slW G u k h sv N C Fs (if inS a then (if sv a.toNatClampNeg = 0 then n else N a.toNatClampNeg) else n) (if inS a then (if sv a.toNatClampNeg = 0 then c else C a.toNatClampNeg) else c) (if inS a then (if sv a.toNatClampNeg = 0 then F else hcF (Fs a.toNatClampNeg) F) else F))) := by
  refine hM_of (cc := cX5_giveBack) (maxL := 4) (ret := (some .int)) (by decide) rfl (Nat.le_of_ble_eq_true rfl) ?_
  intro pp ee ss mm aa bb me cd X hin
  have iX1 : ∀ w ∈ wsX10, w ∈ wsX5_giveBack := by decide +kernel
  have iX5 : ∀ w ∈ wsX50, w ∈ wsX5_giveBack := by decide +kernel
  have iX6 : ∀ w ∈ wsX60, w ∈ wsX5_giveBack := by decide +kernel
  refine hiload_n X dX5_giveBack_0 rfl ?_
  refine hif_lt (tgt := 22) X dX5_giveBack_1 (by decide) (fun c1 => ?_) (fun c1 => ?_)
  · have hin : ¬ inS a := fun z9 => z9.1 c1
    refine hbipush (v := (-2)) X dX5_giveBack_22 rfl ?_
    refine hiret X dX5_giveBack_24 ⟨congrArg (fun z => some (Value.int z)) (?_ : (-2) = if inS a then (if sv a.toNatClampNeg = 0 then -5 else nI (N a.toNatClampNeg)) else -2), ?_⟩
    · simp only [if_neg hin]
    simp only [if_neg hin]
  · have ha0 : ¬ a < 0 := c1
    refine hiload_n X dX5_giveBack_4 rfl ?_
    refine haload_n X dX5_giveBack_5 rfl ?_
    refine hget1 X (T := TX5) (N := 2) iX5 0 rfl rfl 0 (by decide) (by decide +kernel) rfl dX5_giveBack_6 ?_
    refine hialen X 1 3 rfl rfl (v := 2) rfl dX5_giveBack_9 ?_
    refine hicmp_ge (tgt := 22) X dX5_giveBack_10 (by decide) (fun c2 => ?_) (fun c2 => ?_)
    · have hin : ¬ inS a := fun z9 => Int32.not_lt.mpr c2 z9.2
      refine hbipush (v := (-2)) X dX5_giveBack_22 rfl ?_
      refine hiret X dX5_giveBack_24 ⟨congrArg (fun z => some (Value.int z)) (?_ : (-2) = if inS a then (if sv a.toNatClampNeg = 0 then -5 else nI (N a.toNatClampNeg)) else -2), ?_⟩
      · simp only [if_neg hin]
      simp only [if_neg hin]
    · have ha2 : a < 2 := Int32.not_le.mp c2
      have hin : inS a := ⟨ha0, ha2⟩
      have ea : a = nI a.toNatClampNeg := (sl_nat ha0 ha2).1
      have hi : a.toNatClampNeg < 2 := (sl_nat ha0 ha2).2
      refine hiload_n X dX5_giveBack_13 rfl ?_
      refine haload_n X dX5_giveBack_14 rfl ?_
      refine hget1 X (T := TX5) (N := 2) iX5 0 rfl rfl 1 (by decide) (by decide +kernel) rfl dX5_giveBack_15 ?_
      refine hialen X 2 2 rfl rfl (v := 2) rfl dX5_giveBack_18 ?_
      refine hicmp_lt (tgt := 25) X dX5_giveBack_19 (by decide) (fun c3 => ?_) (fun c3 => ?_)
      · refine haload_n X dX5_giveBack_25 rfl ?_
        refine hget1 X (T := TX5) (N := 2) iX5 0 rfl rfl 0 (by decide) (by decide +kernel) rfl dX5_giveBack_26 ?_
        refine hiload_n X dX5_giveBack_29 rfl ?_
        refine hV_st (st' := [.int (nI a.toNatClampNeg), .ref (u 1)]) (congrArg (fun v9 => ([Value.int v9, .ref (u 1)] : List Value)) (ea)) ?_
        refine haald (n := 2) (f := fun i9 => some (k i9 0)) X 1 rfl a.toNatClampNeg rfl (by omega) (by decide) dX5_giveBack_30 ?_
        refine hV_st (st' := [.ref (k a.toNatClampNeg 0)]) rfl ?_
        refine hastore_n (lv' := [(3, .ref (k a.toNatClampNeg 0)), (0, .ref (u 0)), (1, .int a), (2, .ref (h 0))]) X dX5_giveBack_31 (by decide) rfl ?_
        refine haload_n X dX5_giveBack_32 rfl ?_
        refine hifnull X dX5_giveBack_33 ?_
        refine haload_n X dX5_giveBack_36 rfl ?_
        refine hget1 X (T := TX5) (N := 2) iX5 0 rfl rfl 1 (by decide) (by decide +kernel) rfl dX5_giveBack_37 ?_
        refine hiload_n X dX5_giveBack_40 rfl ?_
        refine hV_st (st' := [.int (nI a.toNatClampNeg), .ref (u 2)]) (congrArg (fun v9 => ([Value.int v9, .ref (u 2)] : List Value)) (ea)) ?_
        refine hzald (n := 2) (f := sv) X 2 rfl a.toNatClampNeg rfl (by omega) (by decide) dX5_giveBack_41 ?_
        refine hif_ne (tgt := 48) X dX5_giveBack_42 (by decide) (fun c4 => ?_) (fun c4 => ?_)
        · refine haload_n X dX5_giveBack_48 rfl ?_
          refine haload_n X dX5_giveBack_49 rfl ?_
          refine hV_perm (ws' := (haW G (k a.toNatClampNeg) (N a.toNatClampNeg) (C a.toNatClampNeg) (Fs a.toNatClampNeg) ++ haW G h n c F) ++ (soW G u k sv ++ hlX G k N C Fs a.toNatClampNeg 2)) (pmLs G u k h _ _ _ _ _ _ _ (hi)) ?_
          refine hcallVr (C := RX1) (T := TX1) (N := 7) (As := [.ref (k a.toNatClampNeg 0)]) (rest := []) (st' := []) (w := haW G (k a.toNatClampNeg) (N a.toNatClampNeg) (C a.toNatClampNeg) (Fs a.toNatClampNeg) ++ haW G h (N a.toNatClampNeg) (C a.toNatClampNeg) (hcF (Fs a.toNatClampNeg) F)) X (q0 := 21) (kX1_copyFrom l G h (k a.toNatClampNeg) (N a.toNatClampNeg) (C a.toNatClampNeg) n c (Fs a.toNatClampNeg) F (hbs a.toNatClampNeg)) gX5_giveBack_X1_copyFrom rfl (n := 1) (by decide +kernel) (by decide) rfl rfl rfl rfl (Nat.le_of_ble_eq_true rfl) dX5_giveBack_50 rfl rfl (by decide) rfl ?_
          refine hV_perm (ws' := slW G u k h sv N C Fs (N a.toNatClampNeg) (C a.toNatClampNeg) (hcF (Fs a.toNatClampNeg) F)) (pmLs' G u k h _ _ _ _ _ _ _ (hi)) ?_
          refine haload_n X dX5_giveBack_53 rfl ?_
          refine hgetN X (T := TX1) (N := 7) iX1 3 rfl rfl 2 (by decide) (by decide +kernel) rfl dX5_giveBack_54 ?_
          refine hgetN X (T := TX6) (N := 11) iX6 6 rfl rfl 0 (by decide) (by decide +kernel) rfl dX5_giveBack_57 ?_
          refine hiret X dX5_giveBack_60 ⟨congrArg (fun z => some (Value.int z)) (?_ : (nI (N a.toNatClampNeg)) = if inS a then (if sv a.toNatClampNeg = 0 then -5 else nI (N a.toNatClampNeg)) else -2), ?_⟩
          · simp only [if_pos hin, if_neg c4]
          simp only [if_pos hin, if_neg c4]
        · refine hbipush (v := (-5)) X dX5_giveBack_45 rfl ?_
          refine hiret X dX5_giveBack_47 ⟨congrArg (fun z => some (Value.int z)) (?_ : (-5) = if inS a then (if sv a.toNatClampNeg = 0 then -5 else nI (N a.toNatClampNeg)) else -2), ?_⟩
          · simp only [if_pos hin, if_pos c4]
          simp only [if_pos hin, if_pos c4]
      · exact (c3 ha2).elim

