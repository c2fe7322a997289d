/-! constructors -/
def F1 : hF := fun j => if j = 16 then hFst else fun _ => 0
set_option maxHeartbeats 4000000 in
set_option maxRecDepth 100000 in
theorem kX6_init (l : Launch) (G : hG) (a : Nat) : hM l G yX6_init wsX6_init ({ frames := 1, cells := 10, slots := 200, locals := 40 }) [(a, .inr (6, [.int 0, .null, .null, .null, .null, .null, .null, .null, .null, .null, .null]))] [.ref a] (fun v w => v = none ∧ ∃ h : Nat → Nat, h 3 = a ∧ w = stW G h 0 F1) := by
  refine hM_of (cc := cX6_init) (maxL := 1) (ret := none) (by decide) rfl (Nat.le_of_ble_eq_true rfl) ?_
  intro pp ee ss mm aa bb me cd X hin
  have iX6 : ∀ w ∈ wsX60, w ∈ wsX6_init := by decide +kernel
  refine haload_n X dX6_init_0 rfl ?_
  refine hobj X (by decide +kernel) (by decide +kernel) (by decide +kernel) dX6_init_1 (Nat.le_of_ble_eq_true rfl) (Nat.le_of_ble_eq_true rfl) ?_
  refine haload_n X dX6_init_4 rfl ?_
  refine hbipush (v := 20) X dX6_init_5 rfl ?_
  refine hnewa X (atype := .int) (ty := .int) (by decide +kernel) rfl 0 rfl (a0 := (20, .inl (fun _ => 0))) (fun _ => rfl) (by decide) (N' := 20) rfl (Nat.le_of_ble_eq_true rfl) (Nat.le_of_ble_eq_true rfl) (Nat.le_of_ble_eq_true rfl) dX6_init_7 (fun q1 => ?_)
  refine hV_to (ws' := [(a, .inr (6, [.int 0, .null, .null, .null, .null, .null, .null, .null, .null, .null, .null])), (q1, .inl (G.2.1 0, 20, .inl (fun _ => 0)))]) rfl rfl rfl ?_
  refine hputF X (hin rfl) iX6 tyX6 tyX6_ok nmX6 0 rfl rfl 1 (by decide) (by decide +kernel) rfl rfl rfl rfl (Nat.le_of_ble_eq_true rfl) dX6_init_9 (ws' := [(a, .inr (6, [.int 0, .ref q1, .null, .null, .null, .null, .null, .null, .null, .null, .null])), (q1, .inl (G.2.1 0, 20, .inl (fun _ => 0)))]) rfl ?_
  refine haload_n X dX6_init_12 rfl ?_
  refine hbipush (v := 20) X dX6_init_13 rfl ?_
  refine hnewa X (atype := .int) (ty := .int) (by decide +kernel) rfl 0 rfl (a0 := (20, .inl (fun _ => 0))) (fun _ => rfl) (by decide) (N' := 20) rfl (Nat.le_of_ble_eq_true rfl) (Nat.le_of_ble_eq_true rfl) (Nat.le_of_ble_eq_true rfl) dX6_init_15 (fun q2 => ?_)
  refine hV_to (ws' := [(a, .inr (6, [.int 0, .ref q1, .null, .null, .null, .null, .null, .null, .null, .null, .null])), (q1, .inl (G.2.1 0, 20, .inl (fun _ => 0))), (q2, .inl (G.2.1 0, 20, .inl (fun _ => 0)))]) rfl rfl rfl ?_
  refine hputF X (hin rfl) iX6 tyX6 tyX6_ok nmX6 0 rfl rfl 2 (by decide) (by decide +kernel) rfl rfl rfl rfl (Nat.le_of_ble_eq_true rfl) dX6_init_17 (ws' := [(a, .inr (6, [.int 0, .ref q1, .ref q2, .null, .null, .null, .null, .null, .null, .null, .null])), (q1, .inl (G.2.1 0, 20, .inl (fun _ => 0))), (q2, .inl (G.2.1 0, 20, .inl (fun _ => 0)))]) rfl ?_
  refine haload_n X dX6_init_20 rfl ?_
  refine hbipush (v := 20) X dX6_init_21 rfl ?_
  refine hnewa X (atype := .int) (ty := .int) (by decide +kernel) rfl 0 rfl (a0 := (20, .inl (fun _ => 0))) (fun _ => rfl) (by decide) (N' := 20) rfl (Nat.le_of_ble_eq_true rfl) (Nat.le_of_ble_eq_true rfl) (Nat.le_of_ble_eq_true rfl) dX6_init_23 (fun q3 => ?_)
  refine hV_to (ws' := [(a, .inr (6, [.int 0, .ref q1, .ref q2, .null, .null, .null, .null, .null, .null, .null, .null])), (q1, .inl (G.2.1 0, 20, .inl (fun _ => 0))), (q2, .inl (G.2.1 0, 20, .inl (fun _ => 0))), (q3, .inl (G.2.1 0, 20, .inl (fun _ => 0)))]) rfl rfl rfl ?_
  refine hputF X (hin rfl) iX6 tyX6 tyX6_ok nmX6 0 rfl rfl 3 (by decide) (by decide +kernel) rfl rfl rfl rfl (Nat.le_of_ble_eq_true rfl) dX6_init_25 (ws' := [(a, .inr (6, [.int 0, .ref q1, .ref q2, .ref q3, .null, .null, .null, .null, .null, .null, .null])), (q1, .inl (G.2.1 0, 20, .inl (fun _ => 0))), (q2, .inl (G.2.1 0, 20, .inl (fun _ => 0))), (q3, .inl (G.2.1 0, 20, .inl (fun _ => 0)))]) rfl ?_
  refine haload_n X dX6_init_28 rfl ?_
  refine hbipush (v := 20) X dX6_init_29 rfl ?_
  refine hnewa X (atype := .int) (ty := .int) (by decide +kernel) rfl 0 rfl (a0 := (20, .inl (fun _ => 0))) (fun _ => rfl) (by decide) (N' := 20) rfl (Nat.le_of_ble_eq_true rfl) (Nat.le_of_ble_eq_true rfl) (Nat.le_of_ble_eq_true rfl) dX6_init_31 (fun q4 => ?_)
  refine hV_to (ws' := [(a, .inr (6, [.int 0, .ref q1, .ref q2, .ref q3, .null, .null, .null, .null, .null, .null, .null])), (q1, .inl (G.2.1 0, 20, .inl (fun _ => 0))), (q2, .inl (G.2.1 0, 20, .inl (fun _ => 0))), (q3, .inl (G.2.1 0, 20, .inl (fun _ => 0))), (q4, .inl (G.2.1 0, 20, .inl (fun _ => 0)))]) rfl rfl rfl ?_
  refine hputF X (hin rfl) iX6 tyX6 tyX6_ok nmX6 0 rfl rfl 4 (by decide) (by decide +kernel) rfl rfl rfl rfl (Nat.le_of_ble_eq_true rfl) dX6_init_33 (ws' := [(a, .inr (6, [.int 0, .ref q1, .ref q2, .ref q3, .ref q4, .null, .null, .null, .null, .null, .null])), (q1, .inl (G.2.1 0, 20, .inl (fun _ => 0))), (q2, .inl (G.2.1 0, 20, .inl (fun _ => 0))), (q3, .inl (G.2.1 0, 20, .inl (fun _ => 0))), (q4, .inl (G.2.1 0, 20, .inl (fun _ => 0)))]) rfl ?_
  refine haload_n X dX6_init_36 rfl ?_
  refine hbipush (v := 20) X dX6_init_37 rfl ?_
  refine hnewa X (atype := .int) (ty := .int) (by decide +kernel) rfl 0 rfl (a0 := (20, .inl (fun _ => 0))) (fun _ => rfl) (by decide) (N' := 20) rfl (Nat.le_of_ble_eq_true rfl) (Nat.le_of_ble_eq_true rfl) (Nat.le_of_ble_eq_true rfl) dX6_init_39 (fun q5 => ?_)
  refine hV_to (ws' := [(a, .inr (6, [.int 0, .ref q1, .ref q2, .ref q3, .ref q4, .null, .null, .null, .null, .null, .null])), (q1, .inl (G.2.1 0, 20, .inl (fun _ => 0))), (q2, .inl (G.2.1 0, 20, .inl (fun _ => 0))), (q3, .inl (G.2.1 0, 20, .inl (fun _ => 0))), (q4, .inl (G.2.1 0, 20, .inl (fun _ => 0))), (q5, .inl (G.2.1 0, 20, .inl (fun _ => 0)))]) rfl rfl rfl ?_
  refine hputF X (hin rfl) iX6 tyX6 tyX6_ok nmX6 0 rfl rfl 5 (by decide) (by decide +kernel) rfl rfl rfl rfl (Nat.le_of_ble_eq_true rfl) dX6_init_41 (ws' := [(a, .inr (6, [.int 0, .ref q1, .ref q2, .ref q3, .ref q4, .ref q5, .null, .null, .null, .null, .null])), (q1, .inl (G.2.1 0, 20, .inl (fun _ => 0))), (q2, .inl (G.2.1 0, 20, .inl (fun _ => 0))), (q3, .inl (G.2.1 0, 20, .inl (fun _ => 0))), (q4, .inl (G.2.1 0, 20, .inl (fun _ => 0))), (q5, .inl (G.2.1 0, 20, .inl (fun _ => 0)))]) rfl ?_
  refine haload_n X dX6_init_44 rfl ?_
  refine hbipush (v := 20) X dX6_init_45 rfl ?_
  refine hnewa X (atype := .int) (ty := .int) (by decide +kernel) rfl 0 rfl (a0 := (20, .inl (fun _ => 0))) (fun _ => rfl) (by decide) (N' := 20) rfl (Nat.le_of_ble_eq_true rfl) (Nat.le_of_ble_eq_true rfl) (Nat.le_of_ble_eq_true rfl) dX6_init_47 (fun q6 => ?_)
  refine hV_to (ws' := [(a, .inr (6, [.int 0, .ref q1, .ref q2, .ref q3, .ref q4, .ref q5, .null, .null, .null, .null, .null])), (q1, .inl (G.2.1 0, 20, .inl (fun _ => 0))), (q2, .inl (G.2.1 0, 20, .inl (fun _ => 0))), (q3, .inl (G.2.1 0, 20, .inl (fun _ => 0))), (q4, .inl (G.2.1 0, 20, .inl (fun _ => 0))), (q5, .inl (G.2.1 0, 20, .inl (fun _ => 0))), (q6, .inl (G.2.1 0, 20, .inl (fun _ => 0)))]) rfl rfl rfl ?_
  refine hputF X (hin rfl) iX6 tyX6 tyX6_ok nmX6 0 rfl rfl 6 (by decide) (by decide +kernel) rfl rfl rfl rfl (Nat.le_of_ble_eq_true rfl) dX6_init_49 (ws' := [(a, .inr (6, [.int 0, .ref q1, .ref q2, .ref q3, .ref q4, .ref q5, .ref q6, .null, .null, .null, .null])), (q1, .inl (G.2.1 0, 20, .inl (fun _ => 0))), (q2, .inl (G.2.1 0, 20, .inl (fun _ => 0))), (q3, .inl (G.2.1 0, 20, .inl (fun _ => 0))), (q4, .inl (G.2.1 0, 20, .inl (fun _ => 0))), (q5, .inl (G.2.1 0, 20, .inl (fun _ => 0))), (q6, .inl (G.2.1 0, 20, .inl (fun _ => 0)))]) rfl ?_
  refine haload_n X dX6_init_52 rfl ?_
  refine hbipush (v := 20) X dX6_init_53 rfl ?_
  refine hnewa X (atype := .int) (ty := .int) (by decide +kernel) rfl 0 rfl (a0 := (20, .inl (fun _ => 0))) (fun _ => rfl) (by decide) (N' := 20) rfl (Nat.le_of_ble_eq_true rfl) (Nat.le_of_ble_eq_true rfl) (Nat.le_of_ble_eq_true rfl) dX6_init_55 (fun q7 => ?_)
  refine hV_to (ws' := [(a, .inr (6, [.int 0, .ref q1, .ref q2, .ref q3, .ref q4, .ref q5, .ref q6, .null, .null, .null, .null])), (q1, .inl (G.2.1 0, 20, .inl (fun _ => 0))), (q2, .inl (G.2.1 0, 20, .inl (fun _ => 0))), (q3, .inl (G.2.1 0, 20, .inl (fun _ => 0))), (q4, .inl (G.2.1 0, 20, .inl (fun _ => 0))), (q5, .inl (G.2.1 0, 20, .inl (fun _ => 0))), (q6, .inl (G.2.1 0, 20, .inl (fun _ => 0))), (q7, .inl (G.2.1 0, 20, .inl (fun _ => 0)))]) rfl rfl rfl ?_
  refine hputF X (hin rfl) iX6 tyX6 tyX6_ok nmX6 0 rfl rfl 7 (by decide) (by decide +kernel) rfl rfl rfl rfl (Nat.le_of_ble_eq_true rfl) dX6_init_57 (ws' := [(a, .inr (6, [.int 0, .ref q1, .ref q2, .ref q3, .ref q4, .ref q5, .ref q6, .ref q7, .null, .null, .null])), (q1, .inl (G.2.1 0, 20, .inl (fun _ => 0))), (q2, .inl (G.2.1 0, 20, .inl (fun _ => 0))), (q3, .inl (G.2.1 0, 20, .inl (fun _ => 0))), (q4, .inl (G.2.1 0, 20, .inl (fun _ => 0))), (q5, .inl (G.2.1 0, 20, .inl (fun _ => 0))), (q6, .inl (G.2.1 0, 20, .inl (fun _ => 0))), (q7, .inl (G.2.1 0, 20, .inl (fun _ => 0)))]) rfl ?_
  refine haload_n X dX6_init_60 rfl ?_
  refine hbipush (v := 20) X dX6_init_61 rfl ?_
  refine hnewa X (atype := .int) (ty := .int) (by decide +kernel) rfl 0 rfl (a0 := (20, .inl (fun _ => 0))) (fun _ => rfl) (by decide) (N' := 20) rfl (Nat.le_of_ble_eq_true rfl) (Nat.le_of_ble_eq_true rfl) (Nat.le_of_ble_eq_true rfl) dX6_init_63 (fun q8 => ?_)
  refine hV_to (ws' := [(a, .inr (6, [.int 0, .ref q1, .ref q2, .ref q3, .ref q4, .ref q5, .ref q6, .ref q7, .null, .null, .null])), (q1, .inl (G.2.1 0, 20, .inl (fun _ => 0))), (q2, .inl (G.2.1 0, 20, .inl (fun _ => 0))), (q3, .inl (G.2.1 0, 20, .inl (fun _ => 0))), (q4, .inl (G.2.1 0, 20, .inl (fun _ => 0))), (q5, .inl (G.2.1 0, 20, .inl (fun _ => 0))), (q6, .inl (G.2.1 0, 20, .inl (fun _ => 0))), (q7, .inl (G.2.1 0, 20, .inl (fun _ => 0))), (q8, .inl (G.2.1 0, 20, .inl (fun _ => 0)))]) rfl rfl rfl ?_
  refine hputF X (hin rfl) iX6 tyX6 tyX6_ok nmX6 0 rfl rfl 8 (by decide) (by decide +kernel) rfl rfl rfl rfl (Nat.le_of_ble_eq_true rfl) dX6_init_65 (ws' := [(a, .inr (6, [.int 0, .ref q1, .ref q2, .ref q3, .ref q4, .ref q5, .ref q6, .ref q7, .ref q8, .null, .null])), (q1, .inl (G.2.1 0, 20, .inl (fun _ => 0))), (q2, .inl (G.2.1 0, 20, .inl (fun _ => 0))), (q3, .inl (G.2.1 0, 20, .inl (fun _ => 0))), (q4, .inl (G.2.1 0, 20, .inl (fun _ => 0))), (q5, .inl (G.2.1 0, 20, .inl (fun _ => 0))), (q6, .inl (G.2.1 0, 20, .inl (fun _ => 0))), (q7, .inl (G.2.1 0, 20, .inl (fun _ => 0))), (q8, .inl (G.2.1 0, 20, .inl (fun _ => 0)))]) rfl ?_
  refine haload_n X dX6_init_68 rfl ?_
  refine hbipush (v := 20) X dX6_init_69 rfl ?_
  refine hnewa X (atype := .int) (ty := .int) (by decide +kernel) rfl 0 rfl (a0 := (20, .inl (fun _ => 0))) (fun _ => rfl) (by decide) (N' := 20) rfl (Nat.le_of_ble_eq_true rfl) (Nat.le_of_ble_eq_true rfl) (Nat.le_of_ble_eq_true rfl) dX6_init_71 (fun q9 => ?_)
  refine hV_to (ws' := [(a, .inr (6, [.int 0, .ref q1, .ref q2, .ref q3, .ref q4, .ref q5, .ref q6, .ref q7, .ref q8, .null, .null])), (q1, .inl (G.2.1 0, 20, .inl (fun _ => 0))), (q2, .inl (G.2.1 0, 20, .inl (fun _ => 0))), (q3, .inl (G.2.1 0, 20, .inl (fun _ => 0))), (q4, .inl (G.2.1 0, 20, .inl (fun _ => 0))), (q5, .inl (G.2.1 0, 20, .inl (fun _ => 0))), (q6, .inl (G.2.1 0, 20, .inl (fun _ => 0))), (q7, .inl (G.2.1 0, 20, .inl (fun _ => 0))), (q8, .inl (G.2.1 0, 20, .inl (fun _ => 0))), (q9, .inl (G.2.1 0, 20, .inl (fun _ => 0)))]) rfl rfl rfl ?_
  refine hputF X (hin rfl) iX6 tyX6 tyX6_ok nmX6 0 rfl rfl 9 (by decide) (by decide +kernel) rfl rfl rfl rfl (Nat.le_of_ble_eq_true rfl) dX6_init_73 (ws' := [(a, .inr (6, [.int 0, .ref q1, .ref q2, .ref q3, .ref q4, .ref q5, .ref q6, .ref q7, .ref q8, .ref q9, .null])), (q1, .inl (G.2.1 0, 20, .inl (fun _ => 0))), (q2, .inl (G.2.1 0, 20, .inl (fun _ => 0))), (q3, .inl (G.2.1 0, 20, .inl (fun _ => 0))), (q4, .inl (G.2.1 0, 20, .inl (fun _ => 0))), (q5, .inl (G.2.1 0, 20, .inl (fun _ => 0))), (q6, .inl (G.2.1 0, 20, .inl (fun _ => 0))), (q7, .inl (G.2.1 0, 20, .inl (fun _ => 0))), (q8, .inl (G.2.1 0, 20, .inl (fun _ => 0))), (q9, .inl (G.2.1 0, 20, .inl (fun _ => 0)))]) rfl ?_
  refine haload_n X dX6_init_76 rfl ?_
  refine hbipush (v := 20) X dX6_init_77 rfl ?_
  refine hnewa X (atype := .int) (ty := .int) (by decide +kernel) rfl 0 rfl (a0 := (20, .inl (fun _ => 0))) (fun _ => rfl) (by decide) (N' := 20) rfl (Nat.le_of_ble_eq_true rfl) (Nat.le_of_ble_eq_true rfl) (Nat.le_of_ble_eq_true rfl) dX6_init_79 (fun q10 => ?_)
  refine hV_to (ws' := [(a, .inr (6, [.int 0, .ref q1, .ref q2, .ref q3, .ref q4, .ref q5, .ref q6, .ref q7, .ref q8, .ref q9, .null])), (q1, .inl (G.2.1 0, 20, .inl (fun _ => 0))), (q2, .inl (G.2.1 0, 20, .inl (fun _ => 0))), (q3, .inl (G.2.1 0, 20, .inl (fun _ => 0))), (q4, .inl (G.2.1 0, 20, .inl (fun _ => 0))), (q5, .inl (G.2.1 0, 20, .inl (fun _ => 0))), (q6, .inl (G.2.1 0, 20, .inl (fun _ => 0))), (q7, .inl (G.2.1 0, 20, .inl (fun _ => 0))), (q8, .inl (G.2.1 0, 20, .inl (fun _ => 0))), (q9, .inl (G.2.1 0, 20, .inl (fun _ => 0))), (q10, .inl (G.2.1 0, 20, .inl (fun _ => 0)))]) rfl rfl rfl ?_
  refine hputF X (hin rfl) iX6 tyX6 tyX6_ok nmX6 0 rfl rfl 10 (by decide) (by decide +kernel) rfl rfl rfl rfl (Nat.le_of_ble_eq_true rfl) dX6_init_81 (ws' := [(a, .inr (6, [.int 0, .ref q1, .ref q2, .ref q3, .ref q4, .ref q5, .ref q6, .ref q7, .ref q8, .ref q9, .ref q10])), (q1, .inl (G.2.1 0, 20, .inl (fun _ => 0))), (q2, .inl (G.2.1 0, 20, .inl (fun _ => 0))), (q3, .inl (G.2.1 0, 20, .inl (fun _ => 0))), (q4, .inl (G.2.1 0, 20, .inl (fun _ => 0))), (q5, .inl (G.2.1 0, 20, .inl (fun _ => 0))), (q6, .inl (G.2.1 0, 20, .inl (fun _ => 0))), (q7, .inl (G.2.1 0, 20, .inl (fun _ => 0))), (q8, .inl (G.2.1 0, 20, .inl (fun _ => 0))), (q9, .inl (G.2.1 0, 20, .inl (fun _ => 0))), (q10, .inl (G.2.1 0, 20, .inl (fun _ => 0)))]) rfl ?_
  refine hvret X dX6_init_84 ?_
  exact ⟨rfl, fun i => [a, q1, q2, q3, q4, q5, q6, q7, q8, q9, q10].getD (i - 3) 0, rfl, rfl⟩

set_option maxHeartbeats 4000000 in
set_option maxRecDepth 100000 in
theorem kX0_init (l : Launch) (G : hG) (a : Nat) : hM l G yX0_init wsX0_init ({ frames := 1, cells := 6, slots := 36, locals := 40 }) [(a, .inr (0, [.int 0, .null, .null, .null, .null, .null, .null]))] [.ref a] (fun v w => v = none ∧ ∃ h : Nat → Nat, h 14 = a ∧ w = crW G h 0 F1) := by
  refine hM_of (cc := cX0_init) (maxL := 1) (ret := none) (by decide) rfl (Nat.le_of_ble_eq_true rfl) ?_
  intro pp ee ss mm aa bb me cd X hin
  have iX0 : ∀ w ∈ wsX00, w ∈ wsX0_init := by decide +kernel
  refine haload_n X dX0_init_0 rfl ?_
  refine hobj X (by decide +kernel) (by decide +kernel) (by decide +kernel) dX0_init_1 (Nat.le_of_ble_eq_true rfl) (Nat.le_of_ble_eq_true rfl) ?_
  refine haload_n X dX0_init_4 rfl ?_
  refine hbipush (v := 6) X dX0_init_5 rfl ?_
  refine hnewa X (atype := .int) (ty := .int) (by decide +kernel) rfl 0 rfl (a0 := (6, .inl (fun _ => 0))) (fun _ => rfl) (by decide) (N' := 6) rfl (Nat.le_of_ble_eq_true rfl) (Nat.le_of_ble_eq_true rfl) (Nat.le_of_ble_eq_true rfl) dX0_init_7 (fun q1 => ?_)
  refine hV_to (ws' := [(a, .inr (0, [.int 0, .null, .null, .null, .null, .null, .null])), (q1, .inl (G.2.1 0, 6, .inl (fun _ => 0)))]) rfl rfl rfl ?_
  refine hputF X (hin rfl) iX0 tyX0 tyX0_ok nmX0 0 rfl rfl 1 (by decide) (by decide +kernel) rfl rfl rfl rfl (Nat.le_of_ble_eq_true rfl) dX0_init_9 (ws' := [(a, .inr (0, [.int 0, .ref q1, .null, .null, .null, .null, .null])), (q1, .inl (G.2.1 0, 6, .inl (fun _ => 0)))]) rfl ?_
  refine haload_n X dX0_init_12 rfl ?_
  refine hbipush (v := 6) X dX0_init_13 rfl ?_
  refine hnewa X (atype := .int) (ty := .int) (by decide +kernel) rfl 0 rfl (a0 := (6, .inl (fun _ => 0))) (fun _ => rfl) (by decide) (N' := 6) rfl (Nat.le_of_ble_eq_true rfl) (Nat.le_of_ble_eq_true rfl) (Nat.le_of_ble_eq_true rfl) dX0_init_15 (fun q2 => ?_)
  refine hV_to (ws' := [(a, .inr (0, [.int 0, .ref q1, .null, .null, .null, .null, .null])), (q1, .inl (G.2.1 0, 6, .inl (fun _ => 0))), (q2, .inl (G.2.1 0, 6, .inl (fun _ => 0)))]) rfl rfl rfl ?_
  refine hputF X (hin rfl) iX0 tyX0 tyX0_ok nmX0 0 rfl rfl 2 (by decide) (by decide +kernel) rfl rfl rfl rfl (Nat.le_of_ble_eq_true rfl) dX0_init_17 (ws' := [(a, .inr (0, [.int 0, .ref q1, .ref q2, .null, .null, .null, .null])), (q1, .inl (G.2.1 0, 6, .inl (fun _ => 0))), (q2, .inl (G.2.1 0, 6, .inl (fun _ => 0)))]) rfl ?_
  refine haload_n X dX0_init_20 rfl ?_
  refine hbipush (v := 6) X dX0_init_21 rfl ?_
  refine hnewa X (atype := .int) (ty := .int) (by decide +kernel) rfl 0 rfl (a0 := (6, .inl (fun _ => 0))) (fun _ => rfl) (by decide) (N' := 6) rfl (Nat.le_of_ble_eq_true rfl) (Nat.le_of_ble_eq_true rfl) (Nat.le_of_ble_eq_true rfl) dX0_init_23 (fun q3 => ?_)
  refine hV_to (ws' := [(a, .inr (0, [.int 0, .ref q1, .ref q2, .null, .null, .null, .null])), (q1, .inl (G.2.1 0, 6, .inl (fun _ => 0))), (q2, .inl (G.2.1 0, 6, .inl (fun _ => 0))), (q3, .inl (G.2.1 0, 6, .inl (fun _ => 0)))]) rfl rfl rfl ?_
  refine hputF X (hin rfl) iX0 tyX0 tyX0_ok nmX0 0 rfl rfl 3 (by decide) (by decide +kernel) rfl rfl rfl rfl (Nat.le_of_ble_eq_true rfl) dX0_init_25 (ws' := [(a, .inr (0, [.int 0, .ref q1, .ref q2, .ref q3, .null, .null, .null])), (q1, .inl (G.2.1 0, 6, .inl (fun _ => 0))), (q2, .inl (G.2.1 0, 6, .inl (fun _ => 0))), (q3, .inl (G.2.1 0, 6, .inl (fun _ => 0)))]) rfl ?_
  refine haload_n X dX0_init_28 rfl ?_
  refine hbipush (v := 6) X dX0_init_29 rfl ?_
  refine hnewa X (atype := .int) (ty := .int) (by decide +kernel) rfl 0 rfl (a0 := (6, .inl (fun _ => 0))) (fun _ => rfl) (by decide) (N' := 6) rfl (Nat.le_of_ble_eq_true rfl) (Nat.le_of_ble_eq_true rfl) (Nat.le_of_ble_eq_true rfl) dX0_init_31 (fun q4 => ?_)
  refine hV_to (ws' := [(a, .inr (0, [.int 0, .ref q1, .ref q2, .ref q3, .null, .null, .null])), (q1, .inl (G.2.1 0, 6, .inl (fun _ => 0))), (q2, .inl (G.2.1 0, 6, .inl (fun _ => 0))), (q3, .inl (G.2.1 0, 6, .inl (fun _ => 0))), (q4, .inl (G.2.1 0, 6, .inl (fun _ => 0)))]) rfl rfl rfl ?_
  refine hputF X (hin rfl) iX0 tyX0 tyX0_ok nmX0 0 rfl rfl 4 (by decide) (by decide +kernel) rfl rfl rfl rfl (Nat.le_of_ble_eq_true rfl) dX0_init_33 (ws' := [(a, .inr (0, [.int 0, .ref q1, .ref q2, .ref q3, .ref q4, .null, .null])), (q1, .inl (G.2.1 0, 6, .inl (fun _ => 0))), (q2, .inl (G.2.1 0, 6, .inl (fun _ => 0))), (q3, .inl (G.2.1 0, 6, .inl (fun _ => 0))), (q4, .inl (G.2.1 0, 6, .inl (fun _ => 0)))]) rfl ?_
  refine haload_n X dX0_init_36 rfl ?_
  refine hbipush (v := 6) X dX0_init_37 rfl ?_
  refine hnewa X (atype := .int) (ty := .int) (by decide +kernel) rfl 0 rfl (a0 := (6, .inl (fun _ => 0))) (fun _ => rfl) (by decide) (N' := 6) rfl (Nat.le_of_ble_eq_true rfl) (Nat.le_of_ble_eq_true rfl) (Nat.le_of_ble_eq_true rfl) dX0_init_39 (fun q5 => ?_)
  refine hV_to (ws' := [(a, .inr (0, [.int 0, .ref q1, .ref q2, .ref q3, .ref q4, .null, .null])), (q1, .inl (G.2.1 0, 6, .inl (fun _ => 0))), (q2, .inl (G.2.1 0, 6, .inl (fun _ => 0))), (q3, .inl (G.2.1 0, 6, .inl (fun _ => 0))), (q4, .inl (G.2.1 0, 6, .inl (fun _ => 0))), (q5, .inl (G.2.1 0, 6, .inl (fun _ => 0)))]) rfl rfl rfl ?_
  refine hputF X (hin rfl) iX0 tyX0 tyX0_ok nmX0 0 rfl rfl 5 (by decide) (by decide +kernel) rfl rfl rfl rfl (Nat.le_of_ble_eq_true rfl) dX0_init_41 (ws' := [(a, .inr (0, [.int 0, .ref q1, .ref q2, .ref q3, .ref q4, .ref q5, .null])), (q1, .inl (G.2.1 0, 6, .inl (fun _ => 0))), (q2, .inl (G.2.1 0, 6, .inl (fun _ => 0))), (q3, .inl (G.2.1 0, 6, .inl (fun _ => 0))), (q4, .inl (G.2.1 0, 6, .inl (fun _ => 0))), (q5, .inl (G.2.1 0, 6, .inl (fun _ => 0)))]) rfl ?_
  refine haload_n X dX0_init_44 rfl ?_
  refine hbipush (v := 6) X dX0_init_45 rfl ?_
  refine hnewa X (atype := .int) (ty := .int) (by decide +kernel) rfl 0 rfl (a0 := (6, .inl (fun _ => 0))) (fun _ => rfl) (by decide) (N' := 6) rfl (Nat.le_of_ble_eq_true rfl) (Nat.le_of_ble_eq_true rfl) (Nat.le_of_ble_eq_true rfl) dX0_init_47 (fun q6 => ?_)
  refine hV_to (ws' := [(a, .inr (0, [.int 0, .ref q1, .ref q2, .ref q3, .ref q4, .ref q5, .null])), (q1, .inl (G.2.1 0, 6, .inl (fun _ => 0))), (q2, .inl (G.2.1 0, 6, .inl (fun _ => 0))), (q3, .inl (G.2.1 0, 6, .inl (fun _ => 0))), (q4, .inl (G.2.1 0, 6, .inl (fun _ => 0))), (q5, .inl (G.2.1 0, 6, .inl (fun _ => 0))), (q6, .inl (G.2.1 0, 6, .inl (fun _ => 0)))]) rfl rfl rfl ?_
  refine hputF X (hin rfl) iX0 tyX0 tyX0_ok nmX0 0 rfl rfl 6 (by decide) (by decide +kernel) rfl rfl rfl rfl (Nat.le_of_ble_eq_true rfl) dX0_init_49 (ws' := [(a, .inr (0, [.int 0, .ref q1, .ref q2, .ref q3, .ref q4, .ref q5, .ref q6])), (q1, .inl (G.2.1 0, 6, .inl (fun _ => 0))), (q2, .inl (G.2.1 0, 6, .inl (fun _ => 0))), (q3, .inl (G.2.1 0, 6, .inl (fun _ => 0))), (q4, .inl (G.2.1 0, 6, .inl (fun _ => 0))), (q5, .inl (G.2.1 0, 6, .inl (fun _ => 0))), (q6, .inl (G.2.1 0, 6, .inl (fun _ => 0)))]) rfl ?_
  refine hvret X dX0_init_52 ?_
  exact ⟨rfl, fun i => [a, q1, q2, q3, q4, q5, q6].getD (i - 14) 0, rfl, rfl⟩

set_option maxHeartbeats 4000000 in
set_option maxRecDepth 100000 in
theorem kX4_init (l : Launch) (G : hG) (a : Nat) : hM l G yX4_init wsX4_init ({ frames := 1, cells := 1, slots := 80, locals := 40 }) [(a, .inr (4, [.null, .int 0]))] [.ref a] (fun v w => v = none ∧ ∃ r : Nat → Nat, r 1 = a ∧ w = pdW G r 0 (fun _ => 0)) := by
  refine hM_of (cc := cX4_init) (maxL := 1) (ret := none) (by decide) rfl (Nat.le_of_ble_eq_true rfl) ?_
  intro pp ee ss mm aa bb me cd X hin
  have iX4 : ∀ w ∈ wsX40, w ∈ wsX4_init := by decide +kernel
  refine haload_n X dX4_init_0 rfl ?_
  refine hobj X (by decide +kernel) (by decide +kernel) (by decide +kernel) dX4_init_1 (Nat.le_of_ble_eq_true rfl) (Nat.le_of_ble_eq_true rfl) ?_
  refine haload_n X dX4_init_4 rfl ?_
  refine hbipush (v := 80) X dX4_init_5 rfl ?_
  refine hnewa X (atype := .char) (ty := .char) (by decide +kernel) rfl 1 rfl (a0 := (80, .inl (fun _ => 0))) (fun _ => rfl) (by decide) (N' := 80) rfl (Nat.le_of_ble_eq_true rfl) (Nat.le_of_ble_eq_true rfl) (Nat.le_of_ble_eq_true rfl) dX4_init_7 (fun q1 => ?_)
  refine hV_to (ws' := [(a, .inr (4, [.null, .int 0])), (q1, .inl (G.2.1 1, 80, .inl (fun _ => 0)))]) rfl rfl rfl ?_
  refine hputF X (hin rfl) iX4 tyX4 tyX4_ok nmX4 0 rfl rfl 0 (by decide) (by decide +kernel) rfl rfl rfl rfl (Nat.le_of_ble_eq_true rfl) dX4_init_9 (ws' := [(a, .inr (4, [.ref q1, .int 0])), (q1, .inl (G.2.1 1, 80, .inl (fun _ => 0)))]) rfl ?_
  refine hvret X dX4_init_12 ?_
  exact ⟨rfl, fun i => [a, q1].getD (i - 1) 0, rfl, rfl⟩

def E1 : hF := fun j => if j = 0 then upd (upd (upd (fun _ => 0) 0 20) 1 2) 2 60 else fun _ => 0
set_option maxHeartbeats 4000000 in
set_option maxRecDepth 100000 in
theorem kX8_init (l : Launch) (G : hG) (a : Nat) : hM l G yX8_init wsX8_init ({ frames := 1, cells := 6, slots := 2582, locals := 40 }) [(a, .inr (8, [.null, .null, .null, .int 0, .null, .null, .null, .int 0, .int 0, .int 0, .int 0, .int 0, .int 0, .int 0]))] [.ref a] (fun v w => v = none ∧ ∃ q : Nat → Nat, q 0 = a ∧ w = mW G q E1) := by
  refine hM_of (cc := cX8_init) (maxL := 1) (ret := none) (by decide) rfl (Nat.le_of_ble_eq_true rfl) ?_
  intro pp ee ss mm aa bb me cd X hin
  have iX8 : ∀ w ∈ wsX80, w ∈ wsX8_init := by decide +kernel
  refine haload_n X dX8_init_0 rfl ?_
  refine hobj X (by decide +kernel) (by decide +kernel) (by decide +kernel) dX8_init_1 (Nat.le_of_ble_eq_true rfl) (Nat.le_of_ble_eq_true rfl) ?_
  refine haload_n X dX8_init_4 rfl ?_
  refine hsipush (v := 250) X dX8_init_5 rfl ?_
  refine hnewa X (atype := .int) (ty := .int) (by decide +kernel) rfl 0 rfl (a0 := (250, .inl (fun _ => 0))) (fun _ => rfl) (by decide) (N' := 250) rfl (Nat.le_of_ble_eq_true rfl) (Nat.le_of_ble_eq_true rfl) (Nat.le_of_ble_eq_true rfl) dX8_init_8 (fun q1 => ?_)
  refine hV_to (ws' := [(a, .inr (8, [.null, .null, .null, .int 0, .null, .null, .null, .int 0, .int 0, .int 0, .int 0, .int 0, .int 0, .int 0])), (q1, .inl (G.2.1 0, 250, .inl (fun _ => 0)))]) rfl rfl rfl ?_
  refine hputF X (hin rfl) iX8 tyX8 tyX8_ok nmX8 0 rfl rfl 0 (by decide) (by decide +kernel) rfl rfl rfl rfl (Nat.le_of_ble_eq_true rfl) dX8_init_10 (ws' := [(a, .inr (8, [.ref q1, .null, .null, .int 0, .null, .null, .null, .int 0, .int 0, .int 0, .int 0, .int 0, .int 0, .int 0])), (q1, .inl (G.2.1 0, 250, .inl (fun _ => 0)))]) rfl ?_
  refine haload_n X dX8_init_13 rfl ?_
  refine hsipush (v := 250) X dX8_init_14 rfl ?_
  refine hnewa X (atype := .int) (ty := .int) (by decide +kernel) rfl 0 rfl (a0 := (250, .inl (fun _ => 0))) (fun _ => rfl) (by decide) (N' := 250) rfl (Nat.le_of_ble_eq_true rfl) (Nat.le_of_ble_eq_true rfl) (Nat.le_of_ble_eq_true rfl) dX8_init_17 (fun q2 => ?_)
  refine hV_to (ws' := [(a, .inr (8, [.ref q1, .null, .null, .int 0, .null, .null, .null, .int 0, .int 0, .int 0, .int 0, .int 0, .int 0, .int 0])), (q1, .inl (G.2.1 0, 250, .inl (fun _ => 0))), (q2, .inl (G.2.1 0, 250, .inl (fun _ => 0)))]) rfl rfl rfl ?_
  refine hputF X (hin rfl) iX8 tyX8 tyX8_ok nmX8 0 rfl rfl 1 (by decide) (by decide +kernel) rfl rfl rfl rfl (Nat.le_of_ble_eq_true rfl) dX8_init_19 (ws' := [(a, .inr (8, [.ref q1, .ref q2, .null, .int 0, .null, .null, .null, .int 0, .int 0, .int 0, .int 0, .int 0, .int 0, .int 0])), (q1, .inl (G.2.1 0, 250, .inl (fun _ => 0))), (q2, .inl (G.2.1 0, 250, .inl (fun _ => 0)))]) rfl ?_
  refine haload_n X dX8_init_22 rfl ?_
  refine hsipush (v := 1500) X dX8_init_23 rfl ?_
  refine hnewa X (atype := .int) (ty := .int) (by decide +kernel) rfl 0 rfl (a0 := (1500, .inl (fun _ => 0))) (fun _ => rfl) (by decide) (N' := 1500) rfl (Nat.le_of_ble_eq_true rfl) (Nat.le_of_ble_eq_true rfl) (Nat.le_of_ble_eq_true rfl) dX8_init_26 (fun q3 => ?_)
  refine hV_to (ws' := [(a, .inr (8, [.ref q1, .ref q2, .null, .int 0, .null, .null, .null, .int 0, .int 0, .int 0, .int 0, .int 0, .int 0, .int 0])), (q1, .inl (G.2.1 0, 250, .inl (fun _ => 0))), (q2, .inl (G.2.1 0, 250, .inl (fun _ => 0))), (q3, .inl (G.2.1 0, 1500, .inl (fun _ => 0)))]) rfl rfl rfl ?_
  refine hputF X (hin rfl) iX8 tyX8 tyX8_ok nmX8 0 rfl rfl 2 (by decide) (by decide +kernel) rfl rfl rfl rfl (Nat.le_of_ble_eq_true rfl) dX8_init_28 (ws' := [(a, .inr (8, [.ref q1, .ref q2, .ref q3, .int 0, .null, .null, .null, .int 0, .int 0, .int 0, .int 0, .int 0, .int 0, .int 0])), (q1, .inl (G.2.1 0, 250, .inl (fun _ => 0))), (q2, .inl (G.2.1 0, 250, .inl (fun _ => 0))), (q3, .inl (G.2.1 0, 1500, .inl (fun _ => 0)))]) rfl ?_
  refine haload_n X dX8_init_31 rfl ?_
  refine hsipush (v := 500) X dX8_init_32 rfl ?_
  refine hnewa X (atype := .int) (ty := .int) (by decide +kernel) rfl 0 rfl (a0 := (500, .inl (fun _ => 0))) (fun _ => rfl) (by decide) (N' := 500) rfl (Nat.le_of_ble_eq_true rfl) (Nat.le_of_ble_eq_true rfl) (Nat.le_of_ble_eq_true rfl) dX8_init_35 (fun q4 => ?_)
  refine hV_to (ws' := [(a, .inr (8, [.ref q1, .ref q2, .ref q3, .int 0, .null, .null, .null, .int 0, .int 0, .int 0, .int 0, .int 0, .int 0, .int 0])), (q1, .inl (G.2.1 0, 250, .inl (fun _ => 0))), (q2, .inl (G.2.1 0, 250, .inl (fun _ => 0))), (q3, .inl (G.2.1 0, 1500, .inl (fun _ => 0))), (q4, .inl (G.2.1 0, 500, .inl (fun _ => 0)))]) rfl rfl rfl ?_
  refine hputF X (hin rfl) iX8 tyX8 tyX8_ok nmX8 0 rfl rfl 4 (by decide) (by decide +kernel) rfl rfl rfl rfl (Nat.le_of_ble_eq_true rfl) dX8_init_37 (ws' := [(a, .inr (8, [.ref q1, .ref q2, .ref q3, .int 0, .ref q4, .null, .null, .int 0, .int 0, .int 0, .int 0, .int 0, .int 0, .int 0])), (q1, .inl (G.2.1 0, 250, .inl (fun _ => 0))), (q2, .inl (G.2.1 0, 250, .inl (fun _ => 0))), (q3, .inl (G.2.1 0, 1500, .inl (fun _ => 0))), (q4, .inl (G.2.1 0, 500, .inl (fun _ => 0)))]) rfl ?_
  refine haload_n X dX8_init_40 rfl ?_
  refine hiconst (v := 2) X dX8_init_41 rfl ?_
  refine hnewa X (atype := .int) (ty := .int) (by decide +kernel) rfl 0 rfl (a0 := (2, .inl (fun _ => 0))) (fun _ => rfl) (by decide) (N' := 2) rfl (Nat.le_of_ble_eq_true rfl) (Nat.le_of_ble_eq_true rfl) (Nat.le_of_ble_eq_true rfl) dX8_init_42 (fun q5 => ?_)
  refine hV_to (ws' := [(a, .inr (8, [.ref q1, .ref q2, .ref q3, .int 0, .ref q4, .null, .null, .int 0, .int 0, .int 0, .int 0, .int 0, .int 0, .int 0])), (q1, .inl (G.2.1 0, 250, .inl (fun _ => 0))), (q2, .inl (G.2.1 0, 250, .inl (fun _ => 0))), (q3, .inl (G.2.1 0, 1500, .inl (fun _ => 0))), (q4, .inl (G.2.1 0, 500, .inl (fun _ => 0))), (q5, .inl (G.2.1 0, 2, .inl (fun _ => 0)))]) rfl rfl rfl ?_
  refine hputF X (hin rfl) iX8 tyX8 tyX8_ok nmX8 0 rfl rfl 5 (by decide) (by decide +kernel) rfl rfl rfl rfl (Nat.le_of_ble_eq_true rfl) dX8_init_44 (ws' := [(a, .inr (8, [.ref q1, .ref q2, .ref q3, .int 0, .ref q4, .ref q5, .null, .int 0, .int 0, .int 0, .int 0, .int 0, .int 0, .int 0])), (q1, .inl (G.2.1 0, 250, .inl (fun _ => 0))), (q2, .inl (G.2.1 0, 250, .inl (fun _ => 0))), (q3, .inl (G.2.1 0, 1500, .inl (fun _ => 0))), (q4, .inl (G.2.1 0, 500, .inl (fun _ => 0))), (q5, .inl (G.2.1 0, 2, .inl (fun _ => 0)))]) rfl ?_
  refine haload_n X dX8_init_47 rfl ?_
  refine hbipush (v := 80) X dX8_init_48 rfl ?_
  refine hnewa X (atype := .int) (ty := .int) (by decide +kernel) rfl 0 rfl (a0 := (80, .inl (fun _ => 0))) (fun _ => rfl) (by decide) (N' := 80) rfl (Nat.le_of_ble_eq_true rfl) (Nat.le_of_ble_eq_true rfl) (Nat.le_of_ble_eq_true rfl) dX8_init_50 (fun q6 => ?_)
  refine hV_to (ws' := [(a, .inr (8, [.ref q1, .ref q2, .ref q3, .int 0, .ref q4, .ref q5, .null, .int 0, .int 0, .int 0, .int 0, .int 0, .int 0, .int 0])), (q1, .inl (G.2.1 0, 250, .inl (fun _ => 0))), (q2, .inl (G.2.1 0, 250, .inl (fun _ => 0))), (q3, .inl (G.2.1 0, 1500, .inl (fun _ => 0))), (q4, .inl (G.2.1 0, 500, .inl (fun _ => 0))), (q5, .inl (G.2.1 0, 2, .inl (fun _ => 0))), (q6, .inl (G.2.1 0, 80, .inl (fun _ => 0)))]) rfl rfl rfl ?_
  refine hputF X (hin rfl) iX8 tyX8 tyX8_ok nmX8 0 rfl rfl 6 (by decide) (by decide +kernel) rfl rfl rfl rfl (Nat.le_of_ble_eq_true rfl) dX8_init_52 (ws' := [(a, .inr (8, [.ref q1, .ref q2, .ref q3, .int 0, .ref q4, .ref q5, .ref q6, .int 0, .int 0, .int 0, .int 0, .int 0, .int 0, .int 0])), (q1, .inl (G.2.1 0, 250, .inl (fun _ => 0))), (q2, .inl (G.2.1 0, 250, .inl (fun _ => 0))), (q3, .inl (G.2.1 0, 1500, .inl (fun _ => 0))), (q4, .inl (G.2.1 0, 500, .inl (fun _ => 0))), (q5, .inl (G.2.1 0, 2, .inl (fun _ => 0))), (q6, .inl (G.2.1 0, 80, .inl (fun _ => 0)))]) rfl ?_
  refine haload_n X dX8_init_55 rfl ?_
  refine hget1 X (T := TX8) (N := 14) iX8 0 rfl rfl 0 (by decide) (by decide +kernel) rfl dX8_init_56 ?_
  refine hiconst (v := 0) X dX8_init_59 rfl ?_
  refine hbipush (v := 20) X dX8_init_60 rfl ?_
  refine hiast (n := 250) (f := (fun _ => 0)) X 1 rfl 0 rfl (by decide) (by decide) dX8_init_62 (ws' := [(a, .inr (8, [.ref q1, .ref q2, .ref q3, .int 0, .ref q4, .ref q5, .ref q6, .int 0, .int 0, .int 0, .int 0, .int 0, .int 0, .int 0])), (q1, .inl (G.2.1 0, 250, .inl (upd (fun _ => 0) 0 20))), (q2, .inl (G.2.1 0, 250, .inl (fun _ => 0))), (q3, .inl (G.2.1 0, 1500, .inl (fun _ => 0))), (q4, .inl (G.2.1 0, 500, .inl (fun _ => 0))), (q5, .inl (G.2.1 0, 2, .inl (fun _ => 0))), (q6, .inl (G.2.1 0, 80, .inl (fun _ => 0)))]) rfl ?_
  refine haload_n X dX8_init_63 rfl ?_
  refine hget1 X (T := TX8) (N := 14) iX8 0 rfl rfl 0 (by decide) (by decide +kernel) rfl dX8_init_64 ?_
  refine hiconst (v := 1) X dX8_init_67 rfl ?_
  refine hiconst (v := 2) X dX8_init_68 rfl ?_
  refine hiast (n := 250) (f := (upd (fun _ => 0) 0 20)) X 1 rfl 1 rfl (by decide) (by decide) dX8_init_69 (ws' := [(a, .inr (8, [.ref q1, .ref q2, .ref q3, .int 0, .ref q4, .ref q5, .ref q6, .int 0, .int 0, .int 0, .int 0, .int 0, .int 0, .int 0])), (q1, .inl (G.2.1 0, 250, .inl (upd (upd (fun _ => 0) 0 20) 1 2))), (q2, .inl (G.2.1 0, 250, .inl (fun _ => 0))), (q3, .inl (G.2.1 0, 1500, .inl (fun _ => 0))), (q4, .inl (G.2.1 0, 500, .inl (fun _ => 0))), (q5, .inl (G.2.1 0, 2, .inl (fun _ => 0))), (q6, .inl (G.2.1 0, 80, .inl (fun _ => 0)))]) rfl ?_
  refine haload_n X dX8_init_70 rfl ?_
  refine hget1 X (T := TX8) (N := 14) iX8 0 rfl rfl 0 (by decide) (by decide +kernel) rfl dX8_init_71 ?_
  refine hiconst (v := 2) X dX8_init_74 rfl ?_
  refine hbipush (v := 60) X dX8_init_75 rfl ?_
  refine hiast (n := 250) (f := (upd (upd (fun _ => 0) 0 20) 1 2)) X 1 rfl 2 rfl (by decide) (by decide) dX8_init_77 (ws' := [(a, .inr (8, [.ref q1, .ref q2, .ref q3, .int 0, .ref q4, .ref q5, .ref q6, .int 0, .int 0, .int 0, .int 0, .int 0, .int 0, .int 0])), (q1, .inl (G.2.1 0, 250, .inl (upd (upd (upd (fun _ => 0) 0 20) 1 2) 2 60))), (q2, .inl (G.2.1 0, 250, .inl (fun _ => 0))), (q3, .inl (G.2.1 0, 1500, .inl (fun _ => 0))), (q4, .inl (G.2.1 0, 500, .inl (fun _ => 0))), (q5, .inl (G.2.1 0, 2, .inl (fun _ => 0))), (q6, .inl (G.2.1 0, 80, .inl (fun _ => 0)))]) rfl ?_
  refine hvret X dX8_init_78 ?_
  exact ⟨rfl, fun i => [a, q1, q2, q3, q4, q5, q6].getD (i - 0) 0, rfl, rfl⟩

