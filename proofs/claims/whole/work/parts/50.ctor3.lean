/-! the object is made -/
theorem pbNew {α : Type} (o u r a l t s m : List α) : (o ++ (r ++ ((s ++ m) ++ ((u ++ l) ++ (t ++ (a ++ [])))))).Perm (o ++ (u ++ (r ++ (a ++ (l ++ (t ++ (s ++ m))))))) := by
  refine List.Perm.append_left o ?_
  rw [List.append_nil, List.append_assoc s, List.append_assoc u]
  refine (pb3 r s m u (l ++ (t ++ a))).trans (List.Perm.append_left u (List.Perm.append_left r ?_))
  have h1 := pb4 s m l t a []
  have h2 := pb2 s m l (t ++ [])
  have h3 : (s ++ (m ++ (t ++ []))).Perm (t ++ (s ++ m)) := by
    have h := pb2 s m t ([] : List α)
    rw [List.append_nil m] at h
    exact h
  rw [List.append_nil] at h1
  exact h1.trans (List.Perm.append_left a (h2.trans (List.Perm.append_left l h3)))
set_option maxHeartbeats 4000000 in
set_option maxRecDepth 100000 in
theorem kX7_init (l : Launch) (G : hG) (a : Nat) : hM l G yX7_init wsX7_init ({ frames := 4, cells := 239, slots := 3043, locals := 110 }) [(a, .inr (7, [.null, .null, .null, .null, .null, .null]))] [.ref a] (fun v' w' => v' = none ∧ ∃ (w h t u v : Nat → Nat) (k kk : Nat → Nat → Nat) (r : Nat → Nat), w 0 = a ∧ w' = hbW G w h t u v k kk r 0 0 F1 0 0 F1 0 0 (fun _ => 0) (fun _ => 0) (fun _ => F1) (fun _ => 0) (fun _ => 0) (fun _ => 0) (fun _ => F1) 0 (fun _ => 0) (fun _ => 0)) := by
  refine hM_of (cc := cX7_init) (maxL := 1) (ret := none) (by decide) rfl (Nat.le_of_ble_eq_true rfl) ?_
  intro pp ee ss mm aa bb me cd X hin
  have iX7 : ∀ w ∈ wsX70, w ∈ wsX7_init := by decide +kernel
  have iX1 : ∀ w ∈ wsX10, w ∈ wsX7_init := by decide +kernel
  have iX2 : ∀ w ∈ wsX20, w ∈ wsX7_init := by decide +kernel
  have iX5 : ∀ w ∈ wsX50, w ∈ wsX7_init := by decide +kernel
  have iX3 : ∀ w ∈ wsX30, w ∈ wsX7_init := by decide +kernel
  have iX6 : ∀ w ∈ wsX60, w ∈ wsX7_init := by decide +kernel
  have iX0 : ∀ w ∈ wsX00, w ∈ wsX7_init := by decide +kernel
  have iX4 : ∀ w ∈ wsX40, w ∈ wsX7_init := by decide +kernel
  refine haload_n X dX7_init_0 rfl ?_
  refine hobj X (by decide +kernel) (by decide +kernel) (by decide +kernel) dX7_init_1 (Nat.le_of_ble_eq_true rfl) (Nat.le_of_ble_eq_true rfl) ?_
  refine hV_to (ws' := [(a, .inr (7, [.null, .null, .null, .null, .null, .null]))] ++ ([] : va_W)) rfl rfl rfl ?_
  refine haload_n X dX7_init_4 rfl ?_
  refine hnew (C := RX1) (T := TX1) (N := 7) (ci := 1) (fs := [.null, .null, .null, .null, .int 0, .int 0, .int 0]) X iX1 tyX1 tyX1_ok (by decide +kernel) (by decide +kernel) (by decide +kernel) rfl (fun j hj => by rcases (show j = 0 ∨ j = 1 ∨ j = 2 ∨ j = 3 ∨ j = 4 ∨ j = 5 ∨ j = 6 by omega) with rfl | rfl | rfl | rfl | rfl | rfl | rfl <;> rfl) (Nat.le_of_ble_eq_true rfl) (Nat.le_of_ble_eq_true rfl) dX7_init_5 (fun q1 => ?_)
  refine hdup X dX7_init_8 rfl ?_
  refine hV_perm (ws' := [(q1, .inr (1, [.null, .null, .null, .null, .int 0, .int 0, .int 0]))] ++ ([(a, .inr (7, [.null, .null, .null, .null, .null, .null]))] ++ ([] : va_W))) List.perm_append_comm ?_
  refine hcallIN (n := 0) (As := []) (rest := [.ref q1, .ref a]) X (kX1_init l G q1) gX7_init_X1_init_n9 rfl (by decide +kernel) (by decide +kernel) (by decide +kernel) rfl (by decide +kernel) (by decide) rfl rfl (Nat.le_of_ble_eq_true rfl) dX7_init_9 ⟨Nat.le_of_ble_eq_true rfl, Nat.le_of_ble_eq_true rfl⟩ ?_
  rintro _ _ ⟨rfl, h, rfl, rfl⟩
  refine hV_perm (ws' := [(a, .inr (7, [.null, .null, .null, .null, .null, .null]))] ++ (haW G h 0 0 F1 ++ ([] : va_W))) (pm2 _ _ _) ?_
  refine hV_st (st' := [.ref (h 0), .ref a]) rfl ?_
  refine hputF X (hin rfl) iX7 tyX7 tyX7_ok nmX7 0 rfl rfl 0 (by decide) (by decide +kernel) rfl rfl rfl rfl (Nat.le_of_ble_eq_true rfl) dX7_init_12 (ws' := [(a, .inr (7, [.ref (h 0), .null, .null, .null, .null, .null]))] ++ (haW G h 0 0 F1 ++ ([] : va_W))) rfl ?_
  refine haload_n X dX7_init_15 rfl ?_
  refine hnew (C := RX1) (T := TX1) (N := 7) (ci := 1) (fs := [.null, .null, .null, .null, .int 0, .int 0, .int 0]) X iX1 tyX1 tyX1_ok (by decide +kernel) (by decide +kernel) (by decide +kernel) rfl (fun j hj => by rcases (show j = 0 ∨ j = 1 ∨ j = 2 ∨ j = 3 ∨ j = 4 ∨ j = 5 ∨ j = 6 by omega) with rfl | rfl | rfl | rfl | rfl | rfl | rfl <;> rfl) (Nat.le_of_ble_eq_true rfl) (Nat.le_of_ble_eq_true rfl) dX7_init_16 (fun q2 => ?_)
  refine hdup X dX7_init_19 rfl ?_
  refine hV_perm (ws' := [(q2, .inr (1, [.null, .null, .null, .null, .int 0, .int 0, .int 0]))] ++ ([(a, .inr (7, [.ref (h 0), .null, .null, .null, .null, .null]))] ++ (haW G h 0 0 F1 ++ ([] : va_W)))) List.perm_append_comm ?_
  refine hcallIN (n := 0) (As := []) (rest := [.ref q2, .ref a]) X (kX1_init l G q2) gX7_init_X1_init_n9 rfl (by decide +kernel) (by decide +kernel) (by decide +kernel) rfl (by decide +kernel) (by decide) rfl rfl (Nat.le_of_ble_eq_true rfl) dX7_init_20 ⟨Nat.le_of_ble_eq_true rfl, Nat.le_of_ble_eq_true rfl⟩ ?_
  rintro _ _ ⟨rfl, t, rfl, rfl⟩
  refine hV_perm (ws' := [(a, .inr (7, [.ref (h 0), .null, .null, .null, .null, .null]))] ++ (haW G t 0 0 F1 ++ (haW G h 0 0 F1 ++ ([] : va_W)))) (pm2 _ _ _) ?_
  refine hV_st (st' := [.ref (t 0), .ref a]) rfl ?_
  refine hputF X (hin rfl) iX7 tyX7 tyX7_ok nmX7 0 rfl rfl 1 (by decide) (by decide +kernel) rfl rfl rfl rfl (Nat.le_of_ble_eq_true rfl) dX7_init_23 (ws' := [(a, .inr (7, [.ref (h 0), .ref (t 0), .null, .null, .null, .null]))] ++ (haW G t 0 0 F1 ++ (haW G h 0 0 F1 ++ ([] : va_W)))) rfl ?_
  refine haload_n X dX7_init_26 rfl ?_
  refine hnew (C := RX2) (T := TX2) (N := 3) (ci := 2) (fs := [.null, .int 0, .int 0]) X iX2 tyX2 tyX2_ok (by decide +kernel) (by decide +kernel) (by decide +kernel) rfl (fun j hj => by rcases (show j = 0 ∨ j = 1 ∨ j = 2 by omega) with rfl | rfl | rfl <;> rfl) (Nat.le_of_ble_eq_true rfl) (Nat.le_of_ble_eq_true rfl) dX7_init_27 (fun q3 => ?_)
  refine hdup X dX7_init_30 rfl ?_
  refine hV_perm (ws' := [(q3, .inr (2, [.null, .int 0, .int 0]))] ++ ([(a, .inr (7, [.ref (h 0), .ref (t 0), .null, .null, .null, .null]))] ++ (haW G t 0 0 F1 ++ (haW G h 0 0 F1 ++ ([] : va_W))))) List.perm_append_comm ?_
  refine hcallI (n := 0) (As := []) (rest := [.ref q3, .ref a]) X (kX2_init l G q3) gX7_init_X2_init rfl (by decide +kernel) (by decide +kernel) (by decide +kernel) rfl (by decide +kernel) (by decide) rfl rfl (Nat.le_of_ble_eq_true rfl) dX7_init_31 ⟨Nat.le_of_ble_eq_true rfl, Nat.le_of_ble_eq_true rfl⟩ ?_
  rintro _ _ ⟨rfl, u, k, rfl, rfl⟩
  refine hV_perm (ws' := [(a, .inr (7, [.ref (h 0), .ref (t 0), .null, .null, .null, .null]))] ++ ((huW G u k 0 0 ++ hlW G k (fun _ => 0) (fun _ => 0) (fun _ => F1) 7) ++ (haW G t 0 0 F1 ++ (haW G h 0 0 F1 ++ ([] : va_W))))) (pm2 _ _ _) ?_
  refine hV_st (st' := [.ref (u 0), .ref a]) rfl ?_
  refine hputF X (hin rfl) iX7 tyX7 tyX7_ok nmX7 0 rfl rfl 2 (by decide) (by decide +kernel) rfl rfl rfl rfl (Nat.le_of_ble_eq_true rfl) dX7_init_34 (ws' := [(a, .inr (7, [.ref (h 0), .ref (t 0), .ref (u 0), .null, .null, .null]))] ++ ((huW G u k 0 0 ++ hlW G k (fun _ => 0) (fun _ => 0) (fun _ => F1) 7) ++ (haW G t 0 0 F1 ++ (haW G h 0 0 F1 ++ ([] : va_W))))) rfl ?_
  refine haload_n X dX7_init_37 rfl ?_
  refine hnew (C := RX5) (T := TX5) (N := 2) (ci := 5) (fs := [.null, .null]) X iX5 tyX5 tyX5_ok (by decide +kernel) (by decide +kernel) (by decide +kernel) rfl (fun j hj => by rcases (show j = 0 ∨ j = 1 by omega) with rfl | rfl <;> rfl) (Nat.le_of_ble_eq_true rfl) (Nat.le_of_ble_eq_true rfl) dX7_init_38 (fun q4 => ?_)
  refine hdup X dX7_init_41 rfl ?_
  refine hV_perm (ws' := [(q4, .inr (5, [.null, .null]))] ++ ([(a, .inr (7, [.ref (h 0), .ref (t 0), .ref (u 0), .null, .null, .null]))] ++ ((huW G u k 0 0 ++ hlW G k (fun _ => 0) (fun _ => 0) (fun _ => F1) 7) ++ (haW G t 0 0 F1 ++ (haW G h 0 0 F1 ++ ([] : va_W)))))) List.perm_append_comm ?_
  refine hcallI (n := 0) (As := []) (rest := [.ref q4, .ref a]) X (kX5_init l G q4) gX7_init_X5_init rfl (by decide +kernel) (by decide +kernel) (by decide +kernel) rfl (by decide +kernel) (by decide) rfl rfl (Nat.le_of_ble_eq_true rfl) dX7_init_42 ⟨Nat.le_of_ble_eq_true rfl, Nat.le_of_ble_eq_true rfl⟩ ?_
  rintro _ _ ⟨rfl, v, kk, rfl, rfl⟩
  refine hV_perm (ws' := [(a, .inr (7, [.ref (h 0), .ref (t 0), .ref (u 0), .null, .null, .null]))] ++ ((soW G v kk (fun _ => 0) ++ hlW G kk (fun _ => 0) (fun _ => 0) (fun _ => F1) 2) ++ ((huW G u k 0 0 ++ hlW G k (fun _ => 0) (fun _ => 0) (fun _ => F1) 7) ++ (haW G t 0 0 F1 ++ (haW G h 0 0 F1 ++ ([] : va_W)))))) (pm2 _ _ _) ?_
  refine hV_st (st' := [.ref (v 0), .ref a]) rfl ?_
  refine hputF X (hin rfl) iX7 tyX7 tyX7_ok nmX7 0 rfl rfl 3 (by decide) (by decide +kernel) rfl rfl rfl rfl (Nat.le_of_ble_eq_true rfl) dX7_init_45 (ws' := [(a, .inr (7, [.ref (h 0), .ref (t 0), .ref (u 0), .ref (v 0), .null, .null]))] ++ ((soW G v kk (fun _ => 0) ++ hlW G kk (fun _ => 0) (fun _ => 0) (fun _ => F1) 2) ++ ((huW G u k 0 0 ++ hlW G k (fun _ => 0) (fun _ => 0) (fun _ => F1) 7) ++ (haW G t 0 0 F1 ++ (haW G h 0 0 F1 ++ ([] : va_W)))))) rfl ?_
  refine haload_n X dX7_init_48 rfl ?_
  refine hnew (C := RX3) (T := TX3) (N := 8) (ci := 3) (fs := [.null, .int 0, .int 0, .int 0, .int 0, .int 0, .int 0, .int 0]) X iX3 tyX3 tyX3_ok (by decide +kernel) (by decide +kernel) (by decide +kernel) rfl (fun j hj => by rcases (show j = 0 ∨ j = 1 ∨ j = 2 ∨ j = 3 ∨ j = 4 ∨ j = 5 ∨ j = 6 ∨ j = 7 by omega) with rfl | rfl | rfl | rfl | rfl | rfl | rfl | rfl <;> rfl) (Nat.le_of_ble_eq_true rfl) (Nat.le_of_ble_eq_true rfl) dX7_init_49 (fun q5 => ?_)
  refine hdup X dX7_init_52 rfl ?_
  refine hV_perm (ws' := [(q5, .inr (3, [.null, .int 0, .int 0, .int 0, .int 0, .int 0, .int 0, .int 0]))] ++ ([(a, .inr (7, [.ref (h 0), .ref (t 0), .ref (u 0), .ref (v 0), .null, .null]))] ++ ((soW G v kk (fun _ => 0) ++ hlW G kk (fun _ => 0) (fun _ => 0) (fun _ => F1) 2) ++ ((huW G u k 0 0 ++ hlW G k (fun _ => 0) (fun _ => 0) (fun _ => F1) 7) ++ (haW G t 0 0 F1 ++ (haW G h 0 0 F1 ++ ([] : va_W))))))) List.perm_append_comm ?_
  refine hcallIN (n := 0) (As := []) (rest := [.ref q5, .ref a]) X (kX3_init l G q5) gX7_init_X3_init_n35 rfl (by decide +kernel) (by decide +kernel) (by decide +kernel) rfl (by decide +kernel) (by decide) rfl rfl (Nat.le_of_ble_eq_true rfl) dX7_init_53 ⟨Nat.le_of_ble_eq_true rfl, Nat.le_of_ble_eq_true rfl⟩ ?_
  rintro _ _ ⟨rfl, r, rfl, rfl⟩
  refine hV_perm (ws' := [(a, .inr (7, [.ref (h 0), .ref (t 0), .ref (u 0), .ref (v 0), .null, .null]))] ++ (rdW G r 0 (fun _ => 0) (fun _ => 0) ++ ((soW G v kk (fun _ => 0) ++ hlW G kk (fun _ => 0) (fun _ => 0) (fun _ => F1) 2) ++ ((huW G u k 0 0 ++ hlW G k (fun _ => 0) (fun _ => 0) (fun _ => F1) 7) ++ (haW G t 0 0 F1 ++ (haW G h 0 0 F1 ++ ([] : va_W))))))) (pm2 _ _ _) ?_
  refine hV_st (st' := [.ref (r 0), .ref a]) rfl ?_
  refine hputF X (hin rfl) iX7 tyX7 tyX7_ok nmX7 0 rfl rfl 4 (by decide) (by decide +kernel) rfl rfl rfl rfl (Nat.le_of_ble_eq_true rfl) dX7_init_56 (ws' := [(a, .inr (7, [.ref (h 0), .ref (t 0), .ref (u 0), .ref (v 0), .ref (r 0), .null]))] ++ (rdW G r 0 (fun _ => 0) (fun _ => 0) ++ ((soW G v kk (fun _ => 0) ++ hlW G kk (fun _ => 0) (fun _ => 0) (fun _ => F1) 2) ++ ((huW G u k 0 0 ++ hlW G k (fun _ => 0) (fun _ => 0) (fun _ => F1) 7) ++ (haW G t 0 0 F1 ++ (haW G h 0 0 F1 ++ ([] : va_W))))))) rfl ?_
  refine haload_n X dX7_init_59 rfl ?_
  refine haload_n X dX7_init_60 rfl ?_
  refine hget1 X (T := TX7) (N := 6) iX7 0 rfl rfl 4 (by decide) (by decide +kernel) rfl dX7_init_61 ?_
  refine hV_st (st' := [.ref (r 0), .ref a]) rfl ?_
  refine hgetN X (T := TX3) (N := 8) iX3 1 rfl rfl 0 (by decide) (by decide +kernel) rfl dX7_init_64 ?_
  refine hV_st (st' := [.ref (r 1), .ref a]) rfl ?_
  refine hputF X (hin rfl) iX7 tyX7 tyX7_ok nmX7 0 rfl rfl 5 (by decide) (by decide +kernel) rfl rfl rfl rfl (Nat.le_of_ble_eq_true rfl) dX7_init_67 (ws' := [(a, .inr (7, [.ref (h 0), .ref (t 0), .ref (u 0), .ref (v 0), .ref (r 0), .ref (r 1)]))] ++ (rdW G r 0 (fun _ => 0) (fun _ => 0) ++ ((soW G v kk (fun _ => 0) ++ hlW G kk (fun _ => 0) (fun _ => 0) (fun _ => F1) 2) ++ ((huW G u k 0 0 ++ hlW G k (fun _ => 0) (fun _ => 0) (fun _ => F1) 7) ++ (haW G t 0 0 F1 ++ (haW G h 0 0 F1 ++ ([] : va_W))))))) rfl ?_
  refine hV_perm (ws' := hbW G (fun _ => a) h t u v k kk r 0 0 F1 0 0 F1 0 0 (fun _ => 0) (fun _ => 0) (fun _ => F1) (fun _ => 0) (fun _ => 0) (fun _ => 0) (fun _ => F1) 0 (fun _ => 0) (fun _ => 0)) (pbNew _ _ _ _ _ _ _ _) ?_
  exact hvret X dX7_init_70 ⟨rfl, fun _ => a, h, t, u, v, k, kk, r, rfl, rfl⟩
