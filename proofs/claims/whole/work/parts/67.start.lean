/-! the law: its loop and its start -/
theorem lw_sub {L : Nat} (hL : L ≤ 2560) : (nI L - nI 5).toInt = (L : Int) - 5 := by
  rw [Int32.toInt_sub, nI_toInt (by omega), nI_toInt (by decide)]
  unfold Int.bmod
  dsimp only
  split <;> omega
section LAW2
variable {p : Program} {l : Launch} {e : Env} {s : State} {m : MethodId} {below : List Frame} {meth : Method} {c : Code} {G : hG} {Q : State → Prop} {cells slots : Nat} {w h t u v : Nat → Nat} {k kk : Nat → Nat → Nat} {r q : Nat → Nat} {b L : Nat} {xs : Nat → Int32}
set_option maxHeartbeats 4000000 in
theorem lw_head (X : hX p s m #[Value.ref b] meth c G (fun a => s.heap.size ≤ a) 4 cL_law RL wsL_law ret) (hS : va_X b L xs s s.heap) (hb : b < s.heap.size) (hL : L ≤ 2560) (hcs : cells ≤ 600000 ∧ slots ≤ 7302250) (Z : ∀ (ws : va_W) (lv : List (Nat × Value)), hV p l e room_1 s m #[Value.ref b] below meth c G (fun a => s.heap.size ≤ a) 4 cells slots Q ws 642 lv [.int 1]) {a : Nat} (hal : a ≤ L) (K : a + 5 ≤ L → lwK p l e s m below meth c G Q cells slots w h t u v k kk r q b 18 (nI (a + 5))) : lwK p l e s m below meth c G Q cells slots w h t u v k kk r q b 18 (nI a) := by
  intro n1 c1 F tn tc Ft x y N C Fs sv SN SC SFs pl T z E H
  refine hiload_n X dL_law_18 rfl ?_
  refine haload_n X dL_law_19 rfl ?_
  refine hslen X hS hb dL_law_20 ?_
  refine hiconst X (v := nI 5) dL_law_21 (by decide) ?_
  refine hisub X dL_law_22 ?_
  refine hicmp_gt X dL_law_23 (tgt := 641) (by decide) (fun g => ?_) (fun g => ?_)
  · refine hiconst X (v := 1) dL_law_641 (by decide) ?_
    exact Z _ _
  · have ha : a + 5 ≤ L := by
      rw [Int32.lt_iff_toInt_lt, lw_sub hL, nI_toInt (by omega)] at g
      omega
    have K1 : lwK p l e s m below meth c G Q cells slots w h t u v k kk r q b 635 (nI a) := by
      intro n1 c1 F tn tc Ft x y N C Fs sv SN SC SFs pl T z E H
      refine hiinc X (v := nI (a + 5)) dL_law_635 rfl (nI_add a 5) (by decide) rfl ?_
      refine hgoto X dL_law_638 (tgt := 18) (by decide) ?_
      exact K ha _ _ _ _ _ _ _ _ _ _ _ _ _ _ _ _ _ _ _ H
    refine haload_n X dL_law_26 rfl ?_
    refine hiload_n X dL_law_27 rfl ?_
    refine hsld X hS hb a rfl (by omega) (by omega) dL_law_28 ?_
    refine hbipush X (v := nI 31) dL_law_29 (by decide) ?_
    refine hiand X dL_law_31 ?_
    generalize (xs a &&& nI 31) = o
    by_cases ho : vB o 0 20
    · obtain ⟨i, rfl, -, hi⟩ := vB_n ho (by decide)
      have hi' : i ≤ 20 := by omega
      clear ho hi
      rcases i with _ | _ | _ | _ | _ | _ | _ | _ | _ | _ | _ | _ | _ | _ | _ | _ | _ | _ | _ | _ | _ | i
      · exact htableIn X dL_law_32 (by decide) (by decide) (off := 100) rfl (tgt := 132) (by decide) (lw_set X hS hb ha hL hcs K1 _ _ _ _ _ _ _ _ _ _ _ _ _ _ _ _ _ _ _ H)
      · exact htableIn X dL_law_32 (by decide) (by decide) (off := 133) rfl (tgt := 165) (by decide) (lw_stand X hS hb ha hL hcs K1 _ _ _ _ _ _ _ _ _ _ _ _ _ _ _ _ _ _ _ H)
      · exact htableIn X dL_law_32 (by decide) (by decide) (off := 186) rfl (tgt := 218) (by decide) (lw_crew X hS hb ha hL hcs K1 _ _ _ _ _ _ _ _ _ _ _ _ _ _ _ _ _ _ _ H)
      · exact htableIn X dL_law_32 (by decide) (by decide) (off := 219) rfl (tgt := 251) (by decide) (lw_end X hS hb ha hL hcs K1 _ _ _ _ _ _ _ _ _ _ _ _ _ _ _ _ _ _ _ H)
      · exact htableIn X dL_law_32 (by decide) (by decide) (off := 232) rfl (tgt := 264) (by decide) (lw_find X hS hb ha hL hcs K1 _ _ _ _ _ _ _ _ _ _ _ _ _ _ _ _ _ _ _ H)
      · exact htableIn X dL_law_32 (by decide) (by decide) (off := 245) rfl (tgt := 277) (by decide) (lw_pass X hS hb ha hL hcs K1 _ _ _ _ _ _ _ _ _ _ _ _ _ _ _ _ _ _ _ H)
      · exact htableIn X dL_law_32 (by decide) (by decide) (off := 268) rfl (tgt := 300) (by decide) (lw_ofStand X hS hb ha hL hcs K1 _ _ _ _ _ _ _ _ _ _ _ _ _ _ _ _ _ _ _ H)
      · exact htableIn X dL_law_32 (by decide) (by decide) (off := 301) rfl (tgt := 333) (by decide) (lw_ofCrew X hS hb ha hL hcs K1 _ _ _ _ _ _ _ _ _ _ _ _ _ _ _ _ _ _ _ H)
      · exact htableIn X dL_law_32 (by decide) (by decide) (off := 334) rfl (tgt := 366) (by decide) (lw_load X hS hb ha hL hcs K1 _ _ _ _ _ _ _ _ _ _ _ _ _ _ _ _ _ _ _ H)
      · exact htableIn X dL_law_32 (by decide) (by decide) (off := 357) rfl (tgt := 389) (by decide) (lw_count X hS hb ha hL hcs K1 _ _ _ _ _ _ _ _ _ _ _ _ _ _ _ _ _ _ _ H)
      · exact htableIn X dL_law_32 (by decide) (by decide) (off := 380) rfl (tgt := 412) (by decide) (lw_waitsFor X hS hb ha hL hcs K1 _ _ _ _ _ _ _ _ _ _ _ _ _ _ _ _ _ _ _ H)
      · exact htableIn X dL_law_32 (by decide) (by decide) (off := 403) rfl (tgt := 435) (by decide) (lw_allIn X hS hb ha hL hcs K1 _ _ _ _ _ _ _ _ _ _ _ _ _ _ _ _ _ _ _ H)
      · exact htableIn X dL_law_32 (by decide) (by decide) (off := 416) rfl (tgt := 448) (by decide) (lw_withCrew X hS hb ha hL hcs K1 _ _ _ _ _ _ _ _ _ _ _ _ _ _ _ _ _ _ _ H)
      · exact htableIn X dL_law_32 (by decide) (by decide) (off := 439) rfl (tgt := 471) (by decide) (lw_leastDock X hS hb ha hL hcs K1 _ _ _ _ _ _ _ _ _ _ _ _ _ _ _ _ _ _ _ H)
      · exact htableIn X dL_law_32 (by decide) (by decide) (off := 452) rfl (tgt := 484) (by decide) (lw_put X hS hb ha hL hcs K1 _ _ _ _ _ _ _ _ _ _ _ _ _ _ _ _ _ _ _ H)
      · exact htableIn X dL_law_32 (by decide) (by decide) (off := 505) rfl (tgt := 537) (by decide) (lw_wipe X hS hb ha hL hcs K1 _ _ _ _ _ _ _ _ _ _ _ _ _ _ _ _ _ _ _ H)
      · exact htableIn X dL_law_32 (by decide) (by decide) (off := 518) rfl (tgt := 550) (by decide) (lw_fault X hS hb ha hL hcs K1 _ _ _ _ _ _ _ _ _ _ _ _ _ _ _ _ _ _ _ H)
      · exact htableIn X dL_law_32 (by decide) (by decide) (off := 531) rfl (tgt := 563) (by decide) (lw_carryOut X hS hb ha hL hcs K1 _ _ _ _ _ _ _ _ _ _ _ _ _ _ _ _ _ _ _ H)
      · exact htableIn X dL_law_32 (by decide) (by decide) (off := 544) rfl (tgt := 576) (by decide) (lw_undo X hS hb ha hL hcs K1 _ _ _ _ _ _ _ _ _ _ _ _ _ _ _ _ _ _ _ H)
      · exact htableIn X dL_law_32 (by decide) (by decide) (off := 557) rfl (tgt := 589) (by decide) (lw_save X hS hb ha hL hcs K1 _ _ _ _ _ _ _ _ _ _ _ _ _ _ _ _ _ _ _ H)
      · exact htableIn X dL_law_32 (by decide) (by decide) (off := 580) rfl (tgt := 612) (by decide) (lw_restore X hS hb ha hL hcs K1 _ _ _ _ _ _ _ _ _ _ _ _ _ _ _ _ _ _ _ H)
      · omega
    · exact htableOut X dL_law_32 (tgt := 635) (by
        unfold vB at ho
        omega) (by decide) (K1 _ _ _ _ _ _ _ _ _ _ _ _ _ _ _ _ _ _ _ H)
theorem lw_loop (X : hX p s m #[Value.ref b] meth c G (fun a => s.heap.size ≤ a) 4 cL_law RL wsL_law ret) (hS : va_X b L xs s s.heap) (hb : b < s.heap.size) (hL : L ≤ 2560) (hcs : cells ≤ 600000 ∧ slots ≤ 7302250) (Z : ∀ (ws : va_W) (lv : List (Nat × Value)), hV p l e room_1 s m #[Value.ref b] below meth c G (fun a => s.heap.size ≤ a) 4 cells slots Q ws 642 lv [.int 1]) : ∀ d a : Nat, a + d = L → lwK p l e s m below meth c G Q cells slots w h t u v k kk r q b 18 (nI a) := by
  intro d
  induction d using Nat.strongRecOn with
  | _ d ih =>
    intro a had
    refine lw_head X hS hb hL hcs Z (by omega) fun h5 => ?_
    exact ih (d - 5) (by omega) (a + 5) (by omega)
end LAW2
set_option maxHeartbeats 4000000 in
set_option maxRecDepth 100000 in
/-- from the entry, for every script of at most 2560 ints, the law comes to its end with true -/
theorem whole_start {p : Program} {e : Env} {s : State} {m : MethodId} {below : List Frame} {meth : Method} {c : Code} (l : Launch) (hflags : l.flags = flags0) {b L : Nat} {xs : Nat → Int32} (hL : L ≤ 2560) (C0 : lw_At p s m meth c b L xs) : W p l e room_1 s m #[Value.ref b] below meth c s.heap [] 0 0 (lw_Z below #[Value.ref b] s) (entryFrame m ([Value.ref b] : List Value).toArray 4) := by
  obtain ⟨G, X0⟩ := en_hX C0
  have X : hX p s m #[Value.ref b] meth c G (fun a => s.heap.size ≤ a) 4 cL_law RL wsL_law ret := X0
  obtain ⟨hexec, hcode, hret, hml, hown, hts, hS, hb, hlk, hgv⟩ := C0
  have Z : ∀ (cells slots : Nat), cells ≤ 600000 → slots ≤ 7302250 → ∀ (ws : va_W) (lv : List (Nat × Value)), hV p l e room_1 s m #[Value.ref b] below meth c G (fun a => s.heap.size ≤ a) 4 cells slots (lw_Z below #[Value.ref b] s) ws 642 lv [.int 1] := by
    intro cells slots h1 h2 ws lv H locs ls hP hD hS0 hl
    refine va_forget (fun q hq => hS0.2.2 q hq) ?_
    refine W.widen h1 h2 ?_
    exact lw_ret hexec hcode hret hlk dL_law_642
  have body : hV p l e room_1 s m #[Value.ref b] below meth c G (fun a => s.heap.size ≤ a) 4 0 0 (lw_Z below #[Value.ref b] s) [] 0 (lv_args 0 [.ref b]) [] := by
    refine hnew (C := RX7) (T := TX7) (N := 6) (ci := 7) (fs := [.null, .null, .null, .null, .null, .null]) X inlX7 tyX7 tyX7_ok (by decide +kernel) (by decide +kernel) (by decide +kernel) rfl (fun j hj => by rcases (show j = 0 ∨ j = 1 ∨ j = 2 ∨ j = 3 ∨ j = 4 ∨ j = 5 by omega) with rfl | rfl | rfl | rfl | rfl | rfl <;> rfl) (Nat.le_of_ble_eq_true rfl) (Nat.le_of_ble_eq_true rfl) dL_law_0 (fun q1 => ?_)
    refine hdup X dL_law_3 rfl ?_
    refine hV_to (ws' := [(q1, .inr (7, [.null, .null, .null, .null, .null, .null]))] ++ ([] : va_W)) rfl rfl rfl ?_
    refine hcallI (n := 0) (As := []) (rest := [.ref q1]) X (kX7_init l G q1) gL_law_X7_init rfl (by decide +kernel) (by decide +kernel) (by decide +kernel) rfl (by decide +kernel) (by decide) rfl rfl (Nat.le_of_ble_eq_true rfl) dL_law_4 ⟨Nat.le_of_ble_eq_true rfl, Nat.le_of_ble_eq_true rfl⟩ ?_
    rintro _ _ ⟨rfl, w, h, t, u, v, k, kk, r, rfl, rfl⟩
    refine hV_st (st' := [.ref (w 0)]) rfl ?_
    refine hastore_n X dL_law_7 (by decide) rfl ?_
    refine hnew (C := RX8) (T := TX8) (N := 14) (ci := 8) (fs := [.null, .null, .null, .int 0, .null, .null, .null, .int 0, .int 0, .int 0, .int 0, .int 0, .int 0, .int 0]) X inlX8 tyX8 tyX8_ok (by decide +kernel) (by decide +kernel) (by decide +kernel) rfl (fun j hj => by rcases (show j = 0 ∨ j = 1 ∨ j = 2 ∨ j = 3 ∨ j = 4 ∨ j = 5 ∨ j = 6 ∨ j = 7 ∨ j = 8 ∨ j = 9 ∨ j = 10 ∨ j = 11 ∨ j = 12 ∨ j = 13 by omega) with rfl | rfl | rfl | rfl | rfl | rfl | rfl | rfl | rfl | rfl | rfl | rfl | rfl | rfl <;> rfl) (Nat.le_of_ble_eq_true rfl) (Nat.le_of_ble_eq_true rfl) dL_law_8 (fun q2 => ?_)
    refine hdup X dL_law_11 rfl ?_
    refine hV_perm List.perm_append_comm ?_
    refine hcallI (n := 0) (As := []) (rest := [.ref q2]) X (kX8_init l G q2) gL_law_X8_init rfl (by decide +kernel) (by decide +kernel) (by decide +kernel) rfl (by decide +kernel) (by decide) rfl rfl (Nat.le_of_ble_eq_true rfl) dL_law_12 ⟨Nat.le_of_ble_eq_true rfl, Nat.le_of_ble_eq_true rfl⟩ ?_
    rintro _ _ ⟨rfl, q, rfl, rfl⟩
    refine hV_st (st' := [.ref (q 0)]) rfl ?_
    refine hastore_n X dL_law_15 (by decide) rfl ?_
    refine hiconst X (v := nI 0) dL_law_16 (by decide) ?_
    refine histore_n X dL_law_17 (by decide) rfl ?_
    refine hV_perm List.perm_append_comm ?_
    rw [List.append_nil]
    exact lw_loop X hS hb hL ⟨Nat.le_of_ble_eq_true rfl, Nat.le_of_ble_eq_true rfl⟩ (Z _ _ (Nat.le_of_ble_eq_true rfl) (Nat.le_of_ble_eq_true rfl)) L 0 (Nat.zero_add L) _ _ _ _ _ _ _ _ _ _ _ _ _ _ _ _ _ _ _ RJ0
  have hl := lv_entry [Value.ref b] (n := 4) (Nat.le_of_ble_eq_true rfl)
  rw [lg_entry_eq]
  exact body s.heap [] _ (fun k q hk => by simp at hk) ⟨fun i j p q h1 => by simp at h1, fun k q hk => by simp at hk⟩ va_S.rf hl
