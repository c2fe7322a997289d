/-! the slots: their own cells, the hall in use, the two states -/
def soW (G : hG) (u : Nat → Nat) (k : Nat → Nat → Nat) (sv : Nat → Int32) : va_W := [(u 0, .inr (5, [.ref (u 1), .ref (u 2)])), (u 1, .inl (G.2.1 3, 2, .inr (.inr (.inr (.inr (fun i => some (k i 0))))))), (u 2, .inl (G.2.1 2, 2, .inl sv))]
def slW (G : hG) (u : Nat → Nat) (k : Nat → Nat → Nat) (h : Nat → Nat) (sv : Nat → Int32) (N C : Nat → Nat) (Fs : Nat → hF) (n c : Nat) (F : hF) : va_W := soW G u k sv ++ (haW G h n c F ++ hlW G k N C Fs 2)
theorem pmLr (G : hG) (u : Nat → Nat) (k : Nat → Nat → Nat) (h : Nat → Nat) (sv : Nat → Int32) (N C : Nat → Nat) (Fs : Nat → hF) (n c : Nat) (F : hF) {i : Nat} (hi : i < 2) : (slW G u k h sv N C Fs n c F).Perm ((haW G h n c F ++ haW G (k i) (N i) (C i) (Fs i)) ++ (soW G u k sv ++ hlX G k N C Fs i 2)) :=
  (List.Perm.append_left _ (List.Perm.append_left _ (hl_split G k N C Fs i 2 hi))).trans (pm5 _ _ _ _)
theorem pmLr' (G : hG) (u : Nat → Nat) (k : Nat → Nat → Nat) (h : Nat → Nat) (sv : Nat → Int32) (N C : Nat → Nat) (Fs : Nat → hF) (n c : Nat) (F : hF) (n' c' : Nat) (F' : hF) {i : Nat} (hi : i < 2) : ((haW G h n c F ++ haW G (k i) n' c' F') ++ (soW G u k sv ++ hlX G k N C Fs i 2)).Perm (slW G u k h sv (up N i n') (up C i c') (up Fs i F') n c F) :=
  (pm5 _ _ _ _).symm.trans (List.Perm.append_left _ (List.Perm.append_left _ (hl_back G k N C Fs n' c' F' i 2 hi)))
theorem pmLs (G : hG) (u : Nat → Nat) (k : Nat → Nat → Nat) (h : Nat → Nat) (sv : Nat → Int32) (N C : Nat → Nat) (Fs : Nat → hF) (n c : Nat) (F : hF) {i : Nat} (hi : i < 2) : (slW G u k h sv N C Fs n c F).Perm ((haW G (k i) (N i) (C i) (Fs i) ++ haW G h n c F) ++ (soW G u k sv ++ hlX G k N C Fs i 2)) :=
  (pmLr G u k h sv N C Fs n c F hi).trans (List.Perm.append_right _ List.perm_append_comm)
theorem pmLs' (G : hG) (u : Nat → Nat) (k : Nat → Nat → Nat) (h : Nat → Nat) (sv : Nat → Int32) (N C : Nat → Nat) (Fs : Nat → hF) (n c : Nat) (F : hF) {i : Nat} (hi : i < 2) : ((haW G (k i) (N i) (C i) (Fs i) ++ haW G h n c F) ++ (soW G u k sv ++ hlX G k N C Fs i 2)).Perm (slW G u k h sv N C Fs n c F) :=
  (pmLs G u k h sv N C Fs n c F hi).symm
theorem slWs (G : hG) (u : Nat → Nat) (k : Nat → Nat → Nat) (h : Nat → Nat) (sv : Nat → Int32) (N C : Nat → Nat) (Fs : Nat → hF) (n c : Nat) (F : hF) (i : Nat) (v : Int32) : (slW G u k h sv N C Fs n c F).set 2 (u 2, .inl (G.2.1 2, 2, .inl (upd sv i v))) = slW G u k h (upd sv i v) N C Fs n c F := rfl
/-- a slot that is in range, as a natural number -/
theorem sl_nat {x : Int32} (h0 : ¬ x < 0) (h2 : x < 2) : x = nI x.toNatClampNeg ∧ x.toNatClampNeg < 2 := by
  have a0 : (0 : Int) ≤ x.toInt := by
    have := Int32.le_iff_toInt_le.mp (Int32.not_lt.mp h0)
    simpa using this
  have a2 : x.toInt < 2 := by
    have := Int32.lt_iff_toInt_lt.mp h2
    simpa using this
  have e : x.toInt = (x.toNatClampNeg : Int) := by
    show x.toInt = ((x.toInt.toNat : Nat) : Int)
    omega
  have hlt : x.toNatClampNeg < 2 := by omega
  refine ⟨Int32.toInt_inj.mp ?_, hlt⟩
  rw [nI_toInt (by omega)]
  exact e
