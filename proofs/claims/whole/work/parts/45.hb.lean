/-! the program's object, flat -/
def hbW (G : hG) (w h t u v : Nat → Nat) (k kk : Nat → Nat → Nat) (r : Nat → Nat) (n c : Nat) (F : hF) (tn tc : Nat) (Ft : hF) (x y : Nat) (N C : Nat → Nat) (Fs : Nat → hF) (sv : Nat → Int32) (SN SC : Nat → Nat) (SFs : Nat → hF) (pl : Nat) (T z : Nat → Int32) : va_W :=
  hbO w h t u v r ++ (huW G u k x y ++ (rdW G r pl T z ++ (haW G h n c F ++ (hlW G k N C Fs 7 ++ (haW G t tn tc Ft ++ (soW G v kk sv ++ hlW G kk SN SC SFs 2))))))
theorem pb2 {α : Type} (o u a x : List α) : (o ++ (u ++ (a ++ x))).Perm (a ++ (o ++ (u ++ x))) := (List.Perm.append_left o (pm2 u a x)).trans (pm2 o a _)
theorem pb3 {α : Type} (o u r a x : List α) : (o ++ (u ++ (r ++ (a ++ x)))).Perm (a ++ (o ++ (u ++ (r ++ x)))) := (List.Perm.append_left o (pb2 u r a x)).trans (pm2 o a _)
theorem pb4 {α : Type} (o u r b a x : List α) : (o ++ (u ++ (r ++ (b ++ (a ++ x))))).Perm (a ++ (o ++ (u ++ (r ++ (b ++ x))))) := (List.Perm.append_left o (pb3 u r b a x)).trans (pm2 o a _)
theorem pb5 {α : Type} (o u r b d a x : List α) : (o ++ (u ++ (r ++ (b ++ (d ++ (a ++ x)))))).Perm (a ++ (o ++ (u ++ (r ++ (b ++ (d ++ x)))))) := (List.Perm.append_left o (pb4 u r b d a x)).trans (pm2 o a _)
theorem pbLhs {α : Type} (o u r a l x : List α) : (o ++ (u ++ (r ++ (a ++ (l ++ x))))).Perm ((u ++ (a ++ l)) ++ (o ++ (r ++ x))) := by
  have h := (pm2 o u (r ++ (a ++ (l ++ x)))).trans (List.Perm.append_left u ((pb2 o r a (l ++ x)).trans (List.Perm.append_left a (pb2 o r l x))))
  rw [List.append_assoc, List.append_assoc]
  exact h
theorem pbLht {α : Type} (o u r a l t x : List α) : (o ++ (u ++ (r ++ (a ++ (l ++ (t ++ x)))))).Perm ((a ++ t) ++ (o ++ (u ++ (r ++ (l ++ x))))) := by
  have h := (pb3 o u r a (l ++ (t ++ x))).trans (List.Perm.append_left a (pb4 o u r l t x))
  rw [List.append_assoc]
  exact h
theorem pbLsl {α : Type} (o u r a l t s m : List α) : (o ++ (u ++ (r ++ (a ++ (l ++ (t ++ (s ++ m))))))).Perm ((s ++ (a ++ m)) ++ (o ++ (u ++ (r ++ (l ++ t))))) := by
  have h1 : (o ++ (u ++ (r ++ (a ++ (l ++ (t ++ (s ++ m))))))).Perm (s ++ (o ++ (u ++ (r ++ (a ++ (l ++ (t ++ m))))))) := (List.Perm.append_left o (pb5 u r a l t s m)).trans (pm2 o s _)
  have h2 : (o ++ (u ++ (r ++ (a ++ (l ++ (t ++ m)))))).Perm (a ++ (o ++ (u ++ (r ++ (l ++ (t ++ m)))))) := pb3 o u r a _
  have h3 : (o ++ (u ++ (r ++ (l ++ (t ++ m))))).Perm (m ++ (o ++ (u ++ (r ++ (l ++ t))))) := by
    have h := pb5 o u r l t m []
    rw [List.append_nil, List.append_nil] at h
    exact h
  rw [List.append_assoc, List.append_assoc]
  exact h1.trans (List.Perm.append_left s (h2.trans (List.Perm.append_left a h3)))
section PB
variable (G : hG) (w h t u v : Nat → Nat) (k kk : Nat → Nat → Nat) (r : Nat → Nat) (n c : Nat) (F : hF) (tn tc : Nat) (Ft : hF) (x y : Nat) (N C : Nat → Nat) (Fs : Nat → hF) (sv : Nat → Int32) (SN SC : Nat → Nat) (SFs : Nat → hF) (pl : Nat) (T z : Nat → Int32)
theorem pbHs : (hbW G w h t u v k kk r n c F tn tc Ft x y N C Fs sv SN SC SFs pl T z).Perm (hsW G u k h x y N C Fs n c F ++ (hbO w h t u v r ++ (rdW G r pl T z ++ (haW G t tn tc Ft ++ (soW G v kk sv ++ hlW G kk SN SC SFs 2))))) := pbLhs _ _ _ _ _ _
theorem pbHa : (hbW G w h t u v k kk r n c F tn tc Ft x y N C Fs sv SN SC SFs pl T z).Perm (haW G h n c F ++ (hbO w h t u v r ++ (huW G u k x y ++ (rdW G r pl T z ++ (hlW G k N C Fs 7 ++ (haW G t tn tc Ft ++ (soW G v kk sv ++ hlW G kk SN SC SFs 2))))))) := pb3 _ _ _ _ _
theorem pbTr : (hbW G w h t u v k kk r n c F tn tc Ft x y N C Fs sv SN SC SFs pl T z).Perm (haW G t tn tc Ft ++ (hbO w h t u v r ++ (huW G u k x y ++ (rdW G r pl T z ++ (haW G h n c F ++ (hlW G k N C Fs 7 ++ (soW G v kk sv ++ hlW G kk SN SC SFs 2))))))) := pb5 _ _ _ _ _ _ _
theorem pbHt : (hbW G w h t u v k kk r n c F tn tc Ft x y N C Fs sv SN SC SFs pl T z).Perm ((haW G h n c F ++ haW G t tn tc Ft) ++ (hbO w h t u v r ++ (huW G u k x y ++ (rdW G r pl T z ++ (hlW G k N C Fs 7 ++ (soW G v kk sv ++ hlW G kk SN SC SFs 2)))))) := pbLht _ _ _ _ _ _ _
theorem pbSl : (hbW G w h t u v k kk r n c F tn tc Ft x y N C Fs sv SN SC SFs pl T z).Perm (slW G v kk h sv SN SC SFs n c F ++ (hbO w h t u v r ++ (huW G u k x y ++ (rdW G r pl T z ++ (hlW G k N C Fs 7 ++ haW G t tn tc Ft))))) := pbLsl _ _ _ _ _ _ _ _
theorem pbRd : (hbW G w h t u v k kk r n c F tn tc Ft x y N C Fs sv SN SC SFs pl T z).Perm (rdW G r pl T z ++ (hbO w h t u v r ++ (huW G u k x y ++ (haW G h n c F ++ (hlW G k N C Fs 7 ++ (haW G t tn tc Ft ++ (soW G v kk sv ++ hlW G kk SN SC SFs 2))))))) := pb2 _ _ _ _
theorem pbPd : (hbW G w h t u v k kk r n c F tn tc Ft x y N C Fs sv SN SC SFs pl T z).Perm (pdW G r pl T ++ (rcW r z ++ (hbO w h t u v r ++ (huW G u k x y ++ (haW G h n c F ++ (hlW G k N C Fs 7 ++ (haW G t tn tc Ft ++ (soW G v kk sv ++ hlW G kk SN SC SFs 2)))))))) := by
  refine (pbRd G w h t u v k kk r n c F tn tc Ft x y N C Fs sv SN SC SFs pl T z).trans ?_
  rw [← List.append_assoc (pdW G r pl T)]
  exact List.Perm.append_right _ (pmR G r pl T z)
theorem pbSt : (hbW G w h t u v k kk r n c F tn tc Ft x y N C Fs sv SN SC SFs pl T z).Perm (stW G h n F ++ (hrS G h c F ++ (hbO w h t u v r ++ (huW G u k x y ++ (rdW G r pl T z ++ (hlW G k N C Fs 7 ++ (haW G t tn tc Ft ++ (soW G v kk sv ++ hlW G kk SN SC SFs 2)))))))) := by
  refine (pbHa G w h t u v k kk r n c F tn tc Ft x y N C Fs sv SN SC SFs pl T z).trans ?_
  rw [← List.append_assoc (stW G h n F)]
  exact List.Perm.append_right _ (pmS G h n c F)
theorem pbCr : (hbW G w h t u v k kk r n c F tn tc Ft x y N C Fs sv SN SC SFs pl T z).Perm (crW G h c F ++ (hrC G h n F ++ (hbO w h t u v r ++ (huW G u k x y ++ (rdW G r pl T z ++ (hlW G k N C Fs 7 ++ (haW G t tn tc Ft ++ (soW G v kk sv ++ hlW G kk SN SC SFs 2)))))))) := by
  refine (pbHa G w h t u v k kk r n c F tn tc Ft x y N C Fs sv SN SC SFs pl T z).trans ?_
  rw [← List.append_assoc (crW G h c F)]
  exact List.Perm.append_right _ (pmC G h n c F)
end PB
