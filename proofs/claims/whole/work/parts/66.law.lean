/-! the law: its calls -/
def lwK (p : Program) (l : Launch) (e : Env) (s : State) (m : MethodId) (below : List Frame) (meth : Method) (c : Code) (G : hG) (Q : State → Prop) (cells slots : Nat) (w h t u v : Nat → Nat) (k kk : Nat → Nat → Nat) (r q : Nat → Nat) (b : Nat) (pc : Nat) (i : Int32) : Prop :=
  ∀ (n1 c1 : Nat) (F : hF) (tn tc : Nat) (Ft : hF) (x y : Nat) (N C : Nat → Nat) (Fs : Nat → hF) (sv : Nat → Int32) (SN SC : Nat → Nat) (SFs : Nat → hF) (pl : Nat) (T z : Nat → Int32) (E : hF), RJ n1 c1 F x y N C Fs sv SN SC SFs pl T E → hV p l e room_1 s m #[Value.ref b] below meth c G (fun a => s.heap.size ≤ a) 4 cells slots Q (hbW G w h t u v k kk r n1 c1 F tn tc Ft x y N C Fs sv SN SC SFs pl T z ++ mW G q E) pc [(3, .int i), (2, .ref (q 0)), (1, .ref (w 0)), (0, .ref b)] []
theorem hI1 (k : Nat) {n : Int} (h : Int32.ofInt n = nI k) : Int32.ofInt n = nI k := h
section LAW
variable {p : Program} {l : Launch} {e : Env} {s : State} {m : MethodId} {below : List Frame} {meth : Method} {c : Code} {G : hG} {Q : State → Prop} {cells slots : Nat} {w h t u v : Nat → Nat} {k kk : Nat → Nat → Nat} {r q : Nat → Nat} {b L : Nat} {xs : Nat → Int32}
theorem lw_cl : Jvm.Cond.constantLong RL 73 4294967295 ∈ wsL_law := by decide +kernel
set_option maxHeartbeats 4000000 in
set_option maxRecDepth 100000 in
theorem lw_set (X : hX p s m #[Value.ref b] meth c G (fun a => s.heap.size ≤ a) 4 cL_law RL wsL_law ret) (hS : va_X b L xs s s.heap) (hb : b < s.heap.size) {a : Nat} (ha : a + 5 ≤ L) (hL : L ≤ 2560) (hcs : cells ≤ 600000 ∧ slots ≤ 7302250) (K : lwK p l e s m below meth c G Q cells slots w h t u v k kk r q b 635 (nI a)) : lwK p l e s m below meth c G Q cells slots w h t u v k kk r q b 132 (nI a) := by
  intro n1 c1 F tn tc Ft x y N C Fs sv SN SC SFs pl T z E H
  have hK := cl_set H (xs (a + 1)) (xs (a + 2))
  refine haload_n X dL_law_132 rfl ?_
  refine haload_n X dL_law_133 rfl ?_
  refine hiload_n X dL_law_134 rfl ?_
  refine hiconst X (v := nI 1) dL_law_135 (by decide) ?_
  refine hiadd X dL_law_136 ?_
  refine hsld X hS hb (a + 1) (nI_add a 1) (by omega) (by omega) dL_law_137 ?_
  refine haload_n X dL_law_138 rfl ?_
  refine hiload_n X dL_law_139 rfl ?_
  refine hiconst X (v := nI 2) dL_law_140 (by decide) ?_
  refine hiadd X dL_law_141 ?_
  refine hsld X hS hb (a + 2) (nI_add a 2) (by omega) (by omega) dL_law_142 ?_
  refine hcallVr (C := RX7) (T := TX7) (N := 6) (As := [.int (xs (a + 1)), .int (xs (a + 2))]) (rest := []) X (q0 := 0) (kX7_set l G w h t u v k kk r n1 c1 F tn tc Ft x y N C Fs sv SN SC SFs pl T z H.1.1.hn H.1.1.hc H.2.1.1 H.2.1.2.1 H.1.1.b (xs (a + 1)) (xs (a + 2))) gL_law_X7_set rfl (n := 2) (by decide +kernel) (by decide) rfl rfl rfl rfl (Nat.le_of_ble_eq_true rfl) dL_law_143 rfl rfl hcs rfl ?_
  refine haload_n X dL_law_146 rfl ?_
  refine haload_n X dL_law_147 rfl ?_
  refine hiload_n X dL_law_148 rfl ?_
  refine hiconst X (v := nI 1) dL_law_149 (by decide) ?_
  refine hiadd X dL_law_150 ?_
  refine hsld X hS hb (a + 1) (nI_add a 1) (by omega) (by omega) dL_law_151 ?_
  refine haload_n X dL_law_152 rfl ?_
  refine hiload_n X dL_law_153 rfl ?_
  refine hiconst X (v := nI 2) dL_law_154 (by decide) ?_
  refine hiadd X dL_law_155 ?_
  refine hsld X hS hb (a + 2) (nI_add a 2) (by omega) (by omega) dL_law_156 ?_
  refine hV_perm List.perm_append_comm ?_
  refine hcallVr (C := RX8) (T := TX8) (N := 14) (As := [.int (xs (a + 1)), .int (xs (a + 2))]) (rest := [.int _]) X (q0 := 0) (kX8_set l G q E y H.2.1.2.1 H.2.1.2.2 (xs (a + 1)) (xs (a + 2))) gL_law_X8_set rfl (n := 2) (by decide +kernel) (by decide) rfl rfl rfl rfl (Nat.le_of_ble_eq_true rfl) dL_law_157 rfl rfl hcs rfl ?_
  refine hV_perm List.perm_append_comm ?_
  exact hicmp_eq X dL_law_160 (tgt := 635) (by decide) (fun _ => K _ _ _ _ _ _ _ _ _ _ _ _ _ _ _ _ _ _ _ hK.2) (fun g => absurd hK.1 g)
set_option maxHeartbeats 4000000 in
set_option maxRecDepth 100000 in
theorem lw_stand (X : hX p s m #[Value.ref b] meth c G (fun a => s.heap.size ≤ a) 4 cL_law RL wsL_law ret) (hS : va_X b L xs s s.heap) (hb : b < s.heap.size) {a : Nat} (ha : a + 5 ≤ L) (hL : L ≤ 2560) (hcs : cells ≤ 600000 ∧ slots ≤ 7302250) (K : lwK p l e s m below meth c G Q cells slots w h t u v k kk r q b 635 (nI a)) : lwK p l e s m below meth c G Q cells slots w h t u v k kk r q b 165 (nI a) := by
  intro n1 c1 F tn tc Ft x y N C Fs sv SN SC SFs pl T z E H
  have hK := cl_stand H (xs (a + 1)) (xs (a + 2)) (xs (a + 3)) (xs (a + 4))
  refine haload_n X dL_law_165 rfl ?_
  refine haload_n X dL_law_166 rfl ?_
  refine hiload_n X dL_law_167 rfl ?_
  refine hiconst X (v := nI 1) dL_law_168 (by decide) ?_
  refine hiadd X dL_law_169 ?_
  refine hsld X hS hb (a + 1) (nI_add a 1) (by omega) (by omega) dL_law_170 ?_
  refine haload_n X dL_law_171 rfl ?_
  refine hiload_n X dL_law_172 rfl ?_
  refine hiconst X (v := nI 2) dL_law_173 (by decide) ?_
  refine hiadd X dL_law_174 ?_
  refine hsld X hS hb (a + 2) (nI_add a 2) (by omega) (by omega) dL_law_175 ?_
  refine haload_n X dL_law_176 rfl ?_
  refine hiload_n X dL_law_177 rfl ?_
  refine hiconst X (v := nI 3) dL_law_178 (by decide) ?_
  refine hiadd X dL_law_179 ?_
  refine hsld X hS hb (a + 3) (nI_add a 3) (by omega) (by omega) dL_law_180 ?_
  refine haload_n X dL_law_181 rfl ?_
  refine hiload_n X dL_law_182 rfl ?_
  refine hiconst X (v := nI 4) dL_law_183 (by decide) ?_
  refine hiadd X dL_law_184 ?_
  refine hsld X hS hb (a + 4) (nI_add a 4) (by omega) (by omega) dL_law_185 ?_
  refine hcallVr (C := RX7) (T := TX7) (N := 6) (As := [.int (xs (a + 1)), .int (xs (a + 2)), .int (xs (a + 3)), .int (xs (a + 4))]) (rest := []) X (q0 := 0) (kX7_stand l G w h t u v k kk r n1 c1 F tn tc Ft x y N C Fs sv SN SC SFs pl T z H.1.1.hn H.1.1.hc H.2.1.1 H.2.1.2.1 H.1.1.b (xs (a + 1)) (xs (a + 2)) (xs (a + 3)) (xs (a + 4))) gL_law_X7_stand rfl (n := 4) (by decide +kernel) (by decide) rfl rfl rfl rfl (Nat.le_of_ble_eq_true rfl) dL_law_186 rfl rfl hcs rfl ?_
  refine haload_n X dL_law_189 rfl ?_
  refine haload_n X dL_law_190 rfl ?_
  refine hiload_n X dL_law_191 rfl ?_
  refine hiconst X (v := nI 1) dL_law_192 (by decide) ?_
  refine hiadd X dL_law_193 ?_
  refine hsld X hS hb (a + 1) (nI_add a 1) (by omega) (by omega) dL_law_194 ?_
  refine haload_n X dL_law_195 rfl ?_
  refine hiload_n X dL_law_196 rfl ?_
  refine hiconst X (v := nI 2) dL_law_197 (by decide) ?_
  refine hiadd X dL_law_198 ?_
  refine hsld X hS hb (a + 2) (nI_add a 2) (by omega) (by omega) dL_law_199 ?_
  refine haload_n X dL_law_200 rfl ?_
  refine hiload_n X dL_law_201 rfl ?_
  refine hiconst X (v := nI 3) dL_law_202 (by decide) ?_
  refine hiadd X dL_law_203 ?_
  refine hsld X hS hb (a + 3) (nI_add a 3) (by omega) (by omega) dL_law_204 ?_
  refine haload_n X dL_law_205 rfl ?_
  refine hiload_n X dL_law_206 rfl ?_
  refine hiconst X (v := nI 4) dL_law_207 (by decide) ?_
  refine hiadd X dL_law_208 ?_
  refine hsld X hS hb (a + 4) (nI_add a 4) (by omega) (by omega) dL_law_209 ?_
  refine hV_perm List.perm_append_comm ?_
  refine hcallVr (C := RX8) (T := TX8) (N := 14) (As := [.int (xs (a + 1)), .int (xs (a + 2)), .int (xs (a + 3)), .int (xs (a + 4))]) (rest := [.int _]) X (q0 := 0) (kX8_stand l G q E n1 c1 H.1.1.m y H.2.1.2.1 H.2.1.2.2 (xs (a + 1)) (xs (a + 2)) (xs (a + 3)) (xs (a + 4))) gL_law_X8_stand rfl (n := 4) (by decide +kernel) (by decide) rfl rfl rfl rfl (Nat.le_of_ble_eq_true rfl) dL_law_210 rfl rfl hcs rfl ?_
  refine hV_perm List.perm_append_comm ?_
  exact hicmp_eq X dL_law_213 (tgt := 635) (by decide) (fun _ => K _ _ _ _ _ _ _ _ _ _ _ _ _ _ _ _ _ _ _ hK.2) (fun g => absurd hK.1 g)
set_option maxHeartbeats 4000000 in
set_option maxRecDepth 100000 in
theorem lw_crew (X : hX p s m #[Value.ref b] meth c G (fun a => s.heap.size ≤ a) 4 cL_law RL wsL_law ret) (hS : va_X b L xs s s.heap) (hb : b < s.heap.size) {a : Nat} (ha : a + 5 ≤ L) (hL : L ≤ 2560) (hcs : cells ≤ 600000 ∧ slots ≤ 7302250) (K : lwK p l e s m below meth c G Q cells slots w h t u v k kk r q b 635 (nI a)) : lwK p l e s m below meth c G Q cells slots w h t u v k kk r q b 218 (nI a) := by
  intro n1 c1 F tn tc Ft x y N C Fs sv SN SC SFs pl T z E H
  have hK := cl_crew H (xs (a + 1)) (xs (a + 2))
  refine haload_n X dL_law_218 rfl ?_
  refine haload_n X dL_law_219 rfl ?_
  refine hiload_n X dL_law_220 rfl ?_
  refine hiconst X (v := nI 1) dL_law_221 (by decide) ?_
  refine hiadd X dL_law_222 ?_
  refine hsld X hS hb (a + 1) (nI_add a 1) (by omega) (by omega) dL_law_223 ?_
  refine haload_n X dL_law_224 rfl ?_
  refine hiload_n X dL_law_225 rfl ?_
  refine hiconst X (v := nI 2) dL_law_226 (by decide) ?_
  refine hiadd X dL_law_227 ?_
  refine hsld X hS hb (a + 2) (nI_add a 2) (by omega) (by omega) dL_law_228 ?_
  refine hcallVr (C := RX7) (T := TX7) (N := 6) (As := [.int (xs (a + 1)), .int (xs (a + 2))]) (rest := []) X (q0 := 0) (kX7_crew l G w h t u v k kk r n1 c1 F tn tc Ft x y N C Fs sv SN SC SFs pl T z H.1.1.hn H.1.1.hc H.2.1.1 H.2.1.2.1 H.1.1.b (xs (a + 1)) (xs (a + 2))) gL_law_X7_crew rfl (n := 2) (by decide +kernel) (by decide) rfl rfl rfl rfl (Nat.le_of_ble_eq_true rfl) dL_law_229 rfl rfl hcs rfl ?_
  refine haload_n X dL_law_232 rfl ?_
  refine haload_n X dL_law_233 rfl ?_
  refine hiload_n X dL_law_234 rfl ?_
  refine hiconst X (v := nI 1) dL_law_235 (by decide) ?_
  refine hiadd X dL_law_236 ?_
  refine hsld X hS hb (a + 1) (nI_add a 1) (by omega) (by omega) dL_law_237 ?_
  refine haload_n X dL_law_238 rfl ?_
  refine hiload_n X dL_law_239 rfl ?_
  refine hiconst X (v := nI 2) dL_law_240 (by decide) ?_
  refine hiadd X dL_law_241 ?_
  refine hsld X hS hb (a + 2) (nI_add a 2) (by omega) (by omega) dL_law_242 ?_
  refine hV_perm List.perm_append_comm ?_
  refine hcallVr (C := RX8) (T := TX8) (N := 14) (As := [.int (xs (a + 1)), .int (xs (a + 2))]) (rest := [.int _]) X (q0 := 0) (kX8_crew l G q E n1 c1 H.1.1.m y H.2.1.2.1 H.2.1.2.2 (xs (a + 1)) (xs (a + 2))) gL_law_X8_crew rfl (n := 2) (by decide +kernel) (by decide) rfl rfl rfl rfl (Nat.le_of_ble_eq_true rfl) dL_law_243 rfl rfl hcs rfl ?_
  refine hV_perm List.perm_append_comm ?_
  exact hicmp_eq X dL_law_246 (tgt := 635) (by decide) (fun _ => K _ _ _ _ _ _ _ _ _ _ _ _ _ _ _ _ _ _ _ hK.2) (fun g => absurd hK.1 g)
set_option maxHeartbeats 4000000 in
set_option maxRecDepth 100000 in
theorem lw_end (X : hX p s m #[Value.ref b] meth c G (fun a => s.heap.size ≤ a) 4 cL_law RL wsL_law ret) (hS : va_X b L xs s s.heap) (hb : b < s.heap.size) {a : Nat} (ha : a + 5 ≤ L) (hL : L ≤ 2560) (hcs : cells ≤ 600000 ∧ slots ≤ 7302250) (K : lwK p l e s m below meth c G Q cells slots w h t u v k kk r q b 635 (nI a)) : lwK p l e s m below meth c G Q cells slots w h t u v k kk r q b 251 (nI a) := by
  intro n1 c1 F tn tc Ft x y N C Fs sv SN SC SFs pl T z E H
  have hK := cl_end H 
  refine haload_n X dL_law_251 rfl ?_
  refine hcallVr (C := RX7) (T := TX7) (N := 6) (As := []) (rest := []) X (q0 := 0) (kX7_end l G w h t u v k kk r n1 c1 F tn tc Ft x y N C Fs sv SN SC SFs pl T z H.1.1.hn H.1.1.hc H.2.1.1 H.2.1.2.1 H.1.1.b ) gL_law_X7_end rfl (n := 0) (by decide +kernel) (by decide) rfl rfl rfl rfl (Nat.le_of_ble_eq_true rfl) dL_law_252 rfl rfl hcs rfl ?_
  refine haload_n X dL_law_255 rfl ?_
  refine hV_perm List.perm_append_comm ?_
  refine hcallVr (C := RX8) (T := TX8) (N := 14) (As := []) (rest := [.int _]) X (q0 := 0) (kX8_end l G q E n1 c1 H.1.1.m y H.2.1.2.1 H.2.1.2.2 ) gL_law_X8_end rfl (n := 0) (by decide +kernel) (by decide) rfl rfl rfl rfl (Nat.le_of_ble_eq_true rfl) dL_law_256 rfl rfl hcs rfl ?_
  refine hV_perm List.perm_append_comm ?_
  exact hicmp_eq X dL_law_259 (tgt := 635) (by decide) (fun _ => K _ _ _ _ _ _ _ _ _ _ _ _ _ _ _ _ _ _ _ hK.2) (fun g => absurd hK.1 g)
set_option maxHeartbeats 4000000 in
set_option maxRecDepth 100000 in
theorem lw_find (X : hX p s m #[Value.ref b] meth c G (fun a => s.heap.size ≤ a) 4 cL_law RL wsL_law ret) (hS : va_X b L xs s s.heap) (hb : b < s.heap.size) {a : Nat} (ha : a + 5 ≤ L) (hL : L ≤ 2560) (hcs : cells ≤ 600000 ∧ slots ≤ 7302250) (K : lwK p l e s m below meth c G Q cells slots w h t u v k kk r q b 635 (nI a)) : lwK p l e s m below meth c G Q cells slots w h t u v k kk r q b 264 (nI a) := by
  intro n1 c1 F tn tc Ft x y N C Fs sv SN SC SFs pl T z E H
  have hK := cl_find H 
  refine haload_n X dL_law_264 rfl ?_
  refine hcallVr (C := RX7) (T := TX7) (N := 6) (As := []) (rest := []) X (q0 := 0) (kX7_find l G w h t u v k kk r n1 c1 F tn tc Ft x y N C Fs sv SN SC SFs pl T z H.1.1.hn H.1.1.hc H.2.1.1 H.2.1.2.1 H.1.1.b ) gL_law_X7_find rfl (n := 0) (by decide +kernel) (by decide) rfl rfl rfl rfl (Nat.le_of_ble_eq_true rfl) dL_law_265 rfl rfl hcs rfl ?_
  refine haload_n X dL_law_268 rfl ?_
  refine hV_perm List.perm_append_comm ?_
  refine hcallVr (C := RX8) (T := TX8) (N := 14) (As := []) (rest := [.int _]) X (q0 := 0) (kX8_find l G q E y H.2.1.2.1 H.2.1.2.2 ) gL_law_X8_find rfl (n := 0) (by decide +kernel) (by decide) rfl rfl rfl rfl (Nat.le_of_ble_eq_true rfl) dL_law_269 rfl rfl hcs rfl ?_
  refine hV_perm List.perm_append_comm ?_
  exact hicmp_eq X dL_law_272 (tgt := 635) (by decide) (fun _ => K _ _ _ _ _ _ _ _ _ _ _ _ _ _ _ _ _ _ _ hK.2) (fun g => absurd hK.1 g)
set_option maxHeartbeats 4000000 in
set_option maxRecDepth 100000 in
theorem lw_pass (X : hX p s m #[Value.ref b] meth c G (fun a => s.heap.size ≤ a) 4 cL_law RL wsL_law ret) (hS : va_X b L xs s s.heap) (hb : b < s.heap.size) {a : Nat} (ha : a + 5 ≤ L) (hL : L ≤ 2560) (hcs : cells ≤ 600000 ∧ slots ≤ 7302250) (K : lwK p l e s m below meth c G Q cells slots w h t u v k kk r q b 635 (nI a)) : lwK p l e s m below meth c G Q cells slots w h t u v k kk r q b 277 (nI a) := by
  intro n1 c1 F tn tc Ft x y N C Fs sv SN SC SFs pl T z E H
  have hK := cl_pass H (xs (a + 1))
  refine haload_n X dL_law_277 rfl ?_
  refine haload_n X dL_law_278 rfl ?_
  refine hiload_n X dL_law_279 rfl ?_
  refine hiconst X (v := nI 1) dL_law_280 (by decide) ?_
  refine hiadd X dL_law_281 ?_
  refine hsld X hS hb (a + 1) (nI_add a 1) (by omega) (by omega) dL_law_282 ?_
  refine hcallVr (C := RX7) (T := TX7) (N := 6) (As := [.int (xs (a + 1))]) (rest := []) X (q0 := 0) (kX7_pass l G w h t u v k kk r n1 c1 F tn tc Ft x y N C Fs sv SN SC SFs pl T z H.1.1.hn H.1.1.hc H.2.1.1 H.2.1.2.1 H.1.1.b (xs (a + 1))) gL_law_X7_pass rfl (n := 1) (by decide +kernel) (by decide) rfl rfl rfl rfl (Nat.le_of_ble_eq_true rfl) dL_law_283 rfl rfl hcs rfl ?_
  refine haload_n X dL_law_286 rfl ?_
  refine haload_n X dL_law_287 rfl ?_
  refine hiload_n X dL_law_288 rfl ?_
  refine hiconst X (v := nI 1) dL_law_289 (by decide) ?_
  refine hiadd X dL_law_290 ?_
  refine hsld X hS hb (a + 1) (nI_add a 1) (by omega) (by omega) dL_law_291 ?_
  refine hV_perm List.perm_append_comm ?_
  refine hcallVr (C := RX8) (T := TX8) (N := 14) (As := [.int (xs (a + 1))]) (rest := [.int _]) X (q0 := 0) (kX8_pass l G q E n1 c1 H.1.1.m y H.2.1.2.1 H.2.1.2.2 (xs (a + 1))) gL_law_X8_pass rfl (n := 1) (by decide +kernel) (by decide) rfl rfl rfl rfl (Nat.le_of_ble_eq_true rfl) dL_law_292 rfl rfl hcs rfl ?_
  refine hV_perm List.perm_append_comm ?_
  exact hicmp_eq X dL_law_295 (tgt := 635) (by decide) (fun _ => K _ _ _ _ _ _ _ _ _ _ _ _ _ _ _ _ _ _ _ hK.2) (fun g => absurd hK.1 g)
set_option maxHeartbeats 4000000 in
set_option maxRecDepth 100000 in
theorem lw_ofStand (X : hX p s m #[Value.ref b] meth c G (fun a => s.heap.size ≤ a) 4 cL_law RL wsL_law ret) (hS : va_X b L xs s s.heap) (hb : b < s.heap.size) {a : Nat} (ha : a + 5 ≤ L) (hL : L ≤ 2560) (hcs : cells ≤ 600000 ∧ slots ≤ 7302250) (K : lwK p l e s m below meth c G Q cells slots w h t u v k kk r q b 635 (nI a)) : lwK p l e s m below meth c G Q cells slots w h t u v k kk r q b 300 (nI a) := by
  intro n1 c1 F tn tc Ft x y N C Fs sv SN SC SFs pl T z E H
  have hK := And.intro (as_stand H.1.1 H.1.2 (xs (a + 1)) (xs (a + 2))) (H)
  refine haload_n X dL_law_300 rfl ?_
  refine haload_n X dL_law_301 rfl ?_
  refine hiload_n X dL_law_302 rfl ?_
  refine hiconst X (v := nI 1) dL_law_303 (by decide) ?_
  refine hiadd X dL_law_304 ?_
  refine hsld X hS hb (a + 1) (nI_add a 1) (by omega) (by omega) dL_law_305 ?_
  refine haload_n X dL_law_306 rfl ?_
  refine hiload_n X dL_law_307 rfl ?_
  refine hiconst X (v := nI 2) dL_law_308 (by decide) ?_
  refine hiadd X dL_law_309 ?_
  refine hsld X hS hb (a + 2) (nI_add a 2) (by omega) (by omega) dL_law_310 ?_
  refine hcallVr (C := RX7) (T := TX7) (N := 6) (As := [.int (xs (a + 1)), .int (xs (a + 2))]) (rest := []) X (q0 := 0) (kX7_ofStand l G w h t u v k kk r n1 c1 F tn tc Ft x y N C Fs sv SN SC SFs pl T z H.1.1.hn H.1.1.hc (xs (a + 1)) (xs (a + 2))) gL_law_X7_ofStand rfl (n := 2) (by decide +kernel) (by decide) rfl rfl rfl rfl (Nat.le_of_ble_eq_true rfl) dL_law_311 rfl rfl hcs rfl ?_
  refine haload_n X dL_law_314 rfl ?_
  refine haload_n X dL_law_315 rfl ?_
  refine hiload_n X dL_law_316 rfl ?_
  refine hiconst X (v := nI 1) dL_law_317 (by decide) ?_
  refine hiadd X dL_law_318 ?_
  refine hsld X hS hb (a + 1) (nI_add a 1) (by omega) (by omega) dL_law_319 ?_
  refine haload_n X dL_law_320 rfl ?_
  refine hiload_n X dL_law_321 rfl ?_
  refine hiconst X (v := nI 2) dL_law_322 (by decide) ?_
  refine hiadd X dL_law_323 ?_
  refine hsld X hS hb (a + 2) (nI_add a 2) (by omega) (by omega) dL_law_324 ?_
  refine hV_perm List.perm_append_comm ?_
  refine hcallVr (C := RX8) (T := TX8) (N := 14) (As := [.int (xs (a + 1)), .int (xs (a + 2))]) (rest := [.int _]) X (q0 := 0) (kX8_ofStand l G q E n1 c1 H.1.1.m (xs (a + 1)) (xs (a + 2))) gL_law_X8_ofStand rfl (n := 2) (by decide +kernel) (by decide) rfl rfl rfl rfl (Nat.le_of_ble_eq_true rfl) dL_law_325 rfl rfl hcs rfl ?_
  refine hV_perm List.perm_append_comm ?_
  exact hicmp_eq X dL_law_328 (tgt := 635) (by decide) (fun _ => K _ _ _ _ _ _ _ _ _ _ _ _ _ _ _ _ _ _ _ hK.2) (fun g => absurd hK.1 g)
set_option maxHeartbeats 4000000 in
set_option maxRecDepth 100000 in
theorem lw_ofCrew (X : hX p s m #[Value.ref b] meth c G (fun a => s.heap.size ≤ a) 4 cL_law RL wsL_law ret) (hS : va_X b L xs s s.heap) (hb : b < s.heap.size) {a : Nat} (ha : a + 5 ≤ L) (hL : L ≤ 2560) (hcs : cells ≤ 600000 ∧ slots ≤ 7302250) (K : lwK p l e s m below meth c G Q cells slots w h t u v k kk r q b 635 (nI a)) : lwK p l e s m below meth c G Q cells slots w h t u v k kk r q b 333 (nI a) := by
  intro n1 c1 F tn tc Ft x y N C Fs sv SN SC SFs pl T z E H
  have hK := And.intro (as_crew H.1.1 (xs (a + 1)) (xs (a + 2))) (H)
  refine haload_n X dL_law_333 rfl ?_
  refine haload_n X dL_law_334 rfl ?_
  refine hiload_n X dL_law_335 rfl ?_
  refine hiconst X (v := nI 1) dL_law_336 (by decide) ?_
  refine hiadd X dL_law_337 ?_
  refine hsld X hS hb (a + 1) (nI_add a 1) (by omega) (by omega) dL_law_338 ?_
  refine haload_n X dL_law_339 rfl ?_
  refine hiload_n X dL_law_340 rfl ?_
  refine hiconst X (v := nI 2) dL_law_341 (by decide) ?_
  refine hiadd X dL_law_342 ?_
  refine hsld X hS hb (a + 2) (nI_add a 2) (by omega) (by omega) dL_law_343 ?_
  refine hcallVr (C := RX7) (T := TX7) (N := 6) (As := [.int (xs (a + 1)), .int (xs (a + 2))]) (rest := []) X (q0 := 0) (kX7_ofCrew l G w h t u v k kk r n1 c1 F tn tc Ft x y N C Fs sv SN SC SFs pl T z H.1.1.hn H.1.1.hc (xs (a + 1)) (xs (a + 2))) gL_law_X7_ofCrew rfl (n := 2) (by decide +kernel) (by decide) rfl rfl rfl rfl (Nat.le_of_ble_eq_true rfl) dL_law_344 rfl rfl hcs rfl ?_
  refine haload_n X dL_law_347 rfl ?_
  refine haload_n X dL_law_348 rfl ?_
  refine hiload_n X dL_law_349 rfl ?_
  refine hiconst X (v := nI 1) dL_law_350 (by decide) ?_
  refine hiadd X dL_law_351 ?_
  refine hsld X hS hb (a + 1) (nI_add a 1) (by omega) (by omega) dL_law_352 ?_
  refine haload_n X dL_law_353 rfl ?_
  refine hiload_n X dL_law_354 rfl ?_
  refine hiconst X (v := nI 2) dL_law_355 (by decide) ?_
  refine hiadd X dL_law_356 ?_
  refine hsld X hS hb (a + 2) (nI_add a 2) (by omega) (by omega) dL_law_357 ?_
  refine hV_perm List.perm_append_comm ?_
  refine hcallVr (C := RX8) (T := TX8) (N := 14) (As := [.int (xs (a + 1)), .int (xs (a + 2))]) (rest := [.int _]) X (q0 := 0) (kX8_ofCrew l G q E n1 c1 H.1.1.m (xs (a + 1)) (xs (a + 2))) gL_law_X8_ofCrew rfl (n := 2) (by decide +kernel) (by decide) rfl rfl rfl rfl (Nat.le_of_ble_eq_true rfl) dL_law_358 rfl rfl hcs rfl ?_
  refine hV_perm List.perm_append_comm ?_
  exact hicmp_eq X dL_law_361 (tgt := 635) (by decide) (fun _ => K _ _ _ _ _ _ _ _ _ _ _ _ _ _ _ _ _ _ _ hK.2) (fun g => absurd hK.1 g)
set_option maxHeartbeats 4000000 in
set_option maxRecDepth 100000 in
theorem lw_load (X : hX p s m #[Value.ref b] meth c G (fun a => s.heap.size ≤ a) 4 cL_law RL wsL_law ret) (hS : va_X b L xs s s.heap) (hb : b < s.heap.size) {a : Nat} (ha : a + 5 ≤ L) (hL : L ≤ 2560) (hcs : cells ≤ 600000 ∧ slots ≤ 7302250) (K : lwK p l e s m below meth c G Q cells slots w h t u v k kk r q b 635 (nI a)) : lwK p l e s m below meth c G Q cells slots w h t u v k kk r q b 366 (nI a) := by
  intro n1 c1 F tn tc Ft x y N C Fs sv SN SC SFs pl T z E H
  have hK := And.intro (as_load H.1.1 (xs (a + 1))) (H)
  refine haload_n X dL_law_366 rfl ?_
  refine haload_n X dL_law_367 rfl ?_
  refine hiload_n X dL_law_368 rfl ?_
  refine hiconst X (v := nI 1) dL_law_369 (by decide) ?_
  refine hiadd X dL_law_370 ?_
  refine hsld X hS hb (a + 1) (nI_add a 1) (by omega) (by omega) dL_law_371 ?_
  refine hcallVr (C := RX7) (T := TX7) (N := 6) (As := [.int (xs (a + 1))]) (rest := []) X (q0 := 0) (kX7_load l G w h t u v k kk r n1 c1 F tn tc Ft x y N C Fs sv SN SC SFs pl T z H.1.1.hn H.1.1.hc (xs (a + 1))) gL_law_X7_load rfl (n := 1) (by decide +kernel) (by decide) rfl rfl rfl rfl (Nat.le_of_ble_eq_true rfl) dL_law_372 rfl rfl hcs rfl ?_
  refine haload_n X dL_law_375 rfl ?_
  refine haload_n X dL_law_376 rfl ?_
  refine hiload_n X dL_law_377 rfl ?_
  refine hiconst X (v := nI 1) dL_law_378 (by decide) ?_
  refine hiadd X dL_law_379 ?_
  refine hsld X hS hb (a + 1) (nI_add a 1) (by omega) (by omega) dL_law_380 ?_
  refine hV_perm List.perm_append_comm ?_
  refine hcallVr (C := RX8) (T := TX8) (N := 14) (As := [.int (xs (a + 1))]) (rest := [.int _]) X (q0 := 0) (kX8_load l G q E n1 c1 H.1.1.m (xs (a + 1))) gL_law_X8_load rfl (n := 1) (by decide +kernel) (by decide) rfl rfl rfl rfl (Nat.le_of_ble_eq_true rfl) dL_law_381 rfl rfl hcs rfl ?_
  refine hV_perm List.perm_append_comm ?_
  exact hicmp_eq X dL_law_384 (tgt := 635) (by decide) (fun _ => K _ _ _ _ _ _ _ _ _ _ _ _ _ _ _ _ _ _ _ hK.2) (fun g => absurd hK.1 g)
set_option maxHeartbeats 4000000 in
set_option maxRecDepth 100000 in
theorem lw_count (X : hX p s m #[Value.ref b] meth c G (fun a => s.heap.size ≤ a) 4 cL_law RL wsL_law ret) (hS : va_X b L xs s s.heap) (hb : b < s.heap.size) {a : Nat} (ha : a + 5 ≤ L) (hL : L ≤ 2560) (hcs : cells ≤ 600000 ∧ slots ≤ 7302250) (K : lwK p l e s m below meth c G Q cells slots w h t u v k kk r q b 635 (nI a)) : lwK p l e s m below meth c G Q cells slots w h t u v k kk r q b 389 (nI a) := by
  intro n1 c1 F tn tc Ft x y N C Fs sv SN SC SFs pl T z E H
  have hK := And.intro (as_count H.1.1 H.2.2.2.2.2.2.2.1 H.2.1.2.2 (xs (a + 1))) (H)
  refine haload_n X dL_law_389 rfl ?_
  refine haload_n X dL_law_390 rfl ?_
  refine hiload_n X dL_law_391 rfl ?_
  refine hiconst X (v := nI 1) dL_law_392 (by decide) ?_
  refine hiadd X dL_law_393 ?_
  refine hsld X hS hb (a + 1) (nI_add a 1) (by omega) (by omega) dL_law_394 ?_
  refine hcallVr (C := RX7) (T := TX7) (N := 6) (As := [.int (xs (a + 1))]) (rest := []) X (q0 := 0) (kX7_count l G w h t u v k kk r n1 c1 F tn tc Ft x y N C Fs sv SN SC SFs pl T z H.1.1.hn H.1.1.hc (xs (a + 1))) gL_law_X7_count rfl (n := 1) (by decide +kernel) (by decide) rfl rfl rfl rfl (Nat.le_of_ble_eq_true rfl) dL_law_395 rfl rfl hcs rfl ?_
  refine haload_n X dL_law_398 rfl ?_
  refine haload_n X dL_law_399 rfl ?_
  refine hiload_n X dL_law_400 rfl ?_
  refine hiconst X (v := nI 1) dL_law_401 (by decide) ?_
  refine hiadd X dL_law_402 ?_
  refine hsld X hS hb (a + 1) (nI_add a 1) (by omega) (by omega) dL_law_403 ?_
  refine hV_perm List.perm_append_comm ?_
  refine hcallVr (C := RX8) (T := TX8) (N := 14) (As := [.int (xs (a + 1))]) (rest := [.int _]) X (q0 := 0) (kX8_count l G q E n1 c1 H.1.1.m (xs (a + 1))) gL_law_X8_count rfl (n := 1) (by decide +kernel) (by decide) rfl rfl rfl rfl (Nat.le_of_ble_eq_true rfl) dL_law_404 rfl rfl hcs rfl ?_
  refine hV_perm List.perm_append_comm ?_
  exact hicmp_eq X dL_law_407 (tgt := 635) (by decide) (fun _ => K _ _ _ _ _ _ _ _ _ _ _ _ _ _ _ _ _ _ _ hK.2) (fun g => absurd hK.1 g)
set_option maxHeartbeats 4000000 in
set_option maxRecDepth 100000 in
theorem lw_waitsFor (X : hX p s m #[Value.ref b] meth c G (fun a => s.heap.size ≤ a) 4 cL_law RL wsL_law ret) (hS : va_X b L xs s s.heap) (hb : b < s.heap.size) {a : Nat} (ha : a + 5 ≤ L) (hL : L ≤ 2560) (hcs : cells ≤ 600000 ∧ slots ≤ 7302250) (K : lwK p l e s m below meth c G Q cells slots w h t u v k kk r q b 635 (nI a)) : lwK p l e s m below meth c G Q cells slots w h t u v k kk r q b 412 (nI a) := by
  intro n1 c1 F tn tc Ft x y N C Fs sv SN SC SFs pl T z E H
  have hK := And.intro (as_waits H.1.1 (xs (a + 1))) (H)
  refine haload_n X dL_law_412 rfl ?_
  refine haload_n X dL_law_413 rfl ?_
  refine hiload_n X dL_law_414 rfl ?_
  refine hiconst X (v := nI 1) dL_law_415 (by decide) ?_
  refine hiadd X dL_law_416 ?_
  refine hsld X hS hb (a + 1) (nI_add a 1) (by omega) (by omega) dL_law_417 ?_
  refine hcallVr (C := RX7) (T := TX7) (N := 6) (As := [.int (xs (a + 1))]) (rest := []) X (q0 := 0) (kX7_waitsFor l G w h t u v k kk r n1 c1 F tn tc Ft x y N C Fs sv SN SC SFs pl T z H.1.1.hn H.1.1.hc (xs (a + 1))) gL_law_X7_waitsFor rfl (n := 1) (by decide +kernel) (by decide) rfl rfl rfl rfl (Nat.le_of_ble_eq_true rfl) dL_law_418 rfl rfl hcs rfl ?_
  refine haload_n X dL_law_421 rfl ?_
  refine haload_n X dL_law_422 rfl ?_
  refine hiload_n X dL_law_423 rfl ?_
  refine hiconst X (v := nI 1) dL_law_424 (by decide) ?_
  refine hiadd X dL_law_425 ?_
  refine hsld X hS hb (a + 1) (nI_add a 1) (by omega) (by omega) dL_law_426 ?_
  refine hV_perm List.perm_append_comm ?_
  refine hcallVr (C := RX8) (T := TX8) (N := 14) (As := [.int (xs (a + 1))]) (rest := [.int _]) X (q0 := 0) (kX8_waitsFor l G q E n1 c1 H.1.1.m (xs (a + 1))) gL_law_X8_waitsFor rfl (n := 1) (by decide +kernel) (by decide) rfl rfl rfl rfl (Nat.le_of_ble_eq_true rfl) dL_law_427 rfl rfl hcs rfl ?_
  refine hV_perm List.perm_append_comm ?_
  exact hicmp_eq X dL_law_430 (tgt := 635) (by decide) (fun _ => K _ _ _ _ _ _ _ _ _ _ _ _ _ _ _ _ _ _ _ hK.2) (fun g => absurd hK.1 g)
set_option maxHeartbeats 4000000 in
set_option maxRecDepth 100000 in
theorem lw_allIn (X : hX p s m #[Value.ref b] meth c G (fun a => s.heap.size ≤ a) 4 cL_law RL wsL_law ret) (hS : va_X b L xs s s.heap) (hb : b < s.heap.size) {a : Nat} (ha : a + 5 ≤ L) (hL : L ≤ 2560) (hcs : cells ≤ 600000 ∧ slots ≤ 7302250) (K : lwK p l e s m below meth c G Q cells slots w h t u v k kk r q b 635 (nI a)) : lwK p l e s m below meth c G Q cells slots w h t u v k kk r q b 435 (nI a) := by
  intro n1 c1 F tn tc Ft x y N C Fs sv SN SC SFs pl T z E H
  have hK := And.intro (wh_allIn H.1.1 Ft ) (cl_row1 H)
  refine haload_n X dL_law_435 rfl ?_
  refine hcallVr (C := RX7) (T := TX7) (N := 6) (As := []) (rest := []) X (q0 := 0) (kX7_allIn l G w h t u v k kk r n1 c1 F tn tc Ft x y N C Fs sv SN SC SFs pl T z H.1.1.hn H.1.1.hc H.1.1.b ) gL_law_X7_allIn rfl (n := 0) (by decide +kernel) (by decide) rfl rfl rfl rfl (Nat.le_of_ble_eq_true rfl) dL_law_436 rfl rfl hcs rfl ?_
  refine haload_n X dL_law_439 rfl ?_
  refine hV_perm List.perm_append_comm ?_
  refine hcallVr (C := RX8) (T := TX8) (N := 14) (As := []) (rest := [.int _]) X (q0 := 0) (kX8_allIn l G q E n1 c1 H.1.1.m ) gL_law_X8_allIn rfl (n := 0) (by decide +kernel) (by decide) rfl rfl rfl rfl (Nat.le_of_ble_eq_true rfl) dL_law_440 rfl rfl hcs rfl ?_
  refine hV_perm List.perm_append_comm ?_
  exact hicmp_eq X dL_law_443 (tgt := 635) (by decide) (fun _ => K _ _ _ _ _ _ _ _ _ _ _ _ _ _ _ _ _ _ _ hK.2) (fun g => absurd hK.1 g)
set_option maxHeartbeats 4000000 in
set_option maxRecDepth 100000 in
theorem lw_withCrew (X : hX p s m #[Value.ref b] meth c G (fun a => s.heap.size ≤ a) 4 cL_law RL wsL_law ret) (hS : va_X b L xs s s.heap) (hb : b < s.heap.size) {a : Nat} (ha : a + 5 ≤ L) (hL : L ≤ 2560) (hcs : cells ≤ 600000 ∧ slots ≤ 7302250) (K : lwK p l e s m below meth c G Q cells slots w h t u v k kk r q b 635 (nI a)) : lwK p l e s m below meth c G Q cells slots w h t u v k kk r q b 448 (nI a) := by
  intro n1 c1 F tn tc Ft x y N C Fs sv SN SC SFs pl T z E H
  have hK := And.intro (wh_crew H.1.1 Ft (xs (a + 1))) (cl_wc H (xs (a + 1)))
  refine haload_n X dL_law_448 rfl ?_
  refine haload_n X dL_law_449 rfl ?_
  refine hiload_n X dL_law_450 rfl ?_
  refine hiconst X (v := nI 1) dL_law_451 (by decide) ?_
  refine hiadd X dL_law_452 ?_
  refine hsld X hS hb (a + 1) (nI_add a 1) (by omega) (by omega) dL_law_453 ?_
  refine hcallVr (C := RX7) (T := TX7) (N := 6) (As := [.int (xs (a + 1))]) (rest := []) X (q0 := 0) (kX7_withCrew l G w h t u v k kk r n1 c1 F tn tc Ft x y N C Fs sv SN SC SFs pl T z H.1.1.hn H.1.1.hc H.1.1.b (xs (a + 1))) gL_law_X7_withCrew rfl (n := 1) (by decide +kernel) (by decide) rfl rfl rfl rfl (Nat.le_of_ble_eq_true rfl) dL_law_454 rfl rfl hcs rfl ?_
  refine haload_n X dL_law_457 rfl ?_
  refine haload_n X dL_law_458 rfl ?_
  refine hiload_n X dL_law_459 rfl ?_
  refine hiconst X (v := nI 1) dL_law_460 (by decide) ?_
  refine hiadd X dL_law_461 ?_
  refine hsld X hS hb (a + 1) (nI_add a 1) (by omega) (by omega) dL_law_462 ?_
  refine hV_perm List.perm_append_comm ?_
  refine hcallVr (C := RX8) (T := TX8) (N := 14) (As := [.int (xs (a + 1))]) (rest := [.int _]) X (q0 := 0) (kX8_withCrew l G q E n1 c1 H.1.1.m (xs (a + 1))) gL_law_X8_withCrew rfl (n := 1) (by decide +kernel) (by decide) rfl rfl rfl rfl (Nat.le_of_ble_eq_true rfl) dL_law_463 rfl rfl hcs rfl ?_
  refine hV_perm List.perm_append_comm ?_
  exact hicmp_eq X dL_law_466 (tgt := 635) (by decide) (fun _ => K _ _ _ _ _ _ _ _ _ _ _ _ _ _ _ _ _ _ _ hK.2) (fun g => absurd hK.1 g)
set_option maxHeartbeats 4000000 in
set_option maxRecDepth 100000 in
theorem lw_leastDock (X : hX p s m #[Value.ref b] meth c G (fun a => s.heap.size ≤ a) 4 cL_law RL wsL_law ret) (hS : va_X b L xs s s.heap) (hb : b < s.heap.size) {a : Nat} (ha : a + 5 ≤ L) (hL : L ≤ 2560) (hcs : cells ≤ 600000 ∧ slots ≤ 7302250) (K : lwK p l e s m below meth c G Q cells slots w h t u v k kk r q b 635 (nI a)) : lwK p l e s m below meth c G Q cells slots w h t u v k kk r q b 471 (nI a) := by
  intro n1 c1 F tn tc Ft x y N C Fs sv SN SC SFs pl T z E H
  have hK := And.intro (cl_least n1 c1 E ) (cl_row1 H)
  refine haload_n X dL_law_471 rfl ?_
  refine hcallV (C := RX7) (T := TX7) (N := 6) (As := []) (rest := []) X (q0 := 0) (kX7_leastDock l G w h t u v k kk r n1 c1 F tn tc Ft x y N C Fs sv SN SC SFs pl T z H.1.1.hn H.1.1.hc H.1.1.b _ (dG n1 c1 E) (dP n1 c1 E) (cl_dG n1 c1 E) cl_v (cl_g H) (fun _ => cl_P H)) gL_law_X7_leastDock rfl (n := 0) (by decide +kernel) (by decide) rfl rfl rfl rfl (Nat.le_of_ble_eq_true rfl) dL_law_472 hcs ?_
  rintro _ _ ⟨rfl, tn1, tc1, Ft1, rfl⟩
  refine haload_n X dL_law_475 rfl ?_
  refine hV_perm List.perm_append_comm ?_
  refine hcallVr (C := RX8) (T := TX8) (N := 14) (As := []) (rest := [.int _]) X (q0 := 0) (kX8_leastDock l G q E n1 c1 H.1.1.m ) gL_law_X8_leastDock rfl (n := 0) (by decide +kernel) (by decide) rfl rfl rfl rfl (Nat.le_of_ble_eq_true rfl) dL_law_476 rfl rfl hcs rfl ?_
  refine hV_perm List.perm_append_comm ?_
  exact hicmp_eq X dL_law_479 (tgt := 635) (by decide) (fun _ => K _ _ _ _ _ _ _ _ _ _ _ _ _ _ _ _ _ _ _ hK.2) (fun g => absurd hK.1 g)
set_option maxHeartbeats 4000000 in
set_option maxRecDepth 100000 in
theorem lw_put (X : hX p s m #[Value.ref b] meth c G (fun a => s.heap.size ≤ a) 4 cL_law RL wsL_law ret) (hS : va_X b L xs s s.heap) (hb : b < s.heap.size) {a : Nat} (ha : a + 5 ≤ L) (hL : L ≤ 2560) (hcs : cells ≤ 600000 ∧ slots ≤ 7302250) (K : lwK p l e s m below meth c G Q cells slots w h t u v k kk r q b 635 (nI a)) : lwK p l e s m below meth c G Q cells slots w h t u v k kk r q b 484 (nI a) := by
  intro n1 c1 F tn tc Ft x y N C Fs sv SN SC SFs pl T z E H
  have hK := And.intro (put_R pl (((xs (a + 1)).toInt64 <<< ((nI 32).toInt64 &&& 63)) ||| ((xs (a + 2)).toInt64 &&& 4294967295)) ) (H.put (((xs (a + 1)).toInt64 <<< ((nI 32).toInt64 &&& 63)) ||| ((xs (a + 2)).toInt64 &&& 4294967295)))
  refine haload_n X dL_law_484 rfl ?_
  refine haload_n X dL_law_485 rfl ?_
  refine hiload_n X dL_law_486 rfl ?_
  refine hiconst X (v := nI 1) dL_law_487 (by decide) ?_
  refine hiadd X dL_law_488 ?_
  refine hsld X hS hb (a + 1) (nI_add a 1) (by omega) (by omega) dL_law_489 ?_
  refine hi2l X dL_law_490 rfl ?_
  refine hbipush X (v := nI 32) dL_law_491 (by decide) ?_
  refine hlshl X dL_law_493 rfl ?_
  refine haload_n X dL_law_494 rfl ?_
  refine hiload_n X dL_law_495 rfl ?_
  refine hiconst X (v := nI 2) dL_law_496 (by decide) ?_
  refine hiadd X dL_law_497 ?_
  refine hsld X hS hb (a + 2) (nI_add a 2) (by omega) (by omega) dL_law_498 ?_
  refine hi2l X dL_law_499 rfl ?_
  refine hldc2 X (v := 4294967295) lw_cl dL_law_500 ?_
  refine hland X dL_law_503 ?_
  refine hlor X dL_law_504 ?_
  refine hcallVr (C := RX7) (T := TX7) (N := 6) (As := [.long (((xs (a + 1)).toInt64 <<< ((nI 32).toInt64 &&& 63)) ||| ((xs (a + 2)).toInt64 &&& 4294967295))]) (rest := []) X (q0 := 0) (kX7_put l G w h t u v k kk r n1 c1 F tn tc Ft x y N C Fs sv SN SC SFs pl T z H.2.2.2.2.2.2.1 (((xs (a + 1)).toInt64 <<< ((nI 32).toInt64 &&& 63)) ||| ((xs (a + 2)).toInt64 &&& 4294967295))) gL_law_X7_put rfl (n := 1) (by decide +kernel) (by decide) rfl rfl rfl rfl (Nat.le_of_ble_eq_true rfl) dL_law_505 rfl rfl hcs rfl ?_
  refine haload_n X dL_law_508 rfl ?_
  refine haload_n X dL_law_509 rfl ?_
  refine hiload_n X dL_law_510 rfl ?_
  refine hiconst X (v := nI 1) dL_law_511 (by decide) ?_
  refine hiadd X dL_law_512 ?_
  refine hsld X hS hb (a + 1) (nI_add a 1) (by omega) (by omega) dL_law_513 ?_
  refine hi2l X dL_law_514 rfl ?_
  refine hbipush X (v := nI 32) dL_law_515 (by decide) ?_
  refine hlshl X dL_law_517 rfl ?_
  refine haload_n X dL_law_518 rfl ?_
  refine hiload_n X dL_law_519 rfl ?_
  refine hiconst X (v := nI 2) dL_law_520 (by decide) ?_
  refine hiadd X dL_law_521 ?_
  refine hsld X hS hb (a + 2) (nI_add a 2) (by omega) (by omega) dL_law_522 ?_
  refine hi2l X dL_law_523 rfl ?_
  refine hldc2 X (v := 4294967295) lw_cl dL_law_524 ?_
  refine hland X dL_law_527 ?_
  refine hlor X dL_law_528 ?_
  refine hV_perm List.perm_append_comm ?_
  refine hcallVr (C := RX8) (T := TX8) (N := 14) (As := [.long (((xs (a + 1)).toInt64 <<< ((nI 32).toInt64 &&& 63)) ||| ((xs (a + 2)).toInt64 &&& 4294967295))]) (rest := [.int _]) X (q0 := 0) (kX8_put l G q E pl H.2.2.2.2.2.2.1 H.2.2.2.2.2.2.2.1 (((xs (a + 1)).toInt64 <<< ((nI 32).toInt64 &&& 63)) ||| ((xs (a + 2)).toInt64 &&& 4294967295))) gL_law_X8_put rfl (n := 1) (by decide +kernel) (by decide) rfl rfl rfl rfl (Nat.le_of_ble_eq_true rfl) dL_law_529 rfl rfl hcs rfl ?_
  refine hV_perm List.perm_append_comm ?_
  exact hicmp_eq X dL_law_532 (tgt := 635) (by decide) (fun _ => K _ _ _ _ _ _ _ _ _ _ _ _ _ _ _ _ _ _ _ hK.2) (fun g => absurd hK.1 g)
set_option maxHeartbeats 4000000 in
set_option maxRecDepth 100000 in
theorem lw_wipe (X : hX p s m #[Value.ref b] meth c G (fun a => s.heap.size ≤ a) 4 cL_law RL wsL_law ret) (hS : va_X b L xs s s.heap) (hb : b < s.heap.size) {a : Nat} (ha : a + 5 ≤ L) (hL : L ≤ 2560) (hcs : cells ≤ 600000 ∧ slots ≤ 7302250) (K : lwK p l e s m below meth c G Q cells slots w h t u v k kk r q b 635 (nI a)) : lwK p l e s m below meth c G Q cells slots w h t u v k kk r q b 537 (nI a) := by
  intro n1 c1 F tn tc Ft x y N C Fs sv SN SC SFs pl T z E H
  have hK := And.intro (H.2.2.2.2.2.2.2.1.symm ) (H.wipe)
  refine haload_n X dL_law_537 rfl ?_
  refine hcallVr (C := RX7) (T := TX7) (N := 6) (As := []) (rest := []) X (q0 := 0) (kX7_wipe l G w h t u v k kk r n1 c1 F tn tc Ft x y N C Fs sv SN SC SFs pl T z H.1.1.hn H.1.1.hc ) gL_law_X7_wipe rfl (n := 0) (by decide +kernel) (by decide) rfl rfl rfl rfl (Nat.le_of_ble_eq_true rfl) dL_law_538 rfl rfl hcs rfl ?_
  refine haload_n X dL_law_541 rfl ?_
  refine hV_perm List.perm_append_comm ?_
  refine hcallVr (C := RX8) (T := TX8) (N := 14) (As := []) (rest := [.int _]) X (q0 := 0) (kX8_wipe l G q E  ) gL_law_X8_wipe rfl (n := 0) (by decide +kernel) (by decide) rfl rfl rfl rfl (Nat.le_of_ble_eq_true rfl) dL_law_542 rfl rfl hcs rfl ?_
  refine hV_perm List.perm_append_comm ?_
  exact hicmp_eq X dL_law_545 (tgt := 635) (by decide) (fun _ => K _ _ _ _ _ _ _ _ _ _ _ _ _ _ _ _ _ _ _ hK.2) (fun g => absurd hK.1 g)
set_option maxHeartbeats 4000000 in
set_option maxRecDepth 100000 in
theorem lw_fault (X : hX p s m #[Value.ref b] meth c G (fun a => s.heap.size ≤ a) 4 cL_law RL wsL_law ret) (hS : va_X b L xs s s.heap) (hb : b < s.heap.size) {a : Nat} (ha : a + 5 ≤ L) (hL : L ≤ 2560) (hcs : cells ≤ 600000 ∧ slots ≤ 7302250) (K : lwK p l e s m below meth c G Q cells slots w h t u v k kk r q b 635 (nI a)) : lwK p l e s m below meth c G Q cells slots w h t u v k kk r q b 550 (nI a) := by
  intro n1 c1 F tn tc Ft x y N C Fs sv SN SC SFs pl T z E H
  refine haload_n X dL_law_550 rfl ?_
  refine hcallVr (C := RX7) (T := TX7) (N := 6) (As := []) (rest := []) X (q0 := 0) (kX7_fault l G w h t u v k kk r n1 c1 F tn tc Ft x y N C Fs sv SN SC SFs pl T z H.1.1.hn H.1.1.hc H.2.2.2.2.2.2.1 H.2.2.2.2.2.2.2.2.2 ) gL_law_X7_fault rfl (n := 0) (by decide +kernel) (by decide) rfl rfl rfl rfl (Nat.le_of_ble_eq_true rfl) dL_law_551 rfl rfl hcs rfl ?_
  refine haload_n X dL_law_554 rfl ?_
  refine hV_perm List.perm_append_comm ?_
  refine hcallV (C := RX8) (T := TX8) (N := 14) (As := []) (rest := [.int _]) X (q0 := 0) (kX8_fault l G q E pl H.2.2.2.2.2.2.1 H.2.2.2.2.2.2.2.1) gL_law_X8_fault rfl (n := 0) (by decide +kernel) (by decide) rfl rfl rfl rfl (Nat.le_of_ble_eq_true rfl) dL_law_555 hcs ?_
  rintro _ _ ⟨rfl, zz, z0, z1, rfl⟩
  have hK := And.intro (cl_fault H z) (cl_rest (E' := fr E 6 zz) H (fun j hj => fr_ne _ _ hj) (by rw [fr_same]; exact z0) (by rw [fr_same]; exact z1))
  refine hV_perm List.perm_append_comm ?_
  exact hicmp_eq X dL_law_558 (tgt := 635) (by decide) (fun _ => K _ _ _ _ _ _ _ _ _ _ _ _ _ _ _ _ _ _ _ hK.2) (fun g => absurd hK.1 g)
set_option maxHeartbeats 4000000 in
set_option maxRecDepth 100000 in
theorem lw_carryOut (X : hX p s m #[Value.ref b] meth c G (fun a => s.heap.size ≤ a) 4 cL_law RL wsL_law ret) (hS : va_X b L xs s s.heap) (hb : b < s.heap.size) {a : Nat} (ha : a + 5 ≤ L) (hL : L ≤ 2560) (hcs : cells ≤ 600000 ∧ slots ≤ 7302250) (K : lwK p l e s m below meth c G Q cells slots w h t u v k kk r q b 635 (nI a)) : lwK p l e s m below meth c G Q cells slots w h t u v k kk r q b 563 (nI a) := by
  intro n1 c1 F tn tc Ft x y N C Fs sv SN SC SFs pl T z E H
  by_cases hq : ffT (E 5) pl 81 0 = -6
  · refine haload_n X dL_law_563 rfl ?_
    refine hcallVr (C := RX7) (T := TX7) (N := 6) (As := []) (rest := []) X (q0 := 0) (kX7_carryOut l G w h t u v k kk r n1 c1 F tn tc Ft x y N C Fs sv SN SC SFs pl T z H.1.1.hn H.1.1.hc H.2.1.1 H.2.1.2.1 H.1.1.b H.2.2.2.2.2.2.1 H.2.2.2.2.2.2.2.2.2 ((cl_fault H z).trans hq)) gL_law_X7_carryOut rfl (n := 0) (by decide +kernel) (by decide) rfl rfl rfl rfl (Nat.le_of_ble_eq_true rfl) dL_law_564 rfl rfl hcs rfl ?_
    refine haload_n X dL_law_567 rfl ?_
    refine hV_perm List.perm_append_comm ?_
    refine hcallV (C := RX8) (T := TX8) (N := 14) (As := []) (rest := [.int _]) X (q0 := 0) (kX8_carryOut_ok l G q E pl y H.2.2.2.2.2.2.1 H.2.1.2.1 H.2.1.2.2 H.2.2.2.2.2.2.2.1 hq (coK T (E 5) pl (coN T pl 80 (0, n1, c1, F, zS0 (zFF T pl 80 (zS0 z))))) (coF (coN T pl 80 (0, n1, c1, F, zS0 (zFF T pl 80 (zS0 z))))) (fun E0 e0 => co_start H.2.2.2.2.2.2.1 H.1 hq _ E0 e0) (fun k1 a1 E1 y1 g1 g2 g3 g4 g5 g6 => co_do (cl_TX H) H.2.2.2.2.2.2.1 g1 g2 g3 g4 g5 g6) (fun k1 a1 E1 g1 g2 E2 g3 => co_end g1 g2 E2 g3)) gL_law_X8_carryOut rfl (n := 0) (by decide +kernel) (by decide) rfl rfl rfl rfl (Nat.le_of_ble_eq_true rfl) dL_law_568 hcs ?_
    rintro _ _ ⟨k1, E1, rfl, hF, g1, g2, g3, rfl⟩
    have hK := cl_carry H hF g1 g2 g3
    refine hV_perm List.perm_append_comm ?_
    exact hicmp_eq X dL_law_571 (tgt := 635) (by decide) (fun _ => K _ _ _ _ _ _ _ _ _ _ _ _ _ _ _ _ _ _ _ hK.2) (fun g => absurd hK.1 g)
  · refine haload_n X dL_law_563 rfl ?_
    refine hcallVr (C := RX7) (T := TX7) (N := 6) (As := []) (rest := []) X (q0 := 0) (kX7_carryOut_bad l G w h t u v k kk r n1 c1 F tn tc Ft x y N C Fs sv SN SC SFs pl T z H.1.1.hn H.1.1.hc H.2.1.1 H.2.1.2.1 H.1.1.b H.2.2.2.2.2.2.1 H.2.2.2.2.2.2.2.2.2 (fun g => hq ((cl_fault H z).symm.trans g))) gL_law_X7_carryOut rfl (n := 0) (by decide +kernel) (by decide) rfl rfl rfl rfl (Nat.le_of_ble_eq_true rfl) dL_law_564 rfl rfl hcs rfl ?_
    refine haload_n X dL_law_567 rfl ?_
    refine hV_perm List.perm_append_comm ?_
    refine hcallV (C := RX8) (T := TX8) (N := 14) (As := []) (rest := [.int _]) X (q0 := 0) (kX8_carryOut_bad l G q E pl H.2.2.2.2.2.2.1 H.2.2.2.2.2.2.2.1 hq) gL_law_X8_carryOut rfl (n := 0) (by decide +kernel) (by decide) rfl rfl rfl rfl (Nat.le_of_ble_eq_true rfl) dL_law_568 hcs ?_
    rintro _ _ ⟨rfl, zz, z0, z1, rfl⟩
    have hK := And.intro (rfl : (-3 : Int32) = -3) (cl_rest (E' := fr E 6 zz) H (fun j hj => fr_ne _ _ hj) (by rw [fr_same]; exact z0) (by rw [fr_same]; exact z1))
    refine hV_perm List.perm_append_comm ?_
    exact hicmp_eq X dL_law_571 (tgt := 635) (by decide) (fun _ => K _ _ _ _ _ _ _ _ _ _ _ _ _ _ _ _ _ _ _ hK.2) (fun g => absurd hK.1 g)
set_option maxHeartbeats 4000000 in
set_option maxRecDepth 100000 in
theorem lw_undo (X : hX p s m #[Value.ref b] meth c G (fun a => s.heap.size ≤ a) 4 cL_law RL wsL_law ret) (hS : va_X b L xs s s.heap) (hb : b < s.heap.size) {a : Nat} (ha : a + 5 ≤ L) (hL : L ≤ 2560) (hcs : cells ≤ 600000 ∧ slots ≤ 7302250) (K : lwK p l e s m below meth c G Q cells slots w h t u v k kk r q b 635 (nI a)) : lwK p l e s m below meth c G Q cells slots w h t u v k kk r q b 576 (nI a) := by
  intro n1 c1 F tn tc Ft x y N C Fs sv SN SC SFs pl T z E H
  have hK := cl_undo H 
  refine haload_n X dL_law_576 rfl ?_
  refine hcallVr (C := RX7) (T := TX7) (N := 6) (As := []) (rest := []) X (q0 := 0) (kX7_undo l G w h t u v k kk r n1 c1 F tn tc Ft x y N C Fs sv SN SC SFs pl T z H.1.1.hn H.1.1.hc H.2.1.1 H.2.1.2.1 H.1.1.b H.2.2.2.1 ) gL_law_X7_undo rfl (n := 0) (by decide +kernel) (by decide) rfl rfl rfl rfl (Nat.le_of_ble_eq_true rfl) dL_law_577 rfl rfl hcs rfl ?_
  refine haload_n X dL_law_580 rfl ?_
  refine hV_perm List.perm_append_comm ?_
  refine hcallVr (C := RX8) (T := TX8) (N := 14) (As := []) (rest := [.int _]) X (q0 := 0) (kX8_undo l G q E y H.2.1.2.1 H.2.1.2.2 ) gL_law_X8_undo rfl (n := 0) (by decide +kernel) (by decide) rfl rfl rfl rfl (Nat.le_of_ble_eq_true rfl) dL_law_581 rfl rfl hcs rfl ?_
  refine hV_perm List.perm_append_comm ?_
  exact hicmp_eq X dL_law_584 (tgt := 635) (by decide) (fun _ => K _ _ _ _ _ _ _ _ _ _ _ _ _ _ _ _ _ _ _ hK.2) (fun g => absurd hK.1 g)
set_option maxHeartbeats 4000000 in
set_option maxRecDepth 100000 in
theorem lw_save (X : hX p s m #[Value.ref b] meth c G (fun a => s.heap.size ≤ a) 4 cL_law RL wsL_law ret) (hS : va_X b L xs s s.heap) (hb : b < s.heap.size) {a : Nat} (ha : a + 5 ≤ L) (hL : L ≤ 2560) (hcs : cells ≤ 600000 ∧ slots ≤ 7302250) (K : lwK p l e s m below meth c G Q cells slots w h t u v k kk r q b 635 (nI a)) : lwK p l e s m below meth c G Q cells slots w h t u v k kk r q b 589 (nI a) := by
  intro n1 c1 F tn tc Ft x y N C Fs sv SN SC SFs pl T z E H
  have hK := cl_save H (xs (a + 1))
  refine haload_n X dL_law_589 rfl ?_
  refine haload_n X dL_law_590 rfl ?_
  refine hiload_n X dL_law_591 rfl ?_
  refine hiconst X (v := nI 1) dL_law_592 (by decide) ?_
  refine hiadd X dL_law_593 ?_
  refine hsld X hS hb (a + 1) (nI_add a 1) (by omega) (by omega) dL_law_594 ?_
  refine hcallVr (C := RX7) (T := TX7) (N := 6) (As := [.int (xs (a + 1))]) (rest := []) X (q0 := 0) (kX7_save l G w h t u v k kk r n1 c1 F tn tc Ft x y N C Fs sv SN SC SFs pl T z H.1.1.hn H.1.1.hc H.1.1.b (xs (a + 1))) gL_law_X7_save rfl (n := 1) (by decide +kernel) (by decide) rfl rfl rfl rfl (Nat.le_of_ble_eq_true rfl) dL_law_595 rfl rfl hcs rfl ?_
  refine haload_n X dL_law_598 rfl ?_
  refine haload_n X dL_law_599 rfl ?_
  refine hiload_n X dL_law_600 rfl ?_
  refine hiconst X (v := nI 1) dL_law_601 (by decide) ?_
  refine hiadd X dL_law_602 ?_
  refine hsld X hS hb (a + 1) (nI_add a 1) (by omega) (by omega) dL_law_603 ?_
  refine hV_perm List.perm_append_comm ?_
  refine hcallVr (C := RX8) (T := TX8) (N := 14) (As := [.int (xs (a + 1))]) (rest := [.int _]) X (q0 := 0) (kX8_save l G q E n1 c1 H.1.1.m (xs (a + 1))) gL_law_X8_save rfl (n := 1) (by decide +kernel) (by decide) rfl rfl rfl rfl (Nat.le_of_ble_eq_true rfl) dL_law_604 rfl rfl hcs rfl ?_
  refine hV_perm List.perm_append_comm ?_
  exact hicmp_eq X dL_law_607 (tgt := 635) (by decide) (fun _ => K _ _ _ _ _ _ _ _ _ _ _ _ _ _ _ _ _ _ _ hK.2) (fun g => absurd hK.1 g)
set_option maxHeartbeats 4000000 in
set_option maxRecDepth 100000 in
theorem lw_restore (X : hX p s m #[Value.ref b] meth c G (fun a => s.heap.size ≤ a) 4 cL_law RL wsL_law ret) (hS : va_X b L xs s s.heap) (hb : b < s.heap.size) {a : Nat} (ha : a + 5 ≤ L) (hL : L ≤ 2560) (hcs : cells ≤ 600000 ∧ slots ≤ 7302250) (K : lwK p l e s m below meth c G Q cells slots w h t u v k kk r q b 635 (nI a)) : lwK p l e s m below meth c G Q cells slots w h t u v k kk r q b 612 (nI a) := by
  intro n1 c1 F tn tc Ft x y N C Fs sv SN SC SFs pl T z E H
  have hK := cl_restore H (xs (a + 1))
  refine haload_n X dL_law_612 rfl ?_
  refine haload_n X dL_law_613 rfl ?_
  refine hiload_n X dL_law_614 rfl ?_
  refine hiconst X (v := nI 1) dL_law_615 (by decide) ?_
  refine hiadd X dL_law_616 ?_
  refine hsld X hS hb (a + 1) (nI_add a 1) (by omega) (by omega) dL_law_617 ?_
  refine hcallVr (C := RX7) (T := TX7) (N := 6) (As := [.int (xs (a + 1))]) (rest := []) X (q0 := 0) (kX7_restore l G w h t u v k kk r n1 c1 F tn tc Ft x y N C Fs sv SN SC SFs pl T z H.1.1.hn H.1.1.hc H.2.1.1 H.2.1.2.1 H.1.1.b H.2.2.2.2.1 (xs (a + 1))) gL_law_X7_restore rfl (n := 1) (by decide +kernel) (by decide) rfl rfl rfl rfl (Nat.le_of_ble_eq_true rfl) dL_law_618 rfl rfl hcs rfl ?_
  refine haload_n X dL_law_621 rfl ?_
  refine haload_n X dL_law_622 rfl ?_
  refine hiload_n X dL_law_623 rfl ?_
  refine hiconst X (v := nI 1) dL_law_624 (by decide) ?_
  refine hiadd X dL_law_625 ?_
  refine hsld X hS hb (a + 1) (nI_add a 1) (by omega) (by omega) dL_law_626 ?_
  refine hV_perm List.perm_append_comm ?_
  refine hcallVr (C := RX8) (T := TX8) (N := 14) (As := [.int (xs (a + 1))]) (rest := [.int _]) X (q0 := 0) (kX8_restore l G q E y H.2.1.2.1 H.2.1.2.2 (xs (a + 1))) gL_law_X8_restore rfl (n := 1) (by decide +kernel) (by decide) rfl rfl rfl rfl (Nat.le_of_ble_eq_true rfl) dL_law_627 rfl rfl hcs rfl ?_
  refine hV_perm List.perm_append_comm ?_
  exact hicmp_eq X dL_law_630 (tgt := 635) (by decide) (fun _ => K _ _ _ _ _ _ _ _ _ _ _ _ _ _ _ _ _ _ _ hK.2) (fun g => absurd hK.1 g)
end LAW
