set_option maxHeartbeats 4000000 in
set_option maxRecDepth 100000 in
/-- the law: problem -/
theorem law_c0 {p : Program} {l : Launch} {e : Env} {s : State} {m : MethodId} {below : List Frame} {meth : Method} {c : Code} {dC : Nat → ClassId} {dI : Nat → Nat → Nat} {b N : Nat} {xs : Nat → Int32} {K : Nat → ClassId} {ad : Nat → Nat} (C0 : lw_At p s m meth c b N xs) (hN : N ≤ 2560) (hK : va_K (dC, dI) vwCl (tyA K) s) (hap : apart ad (fun _ => True)) (hge : ∀ j, j < NS → s.heap.size ≤ ad j) {n : Nat} (hn : 5 * n + 5 ≤ N) (I : Nat → Nat → Int32) (G : Nat → Nat → Nat) (A : Nat → Nat → Int32) (L : Nat → Nat → Int64) (h : Rel n I G A L I A) (H : Heap) (locs : List Loc) (hP : va_P (dC, dI) vwCl (VW K ad I G A L) H) (hS : va_S (fun q : Nat => s.heap.size ≤ q) s.heap H locs) (ls : Array Slot) (hl : lv_has ls 4 [(3, .int (nI (5 * n))), (2, .ref (ad 318)), (1, .ref (ad 0)), (0, .ref b)]) (kk : ∀ (I : Nat → Nat → Int32) (G : Nat → Nat → Nat) (A : Nat → Nat → Int32) (L : Nat → Nat → Int64) (H : Heap) (locs : List Loc), Rel (n + 1) I G A L I A → va_P (dC, dI) vwCl (VW K ad I G A L) H → va_S (fun q : Nat => s.heap.size ≤ q) s.heap H locs → W p l e room_1 s m #[Value.ref b] below meth c H locs 378 153906 (lw_Z below #[Value.ref b] s) (F0 m 1044 ls [])) : W p l e room_1 s m #[Value.ref b] below meth c H locs 378 153906 (lw_Z below #[Value.ref b] s) (F0 m 160 ls []) := by
  obtain ⟨hx, hb, hr, hml, hown, hts0, hX, hbl, hlocks, hgv⟩ := id C0
  have hts : ∀ w ∈ wsL_law, w.before #[Value.ref b] s = true := fun w h => hts0 w (wsL_law_in w h)
  have hown : s.vm.findClass RL = some m.cls := hown
  have hA : ∀ q : Nat, s.heap.size ≤ q → (fun q : Nat => s.heap.size ≤ q) q := fun _ h => h
  have hbA : ¬ (fun q : Nat => s.heap.size ≤ q) b := Nat.not_le.mpr hbl
  obtain ⟨r, I1, J2, e1, e2, hr1⟩ := g_problem  h 
  refine lv_aload_n hx hb dL_law_160 rfl (lv_at hl 2 rfl) ?_
  refine vcL (j := 0) (As := []) (rest := []) ⟨hx, hb, hml, hown, hts⟩ (e_X6_problem l (dC, dI) K ad hap  _ _ _ _  _ _ e1) (cwV 0 hts gL_law_X6_problem rfl rfl rfl (by decide +kernel) ⟨Nat.le_of_ble_eq_true rfl, Nat.le_of_ble_eq_true rfl⟩) hK hP hS hge (by decide) (show kd 0 = 6 by decide) (by decide) rfl rfl rfl hl.1 (Nat.le_of_ble_eq_true rfl) (Nat.le_of_ble_eq_true rfl) (Nat.le_of_ble_eq_true rfl) dL_law_161 (fun q6 u H locs hw hP hS => ?_) rfl
  obtain ⟨rfl, rfl⟩ := hw
  have hP : va_P (dC, dI) vwCl (VW K ad I1 G A L) H := hP
  refine lv_pop hx hb dL_law_164 rfl ?_
  refine lv_aload_n hx hb dL_law_165 rfl (lv_at hl 1 rfl) ?_
  refine vcL (j := 318) (As := []) (rest := []) ⟨hx, hb, hml, hown, hts⟩ (e_X7_problem l (dC, dI) K ad hap  _ _ _ _  _ _ e2) (cwV 0 hts gL_law_X7_problem rfl rfl rfl (by decide +kernel) ⟨Nat.le_of_ble_eq_true rfl, Nat.le_of_ble_eq_true rfl⟩) hK hP hS hge (by decide) (show kd 318 = 7 by decide) (by decide) rfl rfl rfl hl.1 (Nat.le_of_ble_eq_true rfl) (Nat.le_of_ble_eq_true rfl) (Nat.le_of_ble_eq_true rfl) dL_law_166 (fun q7 u H locs hw hP hS => ?_) rfl
  obtain ⟨rfl, rfl⟩ := hw
  have hP : va_P (dC, dI) vwCl (VW K ad J2 G A L) H := hP
  refine lv_pop hx hb dL_law_169 rfl ?_
  refine lv_goto (tgt := 1044) hx hb dL_law_170 (by decide) ?_
  exact kk J2 G A L H locs hr1 hP hS
set_option maxHeartbeats 4000000 in
set_option maxRecDepth 100000 in
/-- the law: variable -/
theorem law_c1 {p : Program} {l : Launch} {e : Env} {s : State} {m : MethodId} {below : List Frame} {meth : Method} {c : Code} {dC : Nat → ClassId} {dI : Nat → Nat → Nat} {b N : Nat} {xs : Nat → Int32} {K : Nat → ClassId} {ad : Nat → Nat} (C0 : lw_At p s m meth c b N xs) (hN : N ≤ 2560) (hK : va_K (dC, dI) vwCl (tyA K) s) (hap : apart ad (fun _ => True)) (hge : ∀ j, j < NS → s.heap.size ≤ ad j) {n : Nat} (hn : 5 * n + 5 ≤ N) (I : Nat → Nat → Int32) (G : Nat → Nat → Nat) (A : Nat → Nat → Int32) (L : Nat → Nat → Int64) (h : Rel n I G A L I A) (H : Heap) (locs : List Loc) (hP : va_P (dC, dI) vwCl (VW K ad I G A L) H) (hS : va_S (fun q : Nat => s.heap.size ≤ q) s.heap H locs) (ls : Array Slot) (hl : lv_has ls 4 [(3, .int (nI (5 * n))), (2, .ref (ad 318)), (1, .ref (ad 0)), (0, .ref b)]) (kk : ∀ (I : Nat → Nat → Int32) (G : Nat → Nat → Nat) (A : Nat → Nat → Int32) (L : Nat → Nat → Int64) (H : Heap) (locs : List Loc), Rel (n + 1) I G A L I A → va_P (dC, dI) vwCl (VW K ad I G A L) H → va_S (fun q : Nat => s.heap.size ≤ q) s.heap H locs → W p l e room_1 s m #[Value.ref b] below meth c H locs 378 153906 (lw_Z below #[Value.ref b] s) (F0 m 1044 ls [])) : W p l e room_1 s m #[Value.ref b] below meth c H locs 378 153906 (lw_Z below #[Value.ref b] s) (F0 m 173 ls []) := by
  obtain ⟨hx, hb, hr, hml, hown, hts0, hX, hbl, hlocks, hgv⟩ := id C0
  have hts : ∀ w ∈ wsL_law, w.before #[Value.ref b] s = true := fun w h => hts0 w (wsL_law_in w h)
  have hown : s.vm.findClass RL = some m.cls := hown
  have hA : ∀ q : Nat, s.heap.size ≤ q → (fun q : Nat => s.heap.size ≤ q) q := fun _ h => h
  have hbA : ¬ (fun q : Nat => s.heap.size ≤ q) b := Nat.not_le.mpr hbl
  obtain ⟨r, I1, A1, J2, R2, e1, e2, hr1⟩ := g_variable (xs (nI (5 * n) + 1).toNatClampNeg) (xs (nI (5 * n) + 2).toNatClampNeg) (xs (nI (5 * n) + 3).toNatClampNeg) h (by omega)
  refine lv_aload_n hx hb dL_law_173 rfl (lv_at hl 2 rfl) ?_
  refine lv_aload_n hx hb dL_law_174 rfl (lv_at hl 3 rfl) ?_
  refine lv_iload_n hx hb dL_law_175 rfl (lv_at hl 0 rfl) ?_
  refine lv_iconst (v := 1) hx hb dL_law_176 (by decide) ?_
  refine lv_iadd hx hb dL_law_177 ?_
  refine va_sld hx hb hX hbl hbA hS (lw_in hN hn 1 (by decide)) dL_law_178 ?_
  refine lv_aload_n hx hb dL_law_179 rfl (lv_at hl 3 rfl) ?_
  refine lv_iload_n hx hb dL_law_180 rfl (lv_at hl 0 rfl) ?_
  refine lv_iconst (v := 2) hx hb dL_law_181 (by decide) ?_
  refine lv_iadd hx hb dL_law_182 ?_
  refine va_sld hx hb hX hbl hbA hS (lw_in hN hn 2 (by decide)) dL_law_183 ?_
  refine lv_aload_n hx hb dL_law_184 rfl (lv_at hl 3 rfl) ?_
  refine lv_iload_n hx hb dL_law_185 rfl (lv_at hl 0 rfl) ?_
  refine lv_iconst (v := 3) hx hb dL_law_186 (by decide) ?_
  refine lv_iadd hx hb dL_law_187 ?_
  refine va_sld hx hb hX hbl hbA hS (lw_in hN hn 3 (by decide)) dL_law_188 ?_
  refine vcL (j := 0) (As := [.int (xs (nI (5 * n) + 1).toNatClampNeg), .int (xs (nI (5 * n) + 2).toNatClampNeg), .int (xs (nI (5 * n) + 3).toNatClampNeg)]) (rest := []) ⟨hx, hb, hml, hown, hts⟩ (e_X6_variable l (dC, dI) K ad hap _ _ _ _ _ _ _  _ _ _ e1) (cwV 3 hts gL_law_X6_variable rfl rfl rfl (by decide +kernel) ⟨Nat.le_of_ble_eq_true rfl, Nat.le_of_ble_eq_true rfl⟩) hK hP hS hge (by decide) (show kd 0 = 6 by decide) (by decide) rfl rfl rfl hl.1 (Nat.le_of_ble_eq_true rfl) (Nat.le_of_ble_eq_true rfl) (Nat.le_of_ble_eq_true rfl) dL_law_189 (fun q6 u H locs hw hP hS => ?_) rfl
  obtain ⟨rfl, rfl⟩ := hw
  have hP : va_P (dC, dI) vwCl (VW K ad I1 G A1 L) H := hP
  refine lv_pop hx hb dL_law_192 rfl ?_
  refine lv_aload_n hx hb dL_law_193 rfl (lv_at hl 1 rfl) ?_
  refine lv_aload_n hx hb dL_law_194 rfl (lv_at hl 3 rfl) ?_
  refine lv_iload_n hx hb dL_law_195 rfl (lv_at hl 0 rfl) ?_
  refine lv_iconst (v := 1) hx hb dL_law_196 (by decide) ?_
  refine lv_iadd hx hb dL_law_197 ?_
  refine va_sld hx hb hX hbl hbA hS (lw_in hN hn 1 (by decide)) dL_law_198 ?_
  refine lv_aload_n hx hb dL_law_199 rfl (lv_at hl 3 rfl) ?_
  refine lv_iload_n hx hb dL_law_200 rfl (lv_at hl 0 rfl) ?_
  refine lv_iconst (v := 2) hx hb dL_law_201 (by decide) ?_
  refine lv_iadd hx hb dL_law_202 ?_
  refine va_sld hx hb hX hbl hbA hS (lw_in hN hn 2 (by decide)) dL_law_203 ?_
  refine lv_aload_n hx hb dL_law_204 rfl (lv_at hl 3 rfl) ?_
  refine lv_iload_n hx hb dL_law_205 rfl (lv_at hl 0 rfl) ?_
  refine lv_iconst (v := 3) hx hb dL_law_206 (by decide) ?_
  refine lv_iadd hx hb dL_law_207 ?_
  refine va_sld hx hb hX hbl hbA hS (lw_in hN hn 3 (by decide)) dL_law_208 ?_
  refine vcL (j := 318) (As := [.int (xs (nI (5 * n) + 1).toNatClampNeg), .int (xs (nI (5 * n) + 2).toNatClampNeg), .int (xs (nI (5 * n) + 3).toNatClampNeg)]) (rest := []) ⟨hx, hb, hml, hown, hts⟩ (e_X7_variable l (dC, dI) K ad hap _ _ _ _ _ _ _  _ _ _ e2) (cwV 3 hts gL_law_X7_variable rfl rfl rfl (by decide +kernel) ⟨Nat.le_of_ble_eq_true rfl, Nat.le_of_ble_eq_true rfl⟩) hK hP hS hge (by decide) (show kd 318 = 7 by decide) (by decide) rfl rfl rfl hl.1 (Nat.le_of_ble_eq_true rfl) (Nat.le_of_ble_eq_true rfl) (Nat.le_of_ble_eq_true rfl) dL_law_209 (fun q7 u H locs hw hP hS => ?_) rfl
  obtain ⟨rfl, rfl⟩ := hw
  have hP : va_P (dC, dI) vwCl (VW K ad J2 G R2 L) H := hP
  refine lv_pop hx hb dL_law_212 rfl ?_
  refine lv_goto (tgt := 1044) hx hb dL_law_213 (by decide) ?_
  exact kk J2 G R2 L H locs hr1 hP hS
set_option maxHeartbeats 4000000 in
set_option maxRecDepth 100000 in
/-- the law: cost -/
theorem law_c2 {p : Program} {l : Launch} {e : Env} {s : State} {m : MethodId} {below : List Frame} {meth : Method} {c : Code} {dC : Nat → ClassId} {dI : Nat → Nat → Nat} {b N : Nat} {xs : Nat → Int32} {K : Nat → ClassId} {ad : Nat → Nat} (C0 : lw_At p s m meth c b N xs) (hN : N ≤ 2560) (hK : va_K (dC, dI) vwCl (tyA K) s) (hap : apart ad (fun _ => True)) (hge : ∀ j, j < NS → s.heap.size ≤ ad j) {n : Nat} (hn : 5 * n + 5 ≤ N) (I : Nat → Nat → Int32) (G : Nat → Nat → Nat) (A : Nat → Nat → Int32) (L : Nat → Nat → Int64) (h : Rel n I G A L I A) (H : Heap) (locs : List Loc) (hP : va_P (dC, dI) vwCl (VW K ad I G A L) H) (hS : va_S (fun q : Nat => s.heap.size ≤ q) s.heap H locs) (ls : Array Slot) (hl : lv_has ls 4 [(3, .int (nI (5 * n))), (2, .ref (ad 318)), (1, .ref (ad 0)), (0, .ref b)]) (kk : ∀ (I : Nat → Nat → Int32) (G : Nat → Nat → Nat) (A : Nat → Nat → Int32) (L : Nat → Nat → Int64) (H : Heap) (locs : List Loc), Rel (n + 1) I G A L I A → va_P (dC, dI) vwCl (VW K ad I G A L) H → va_S (fun q : Nat => s.heap.size ≤ q) s.heap H locs → W p l e room_1 s m #[Value.ref b] below meth c H locs 378 153906 (lw_Z below #[Value.ref b] s) (F0 m 1044 ls [])) : W p l e room_1 s m #[Value.ref b] below meth c H locs 378 153906 (lw_Z below #[Value.ref b] s) (F0 m 216 ls []) := by
  obtain ⟨hx, hb, hr, hml, hown, hts0, hX, hbl, hlocks, hgv⟩ := id C0
  have hts : ∀ w ∈ wsL_law, w.before #[Value.ref b] s = true := fun w h => hts0 w (wsL_law_in w h)
  have hown : s.vm.findClass RL = some m.cls := hown
  have hA : ∀ q : Nat, s.heap.size ≤ q → (fun q : Nat => s.heap.size ≤ q) q := fun _ h => h
  have hbA : ¬ (fun q : Nat => s.heap.size ≤ q) b := Nat.not_le.mpr hbl
  obtain ⟨r, I1, A1, J2, R2, e1, e2, hr1⟩ := g_cost (xs (nI (5 * n) + 1).toNatClampNeg) (xs (nI (5 * n) + 2).toNatClampNeg) (xs (nI (5 * n) + 3).toNatClampNeg) (xs (nI (5 * n) + 4).toNatClampNeg) h (by omega)
  refine lv_aload_n hx hb dL_law_216 rfl (lv_at hl 2 rfl) ?_
  refine lv_aload_n hx hb dL_law_217 rfl (lv_at hl 3 rfl) ?_
  refine lv_iload_n hx hb dL_law_218 rfl (lv_at hl 0 rfl) ?_
  refine lv_iconst (v := 1) hx hb dL_law_219 (by decide) ?_
  refine lv_iadd hx hb dL_law_220 ?_
  refine va_sld hx hb hX hbl hbA hS (lw_in hN hn 1 (by decide)) dL_law_221 ?_
  refine lv_aload_n hx hb dL_law_222 rfl (lv_at hl 3 rfl) ?_
  refine lv_iload_n hx hb dL_law_223 rfl (lv_at hl 0 rfl) ?_
  refine lv_iconst (v := 2) hx hb dL_law_224 (by decide) ?_
  refine lv_iadd hx hb dL_law_225 ?_
  refine va_sld hx hb hX hbl hbA hS (lw_in hN hn 2 (by decide)) dL_law_226 ?_
  refine lv_aload_n hx hb dL_law_227 rfl (lv_at hl 3 rfl) ?_
  refine lv_iload_n hx hb dL_law_228 rfl (lv_at hl 0 rfl) ?_
  refine lv_iconst (v := 3) hx hb dL_law_229 (by decide) ?_
  refine lv_iadd hx hb dL_law_230 ?_
  refine va_sld hx hb hX hbl hbA hS (lw_in hN hn 3 (by decide)) dL_law_231 ?_
  refine lv_aload_n hx hb dL_law_232 rfl (lv_at hl 3 rfl) ?_
  refine lv_iload_n hx hb dL_law_233 rfl (lv_at hl 0 rfl) ?_
  refine lv_iconst (v := 4) hx hb dL_law_234 (by decide) ?_
  refine lv_iadd hx hb dL_law_235 ?_
  refine va_sld hx hb hX hbl hbA hS (lw_in hN hn 4 (by decide)) dL_law_236 ?_
  refine vcL (j := 0) (As := [.int (xs (nI (5 * n) + 1).toNatClampNeg), .int (xs (nI (5 * n) + 2).toNatClampNeg), .int (xs (nI (5 * n) + 3).toNatClampNeg), .int (xs (nI (5 * n) + 4).toNatClampNeg)]) (rest := []) ⟨hx, hb, hml, hown, hts⟩ (e_X6_cost l (dC, dI) K ad hap _ _ _ _ _ _ _ _  _ _ _ e1) (cwV 4 hts gL_law_X6_cost rfl rfl rfl (by decide +kernel) ⟨Nat.le_of_ble_eq_true rfl, Nat.le_of_ble_eq_true rfl⟩) hK hP hS hge (by decide) (show kd 0 = 6 by decide) (by decide) rfl rfl rfl hl.1 (Nat.le_of_ble_eq_true rfl) (Nat.le_of_ble_eq_true rfl) (Nat.le_of_ble_eq_true rfl) dL_law_237 (fun q6 u H locs hw hP hS => ?_) rfl
  obtain ⟨rfl, rfl⟩ := hw
  have hP : va_P (dC, dI) vwCl (VW K ad I1 G A1 L) H := hP
  refine lv_pop hx hb dL_law_240 rfl ?_
  refine lv_aload_n hx hb dL_law_241 rfl (lv_at hl 1 rfl) ?_
  refine lv_aload_n hx hb dL_law_242 rfl (lv_at hl 3 rfl) ?_
  refine lv_iload_n hx hb dL_law_243 rfl (lv_at hl 0 rfl) ?_
  refine lv_iconst (v := 1) hx hb dL_law_244 (by decide) ?_
  refine lv_iadd hx hb dL_law_245 ?_
  refine va_sld hx hb hX hbl hbA hS (lw_in hN hn 1 (by decide)) dL_law_246 ?_
  refine lv_aload_n hx hb dL_law_247 rfl (lv_at hl 3 rfl) ?_
  refine lv_iload_n hx hb dL_law_248 rfl (lv_at hl 0 rfl) ?_
  refine lv_iconst (v := 2) hx hb dL_law_249 (by decide) ?_
  refine lv_iadd hx hb dL_law_250 ?_
  refine va_sld hx hb hX hbl hbA hS (lw_in hN hn 2 (by decide)) dL_law_251 ?_
  refine lv_aload_n hx hb dL_law_252 rfl (lv_at hl 3 rfl) ?_
  refine lv_iload_n hx hb dL_law_253 rfl (lv_at hl 0 rfl) ?_
  refine lv_iconst (v := 3) hx hb dL_law_254 (by decide) ?_
  refine lv_iadd hx hb dL_law_255 ?_
  refine va_sld hx hb hX hbl hbA hS (lw_in hN hn 3 (by decide)) dL_law_256 ?_
  refine lv_aload_n hx hb dL_law_257 rfl (lv_at hl 3 rfl) ?_
  refine lv_iload_n hx hb dL_law_258 rfl (lv_at hl 0 rfl) ?_
  refine lv_iconst (v := 4) hx hb dL_law_259 (by decide) ?_
  refine lv_iadd hx hb dL_law_260 ?_
  refine va_sld hx hb hX hbl hbA hS (lw_in hN hn 4 (by decide)) dL_law_261 ?_
  refine vcL (j := 318) (As := [.int (xs (nI (5 * n) + 1).toNatClampNeg), .int (xs (nI (5 * n) + 2).toNatClampNeg), .int (xs (nI (5 * n) + 3).toNatClampNeg), .int (xs (nI (5 * n) + 4).toNatClampNeg)]) (rest := []) ⟨hx, hb, hml, hown, hts⟩ (e_X7_cost l (dC, dI) K ad hap _ _ _ _ _ _ _ _  _ _ _ e2) (cwV 4 hts gL_law_X7_cost rfl rfl rfl (by decide +kernel) ⟨Nat.le_of_ble_eq_true rfl, Nat.le_of_ble_eq_true rfl⟩) hK hP hS hge (by decide) (show kd 318 = 7 by decide) (by decide) rfl rfl rfl hl.1 (Nat.le_of_ble_eq_true rfl) (Nat.le_of_ble_eq_true rfl) (Nat.le_of_ble_eq_true rfl) dL_law_262 (fun q7 u H locs hw hP hS => ?_) rfl
  obtain ⟨rfl, rfl⟩ := hw
  have hP : va_P (dC, dI) vwCl (VW K ad J2 G R2 L) H := hP
  refine lv_pop hx hb dL_law_265 rfl ?_
  refine lv_goto (tgt := 1044) hx hb dL_law_266 (by decide) ?_
  exact kk J2 G R2 L H locs hr1 hP hS
set_option maxHeartbeats 4000000 in
set_option maxRecDepth 100000 in
/-- the law: rule -/
theorem law_c3 {p : Program} {l : Launch} {e : Env} {s : State} {m : MethodId} {below : List Frame} {meth : Method} {c : Code} {dC : Nat → ClassId} {dI : Nat → Nat → Nat} {b N : Nat} {xs : Nat → Int32} {K : Nat → ClassId} {ad : Nat → Nat} (C0 : lw_At p s m meth c b N xs) (hN : N ≤ 2560) (hK : va_K (dC, dI) vwCl (tyA K) s) (hap : apart ad (fun _ => True)) (hge : ∀ j, j < NS → s.heap.size ≤ ad j) {n : Nat} (hn : 5 * n + 5 ≤ N) (I : Nat → Nat → Int32) (G : Nat → Nat → Nat) (A : Nat → Nat → Int32) (L : Nat → Nat → Int64) (h : Rel n I G A L I A) (H : Heap) (locs : List Loc) (hP : va_P (dC, dI) vwCl (VW K ad I G A L) H) (hS : va_S (fun q : Nat => s.heap.size ≤ q) s.heap H locs) (ls : Array Slot) (hl : lv_has ls 4 [(3, .int (nI (5 * n))), (2, .ref (ad 318)), (1, .ref (ad 0)), (0, .ref b)]) (kk : ∀ (I : Nat → Nat → Int32) (G : Nat → Nat → Nat) (A : Nat → Nat → Int32) (L : Nat → Nat → Int64) (H : Heap) (locs : List Loc), Rel (n + 1) I G A L I A → va_P (dC, dI) vwCl (VW K ad I G A L) H → va_S (fun q : Nat => s.heap.size ≤ q) s.heap H locs → W p l e room_1 s m #[Value.ref b] below meth c H locs 378 153906 (lw_Z below #[Value.ref b] s) (F0 m 1044 ls [])) : W p l e room_1 s m #[Value.ref b] below meth c H locs 378 153906 (lw_Z below #[Value.ref b] s) (F0 m 269 ls []) := by
  obtain ⟨hx, hb, hr, hml, hown, hts0, hX, hbl, hlocks, hgv⟩ := id C0
  have hts : ∀ w ∈ wsL_law, w.before #[Value.ref b] s = true := fun w h => hts0 w (wsL_law_in w h)
  have hown : s.vm.findClass RL = some m.cls := hown
  have hA : ∀ q : Nat, s.heap.size ≤ q → (fun q : Nat => s.heap.size ≤ q) q := fun _ h => h
  have hbA : ¬ (fun q : Nat => s.heap.size ≤ q) b := Nat.not_le.mpr hbl
  obtain ⟨r, I1, J2, R2, e1, e2, hr1⟩ := g_rule (xs (nI (5 * n) + 1).toNatClampNeg) (xs (nI (5 * n) + 2).toNatClampNeg) (xs (nI (5 * n) + 3).toNatClampNeg) h (by omega)
  refine lv_aload_n hx hb dL_law_269 rfl (lv_at hl 2 rfl) ?_
  refine lv_aload_n hx hb dL_law_270 rfl (lv_at hl 3 rfl) ?_
  refine lv_iload_n hx hb dL_law_271 rfl (lv_at hl 0 rfl) ?_
  refine lv_iconst (v := 1) hx hb dL_law_272 (by decide) ?_
  refine lv_iadd hx hb dL_law_273 ?_
  refine va_sld hx hb hX hbl hbA hS (lw_in hN hn 1 (by decide)) dL_law_274 ?_
  refine lv_aload_n hx hb dL_law_275 rfl (lv_at hl 3 rfl) ?_
  refine lv_iload_n hx hb dL_law_276 rfl (lv_at hl 0 rfl) ?_
  refine lv_iconst (v := 2) hx hb dL_law_277 (by decide) ?_
  refine lv_iadd hx hb dL_law_278 ?_
  refine va_sld hx hb hX hbl hbA hS (lw_in hN hn 2 (by decide)) dL_law_279 ?_
  refine lv_aload_n hx hb dL_law_280 rfl (lv_at hl 3 rfl) ?_
  refine lv_iload_n hx hb dL_law_281 rfl (lv_at hl 0 rfl) ?_
  refine lv_iconst (v := 3) hx hb dL_law_282 (by decide) ?_
  refine lv_iadd hx hb dL_law_283 ?_
  refine va_sld hx hb hX hbl hbA hS (lw_in hN hn 3 (by decide)) dL_law_284 ?_
  refine vcL (j := 0) (As := [.int (xs (nI (5 * n) + 1).toNatClampNeg), .int (xs (nI (5 * n) + 2).toNatClampNeg), .int (xs (nI (5 * n) + 3).toNatClampNeg)]) (rest := []) ⟨hx, hb, hml, hown, hts⟩ (e_X6_rule l (dC, dI) K ad hap _ _ _ _ _ _ _  _ _ e1) (cwV 3 hts gL_law_X6_rule rfl rfl rfl (by decide +kernel) ⟨Nat.le_of_ble_eq_true rfl, Nat.le_of_ble_eq_true rfl⟩) hK hP hS hge (by decide) (show kd 0 = 6 by decide) (by decide) rfl rfl rfl hl.1 (Nat.le_of_ble_eq_true rfl) (Nat.le_of_ble_eq_true rfl) (Nat.le_of_ble_eq_true rfl) dL_law_285 (fun q6 u H locs hw hP hS => ?_) rfl
  obtain ⟨rfl, rfl⟩ := hw
  have hP : va_P (dC, dI) vwCl (VW K ad I1 G A L) H := hP
  refine lv_pop hx hb dL_law_288 rfl ?_
  refine lv_aload_n hx hb dL_law_289 rfl (lv_at hl 1 rfl) ?_
  refine lv_aload_n hx hb dL_law_290 rfl (lv_at hl 3 rfl) ?_
  refine lv_iload_n hx hb dL_law_291 rfl (lv_at hl 0 rfl) ?_
  refine lv_iconst (v := 1) hx hb dL_law_292 (by decide) ?_
  refine lv_iadd hx hb dL_law_293 ?_
  refine va_sld hx hb hX hbl hbA hS (lw_in hN hn 1 (by decide)) dL_law_294 ?_
  refine lv_aload_n hx hb dL_law_295 rfl (lv_at hl 3 rfl) ?_
  refine lv_iload_n hx hb dL_law_296 rfl (lv_at hl 0 rfl) ?_
  refine lv_iconst (v := 2) hx hb dL_law_297 (by decide) ?_
  refine lv_iadd hx hb dL_law_298 ?_
  refine va_sld hx hb hX hbl hbA hS (lw_in hN hn 2 (by decide)) dL_law_299 ?_
  refine lv_aload_n hx hb dL_law_300 rfl (lv_at hl 3 rfl) ?_
  refine lv_iload_n hx hb dL_law_301 rfl (lv_at hl 0 rfl) ?_
  refine lv_iconst (v := 3) hx hb dL_law_302 (by decide) ?_
  refine lv_iadd hx hb dL_law_303 ?_
  refine va_sld hx hb hX hbl hbA hS (lw_in hN hn 3 (by decide)) dL_law_304 ?_
  refine vcL (j := 318) (As := [.int (xs (nI (5 * n) + 1).toNatClampNeg), .int (xs (nI (5 * n) + 2).toNatClampNeg), .int (xs (nI (5 * n) + 3).toNatClampNeg)]) (rest := []) ⟨hx, hb, hml, hown, hts⟩ (e_X7_rule l (dC, dI) K ad hap _ _ _ _ _ _ _  _ _ _ e2) (cwV 3 hts gL_law_X7_rule rfl rfl rfl (by decide +kernel) ⟨Nat.le_of_ble_eq_true rfl, Nat.le_of_ble_eq_true rfl⟩) hK hP hS hge (by decide) (show kd 318 = 7 by decide) (by decide) rfl rfl rfl hl.1 (Nat.le_of_ble_eq_true rfl) (Nat.le_of_ble_eq_true rfl) (Nat.le_of_ble_eq_true rfl) dL_law_305 (fun q7 u H locs hw hP hS => ?_) rfl
  obtain ⟨rfl, rfl⟩ := hw
  have hP : va_P (dC, dI) vwCl (VW K ad J2 G R2 L) H := hP
  refine lv_pop hx hb dL_law_308 rfl ?_
  refine lv_goto (tgt := 1044) hx hb dL_law_309 (by decide) ?_
  exact kk J2 G R2 L H locs hr1 hP hS
set_option maxHeartbeats 4000000 in
set_option maxRecDepth 100000 in
/-- the law: part -/
theorem law_c4 {p : Program} {l : Launch} {e : Env} {s : State} {m : MethodId} {below : List Frame} {meth : Method} {c : Code} {dC : Nat → ClassId} {dI : Nat → Nat → Nat} {b N : Nat} {xs : Nat → Int32} {K : Nat → ClassId} {ad : Nat → Nat} (C0 : lw_At p s m meth c b N xs) (hN : N ≤ 2560) (hK : va_K (dC, dI) vwCl (tyA K) s) (hap : apart ad (fun _ => True)) (hge : ∀ j, j < NS → s.heap.size ≤ ad j) {n : Nat} (hn : 5 * n + 5 ≤ N) (I : Nat → Nat → Int32) (G : Nat → Nat → Nat) (A : Nat → Nat → Int32) (L : Nat → Nat → Int64) (h : Rel n I G A L I A) (H : Heap) (locs : List Loc) (hP : va_P (dC, dI) vwCl (VW K ad I G A L) H) (hS : va_S (fun q : Nat => s.heap.size ≤ q) s.heap H locs) (ls : Array Slot) (hl : lv_has ls 4 [(3, .int (nI (5 * n))), (2, .ref (ad 318)), (1, .ref (ad 0)), (0, .ref b)]) (kk : ∀ (I : Nat → Nat → Int32) (G : Nat → Nat → Nat) (A : Nat → Nat → Int32) (L : Nat → Nat → Int64) (H : Heap) (locs : List Loc), Rel (n + 1) I G A L I A → va_P (dC, dI) vwCl (VW K ad I G A L) H → va_S (fun q : Nat => s.heap.size ≤ q) s.heap H locs → W p l e room_1 s m #[Value.ref b] below meth c H locs 378 153906 (lw_Z below #[Value.ref b] s) (F0 m 1044 ls [])) : W p l e room_1 s m #[Value.ref b] below meth c H locs 378 153906 (lw_Z below #[Value.ref b] s) (F0 m 312 ls []) := by
  obtain ⟨hx, hb, hr, hml, hown, hts0, hX, hbl, hlocks, hgv⟩ := id C0
  have hts : ∀ w ∈ wsL_law, w.before #[Value.ref b] s = true := fun w h => hts0 w (wsL_law_in w h)
  have hown : s.vm.findClass RL = some m.cls := hown
  have hA : ∀ q : Nat, s.heap.size ≤ q → (fun q : Nat => s.heap.size ≤ q) q := fun _ h => h
  have hbA : ¬ (fun q : Nat => s.heap.size ≤ q) b := Nat.not_le.mpr hbl
  obtain ⟨r, I1, A1, J2, R2, e1, e2, hr1⟩ := g_part (xs (nI (5 * n) + 1).toNatClampNeg) (xs (nI (5 * n) + 2).toNatClampNeg) (xs (nI (5 * n) + 3).toNatClampNeg) (xs (nI (5 * n) + 4).toNatClampNeg) h (by omega)
  refine lv_aload_n hx hb dL_law_312 rfl (lv_at hl 2 rfl) ?_
  refine lv_aload_n hx hb dL_law_313 rfl (lv_at hl 3 rfl) ?_
  refine lv_iload_n hx hb dL_law_314 rfl (lv_at hl 0 rfl) ?_
  refine lv_iconst (v := 1) hx hb dL_law_315 (by decide) ?_
  refine lv_iadd hx hb dL_law_316 ?_
  refine va_sld hx hb hX hbl hbA hS (lw_in hN hn 1 (by decide)) dL_law_317 ?_
  refine lv_aload_n hx hb dL_law_318 rfl (lv_at hl 3 rfl) ?_
  refine lv_iload_n hx hb dL_law_319 rfl (lv_at hl 0 rfl) ?_
  refine lv_iconst (v := 2) hx hb dL_law_320 (by decide) ?_
  refine lv_iadd hx hb dL_law_321 ?_
  refine va_sld hx hb hX hbl hbA hS (lw_in hN hn 2 (by decide)) dL_law_322 ?_
  refine lv_aload_n hx hb dL_law_323 rfl (lv_at hl 3 rfl) ?_
  refine lv_iload_n hx hb dL_law_324 rfl (lv_at hl 0 rfl) ?_
  refine lv_iconst (v := 3) hx hb dL_law_325 (by decide) ?_
  refine lv_iadd hx hb dL_law_326 ?_
  refine va_sld hx hb hX hbl hbA hS (lw_in hN hn 3 (by decide)) dL_law_327 ?_
  refine lv_aload_n hx hb dL_law_328 rfl (lv_at hl 3 rfl) ?_
  refine lv_iload_n hx hb dL_law_329 rfl (lv_at hl 0 rfl) ?_
  refine lv_iconst (v := 4) hx hb dL_law_330 (by decide) ?_
  refine lv_iadd hx hb dL_law_331 ?_
  refine va_sld hx hb hX hbl hbA hS (lw_in hN hn 4 (by decide)) dL_law_332 ?_
  refine vcL (j := 0) (As := [.int (xs (nI (5 * n) + 1).toNatClampNeg), .int (xs (nI (5 * n) + 2).toNatClampNeg), .int (xs (nI (5 * n) + 3).toNatClampNeg), .int (xs (nI (5 * n) + 4).toNatClampNeg)]) (rest := []) ⟨hx, hb, hml, hown, hts⟩ (e_X6_part l (dC, dI) K ad hap _ _ _ _ _ _ _ _  _ _ _ e1) (cwV 4 hts gL_law_X6_part rfl rfl rfl (by decide +kernel) ⟨Nat.le_of_ble_eq_true rfl, Nat.le_of_ble_eq_true rfl⟩) hK hP hS hge (by decide) (show kd 0 = 6 by decide) (by decide) rfl rfl rfl hl.1 (Nat.le_of_ble_eq_true rfl) (Nat.le_of_ble_eq_true rfl) (Nat.le_of_ble_eq_true rfl) dL_law_333 (fun q6 u H locs hw hP hS => ?_) rfl
  obtain ⟨rfl, rfl⟩ := hw
  have hP : va_P (dC, dI) vwCl (VW K ad I1 G A1 L) H := hP
  refine lv_pop hx hb dL_law_336 rfl ?_
  refine lv_aload_n hx hb dL_law_337 rfl (lv_at hl 1 rfl) ?_
  refine lv_aload_n hx hb dL_law_338 rfl (lv_at hl 3 rfl) ?_
  refine lv_iload_n hx hb dL_law_339 rfl (lv_at hl 0 rfl) ?_
  refine lv_iconst (v := 1) hx hb dL_law_340 (by decide) ?_
  refine lv_iadd hx hb dL_law_341 ?_
  refine va_sld hx hb hX hbl hbA hS (lw_in hN hn 1 (by decide)) dL_law_342 ?_
  refine lv_aload_n hx hb dL_law_343 rfl (lv_at hl 3 rfl) ?_
  refine lv_iload_n hx hb dL_law_344 rfl (lv_at hl 0 rfl) ?_
  refine lv_iconst (v := 2) hx hb dL_law_345 (by decide) ?_
  refine lv_iadd hx hb dL_law_346 ?_
  refine va_sld hx hb hX hbl hbA hS (lw_in hN hn 2 (by decide)) dL_law_347 ?_
  refine lv_aload_n hx hb dL_law_348 rfl (lv_at hl 3 rfl) ?_
  refine lv_iload_n hx hb dL_law_349 rfl (lv_at hl 0 rfl) ?_
  refine lv_iconst (v := 3) hx hb dL_law_350 (by decide) ?_
  refine lv_iadd hx hb dL_law_351 ?_
  refine va_sld hx hb hX hbl hbA hS (lw_in hN hn 3 (by decide)) dL_law_352 ?_
  refine lv_aload_n hx hb dL_law_353 rfl (lv_at hl 3 rfl) ?_
  refine lv_iload_n hx hb dL_law_354 rfl (lv_at hl 0 rfl) ?_
  refine lv_iconst (v := 4) hx hb dL_law_355 (by decide) ?_
  refine lv_iadd hx hb dL_law_356 ?_
  refine va_sld hx hb hX hbl hbA hS (lw_in hN hn 4 (by decide)) dL_law_357 ?_
  refine vcL (j := 318) (As := [.int (xs (nI (5 * n) + 1).toNatClampNeg), .int (xs (nI (5 * n) + 2).toNatClampNeg), .int (xs (nI (5 * n) + 3).toNatClampNeg), .int (xs (nI (5 * n) + 4).toNatClampNeg)]) (rest := []) ⟨hx, hb, hml, hown, hts⟩ (e_X7_part l (dC, dI) K ad hap _ _ _ _ _ _ _ _  _ _ _ e2) (cwV 4 hts gL_law_X7_part rfl rfl rfl (by decide +kernel) ⟨Nat.le_of_ble_eq_true rfl, Nat.le_of_ble_eq_true rfl⟩) hK hP hS hge (by decide) (show kd 318 = 7 by decide) (by decide) rfl rfl rfl hl.1 (Nat.le_of_ble_eq_true rfl) (Nat.le_of_ble_eq_true rfl) (Nat.le_of_ble_eq_true rfl) dL_law_358 (fun q7 u H locs hw hP hS => ?_) rfl
  obtain ⟨rfl, rfl⟩ := hw
  have hP : va_P (dC, dI) vwCl (VW K ad J2 G R2 L) H := hP
  refine lv_pop hx hb dL_law_361 rfl ?_
  refine lv_goto (tgt := 1044) hx hb dL_law_362 (by decide) ?_
  exact kk J2 G R2 L H locs hr1 hP hS
set_option maxHeartbeats 4000000 in
set_option maxRecDepth 100000 in
/-- the law: number -/
theorem law_c5 {p : Program} {l : Launch} {e : Env} {s : State} {m : MethodId} {below : List Frame} {meth : Method} {c : Code} {dC : Nat → ClassId} {dI : Nat → Nat → Nat} {b N : Nat} {xs : Nat → Int32} {K : Nat → ClassId} {ad : Nat → Nat} (C0 : lw_At p s m meth c b N xs) (hN : N ≤ 2560) (hK : va_K (dC, dI) vwCl (tyA K) s) (hap : apart ad (fun _ => True)) (hge : ∀ j, j < NS → s.heap.size ≤ ad j) {n : Nat} (hn : 5 * n + 5 ≤ N) (I : Nat → Nat → Int32) (G : Nat → Nat → Nat) (A : Nat → Nat → Int32) (L : Nat → Nat → Int64) (h : Rel n I G A L I A) (H : Heap) (locs : List Loc) (hP : va_P (dC, dI) vwCl (VW K ad I G A L) H) (hS : va_S (fun q : Nat => s.heap.size ≤ q) s.heap H locs) (ls : Array Slot) (hl : lv_has ls 4 [(3, .int (nI (5 * n))), (2, .ref (ad 318)), (1, .ref (ad 0)), (0, .ref b)]) (kk : ∀ (I : Nat → Nat → Int32) (G : Nat → Nat → Nat) (A : Nat → Nat → Int32) (L : Nat → Nat → Int64) (H : Heap) (locs : List Loc), Rel (n + 1) I G A L I A → va_P (dC, dI) vwCl (VW K ad I G A L) H → va_S (fun q : Nat => s.heap.size ≤ q) s.heap H locs → W p l e room_1 s m #[Value.ref b] below meth c H locs 378 153906 (lw_Z below #[Value.ref b] s) (F0 m 1044 ls [])) : W p l e room_1 s m #[Value.ref b] below meth c H locs 378 153906 (lw_Z below #[Value.ref b] s) (F0 m 365 ls []) := by
  obtain ⟨hx, hb, hr, hml, hown, hts0, hX, hbl, hlocks, hgv⟩ := id C0
  have hts : ∀ w ∈ wsL_law, w.before #[Value.ref b] s = true := fun w h => hts0 w (wsL_law_in w h)
  have hown : s.vm.findClass RL = some m.cls := hown
  have hA : ∀ q : Nat, s.heap.size ≤ q → (fun q : Nat => s.heap.size ≤ q) q := fun _ h => h
  have hbA : ¬ (fun q : Nat => s.heap.size ≤ q) b := Nat.not_le.mpr hbl
  obtain ⟨r, I1, J2, R2, e1, e2, hr1⟩ := g_number (xs (nI (5 * n) + 1).toNatClampNeg) (xs (nI (5 * n) + 2).toNatClampNeg) (xs (nI (5 * n) + 3).toNatClampNeg) h (by omega)
  refine lv_aload_n hx hb dL_law_365 rfl (lv_at hl 2 rfl) ?_
  refine lv_aload_n hx hb dL_law_366 rfl (lv_at hl 3 rfl) ?_
  refine lv_iload_n hx hb dL_law_367 rfl (lv_at hl 0 rfl) ?_
  refine lv_iconst (v := 1) hx hb dL_law_368 (by decide) ?_
  refine lv_iadd hx hb dL_law_369 ?_
  refine va_sld hx hb hX hbl hbA hS (lw_in hN hn 1 (by decide)) dL_law_370 ?_
  refine lv_aload_n hx hb dL_law_371 rfl (lv_at hl 3 rfl) ?_
  refine lv_iload_n hx hb dL_law_372 rfl (lv_at hl 0 rfl) ?_
  refine lv_iconst (v := 2) hx hb dL_law_373 (by decide) ?_
  refine lv_iadd hx hb dL_law_374 ?_
  refine va_sld hx hb hX hbl hbA hS (lw_in hN hn 2 (by decide)) dL_law_375 ?_
  refine lv_aload_n hx hb dL_law_376 rfl (lv_at hl 3 rfl) ?_
  refine lv_iload_n hx hb dL_law_377 rfl (lv_at hl 0 rfl) ?_
  refine lv_iconst (v := 3) hx hb dL_law_378 (by decide) ?_
  refine lv_iadd hx hb dL_law_379 ?_
  refine va_sld hx hb hX hbl hbA hS (lw_in hN hn 3 (by decide)) dL_law_380 ?_
  refine vcL (j := 0) (As := [.int (xs (nI (5 * n) + 1).toNatClampNeg), .int (xs (nI (5 * n) + 2).toNatClampNeg), .int (xs (nI (5 * n) + 3).toNatClampNeg)]) (rest := []) ⟨hx, hb, hml, hown, hts⟩ (e_X6_number l (dC, dI) K ad hap _ _ _ _ _ _ _  _ _ e1) (cwV 3 hts gL_law_X6_number rfl rfl rfl (by decide +kernel) ⟨Nat.le_of_ble_eq_true rfl, Nat.le_of_ble_eq_true rfl⟩) hK hP hS hge (by decide) (show kd 0 = 6 by decide) (by decide) rfl rfl rfl hl.1 (Nat.le_of_ble_eq_true rfl) (Nat.le_of_ble_eq_true rfl) (Nat.le_of_ble_eq_true rfl) dL_law_381 (fun q6 u H locs hw hP hS => ?_) rfl
  obtain ⟨rfl, rfl⟩ := hw
  have hP : va_P (dC, dI) vwCl (VW K ad I1 G A L) H := hP
  refine lv_pop hx hb dL_law_384 rfl ?_
  refine lv_aload_n hx hb dL_law_385 rfl (lv_at hl 1 rfl) ?_
  refine lv_aload_n hx hb dL_law_386 rfl (lv_at hl 3 rfl) ?_
  refine lv_iload_n hx hb dL_law_387 rfl (lv_at hl 0 rfl) ?_
  refine lv_iconst (v := 1) hx hb dL_law_388 (by decide) ?_
  refine lv_iadd hx hb dL_law_389 ?_
  refine va_sld hx hb hX hbl hbA hS (lw_in hN hn 1 (by decide)) dL_law_390 ?_
  refine lv_aload_n hx hb dL_law_391 rfl (lv_at hl 3 rfl) ?_
  refine lv_iload_n hx hb dL_law_392 rfl (lv_at hl 0 rfl) ?_
  refine lv_iconst (v := 2) hx hb dL_law_393 (by decide) ?_
  refine lv_iadd hx hb dL_law_394 ?_
  refine va_sld hx hb hX hbl hbA hS (lw_in hN hn 2 (by decide)) dL_law_395 ?_
  refine lv_aload_n hx hb dL_law_396 rfl (lv_at hl 3 rfl) ?_
  refine lv_iload_n hx hb dL_law_397 rfl (lv_at hl 0 rfl) ?_
  refine lv_iconst (v := 3) hx hb dL_law_398 (by decide) ?_
  refine lv_iadd hx hb dL_law_399 ?_
  refine va_sld hx hb hX hbl hbA hS (lw_in hN hn 3 (by decide)) dL_law_400 ?_
  refine vcL (j := 318) (As := [.int (xs (nI (5 * n) + 1).toNatClampNeg), .int (xs (nI (5 * n) + 2).toNatClampNeg), .int (xs (nI (5 * n) + 3).toNatClampNeg)]) (rest := []) ⟨hx, hb, hml, hown, hts⟩ (e_X7_number l (dC, dI) K ad hap _ _ _ _ _ _ _  _ _ _ e2) (cwV 3 hts gL_law_X7_number rfl rfl rfl (by decide +kernel) ⟨Nat.le_of_ble_eq_true rfl, Nat.le_of_ble_eq_true rfl⟩) hK hP hS hge (by decide) (show kd 318 = 7 by decide) (by decide) rfl rfl rfl hl.1 (Nat.le_of_ble_eq_true rfl) (Nat.le_of_ble_eq_true rfl) (Nat.le_of_ble_eq_true rfl) dL_law_401 (fun q7 u H locs hw hP hS => ?_) rfl
  obtain ⟨rfl, rfl⟩ := hw
  have hP : va_P (dC, dI) vwCl (VW K ad J2 G R2 L) H := hP
  refine lv_pop hx hb dL_law_404 rfl ?_
  refine lv_goto (tgt := 1044) hx hb dL_law_405 (by decide) ?_
  exact kk J2 G R2 L H locs hr1 hP hS
set_option maxHeartbeats 4000000 in
set_option maxRecDepth 100000 in
/-- the law: helpers -/
theorem law_c6 {p : Program} {l : Launch} {e : Env} {s : State} {m : MethodId} {below : List Frame} {meth : Method} {c : Code} {dC : Nat → ClassId} {dI : Nat → Nat → Nat} {b N : Nat} {xs : Nat → Int32} {K : Nat → ClassId} {ad : Nat → Nat} (C0 : lw_At p s m meth c b N xs) (hN : N ≤ 2560) (hK : va_K (dC, dI) vwCl (tyA K) s) (hap : apart ad (fun _ => True)) (hge : ∀ j, j < NS → s.heap.size ≤ ad j) {n : Nat} (hn : 5 * n + 5 ≤ N) (I : Nat → Nat → Int32) (G : Nat → Nat → Nat) (A : Nat → Nat → Int32) (L : Nat → Nat → Int64) (h : Rel n I G A L I A) (H : Heap) (locs : List Loc) (hP : va_P (dC, dI) vwCl (VW K ad I G A L) H) (hS : va_S (fun q : Nat => s.heap.size ≤ q) s.heap H locs) (ls : Array Slot) (hl : lv_has ls 4 [(3, .int (nI (5 * n))), (2, .ref (ad 318)), (1, .ref (ad 0)), (0, .ref b)]) (kk : ∀ (I : Nat → Nat → Int32) (G : Nat → Nat → Nat) (A : Nat → Nat → Int32) (L : Nat → Nat → Int64) (H : Heap) (locs : List Loc), Rel (n + 1) I G A L I A → va_P (dC, dI) vwCl (VW K ad I G A L) H → va_S (fun q : Nat => s.heap.size ≤ q) s.heap H locs → W p l e room_1 s m #[Value.ref b] below meth c H locs 378 153906 (lw_Z below #[Value.ref b] s) (F0 m 1044 ls [])) : W p l e room_1 s m #[Value.ref b] below meth c H locs 378 153906 (lw_Z below #[Value.ref b] s) (F0 m 408 ls []) := by
  obtain ⟨hx, hb, hr, hml, hown, hts0, hX, hbl, hlocks, hgv⟩ := id C0
  have hts : ∀ w ∈ wsL_law, w.before #[Value.ref b] s = true := fun w h => hts0 w (wsL_law_in w h)
  have hown : s.vm.findClass RL = some m.cls := hown
  have hA : ∀ q : Nat, s.heap.size ≤ q → (fun q : Nat => s.heap.size ≤ q) q := fun _ h => h
  have hbA : ¬ (fun q : Nat => s.heap.size ≤ q) b := Nat.not_le.mpr hbl
  obtain ⟨r, I1, A1, J2, R2, e1, e2, hr1⟩ := g_helpers (xs (nI (5 * n) + 1).toNatClampNeg) h 
  refine lv_aload_n hx hb dL_law_408 rfl (lv_at hl 2 rfl) ?_
  refine lv_aload_n hx hb dL_law_409 rfl (lv_at hl 3 rfl) ?_
  refine lv_iload_n hx hb dL_law_410 rfl (lv_at hl 0 rfl) ?_
  refine lv_iconst (v := 1) hx hb dL_law_411 (by decide) ?_
  refine lv_iadd hx hb dL_law_412 ?_
  refine va_sld hx hb hX hbl hbA hS (lw_in hN hn 1 (by decide)) dL_law_413 ?_
  refine vcL (j := 0) (As := [.int (xs (nI (5 * n) + 1).toNatClampNeg)]) (rest := []) ⟨hx, hb, hml, hown, hts⟩ (e_X6_helpers l (dC, dI) K ad hap _ _ _ _ _  _ _ _ e1) (cwV 1 hts gL_law_X6_helpers rfl rfl rfl (by decide +kernel) ⟨Nat.le_of_ble_eq_true rfl, Nat.le_of_ble_eq_true rfl⟩) hK hP hS hge (by decide) (show kd 0 = 6 by decide) (by decide) rfl rfl rfl hl.1 (Nat.le_of_ble_eq_true rfl) (Nat.le_of_ble_eq_true rfl) (Nat.le_of_ble_eq_true rfl) dL_law_414 (fun q6 u H locs hw hP hS => ?_) rfl
  obtain ⟨rfl, rfl⟩ := hw
  have hP : va_P (dC, dI) vwCl (VW K ad I1 G A1 L) H := hP
  refine lv_pop hx hb dL_law_417 rfl ?_
  refine lv_aload_n hx hb dL_law_418 rfl (lv_at hl 1 rfl) ?_
  refine lv_aload_n hx hb dL_law_419 rfl (lv_at hl 3 rfl) ?_
  refine lv_iload_n hx hb dL_law_420 rfl (lv_at hl 0 rfl) ?_
  refine lv_iconst (v := 1) hx hb dL_law_421 (by decide) ?_
  refine lv_iadd hx hb dL_law_422 ?_
  refine va_sld hx hb hX hbl hbA hS (lw_in hN hn 1 (by decide)) dL_law_423 ?_
  refine vcL (j := 318) (As := [.int (xs (nI (5 * n) + 1).toNatClampNeg)]) (rest := []) ⟨hx, hb, hml, hown, hts⟩ (e_X7_helpers l (dC, dI) K ad hap _ _ _ _ _  _ _ _ e2) (cwV 1 hts gL_law_X7_helpers rfl rfl rfl (by decide +kernel) ⟨Nat.le_of_ble_eq_true rfl, Nat.le_of_ble_eq_true rfl⟩) hK hP hS hge (by decide) (show kd 318 = 7 by decide) (by decide) rfl rfl rfl hl.1 (Nat.le_of_ble_eq_true rfl) (Nat.le_of_ble_eq_true rfl) (Nat.le_of_ble_eq_true rfl) dL_law_424 (fun q7 u H locs hw hP hS => ?_) rfl
  obtain ⟨rfl, rfl⟩ := hw
  have hP : va_P (dC, dI) vwCl (VW K ad J2 G R2 L) H := hP
  refine lv_pop hx hb dL_law_427 rfl ?_
  refine lv_goto (tgt := 1044) hx hb dL_law_428 (by decide) ?_
  exact kk J2 G R2 L H locs hr1 hP hS
set_option maxHeartbeats 4000000 in
set_option maxRecDepth 100000 in
/-- the law: fail -/
theorem law_c7 {p : Program} {l : Launch} {e : Env} {s : State} {m : MethodId} {below : List Frame} {meth : Method} {c : Code} {dC : Nat → ClassId} {dI : Nat → Nat → Nat} {b N : Nat} {xs : Nat → Int32} {K : Nat → ClassId} {ad : Nat → Nat} (C0 : lw_At p s m meth c b N xs) (hN : N ≤ 2560) (hK : va_K (dC, dI) vwCl (tyA K) s) (hap : apart ad (fun _ => True)) (hge : ∀ j, j < NS → s.heap.size ≤ ad j) {n : Nat} (hn : 5 * n + 5 ≤ N) (I : Nat → Nat → Int32) (G : Nat → Nat → Nat) (A : Nat → Nat → Int32) (L : Nat → Nat → Int64) (h : Rel n I G A L I A) (H : Heap) (locs : List Loc) (hP : va_P (dC, dI) vwCl (VW K ad I G A L) H) (hS : va_S (fun q : Nat => s.heap.size ≤ q) s.heap H locs) (ls : Array Slot) (hl : lv_has ls 4 [(3, .int (nI (5 * n))), (2, .ref (ad 318)), (1, .ref (ad 0)), (0, .ref b)]) (kk : ∀ (I : Nat → Nat → Int32) (G : Nat → Nat → Nat) (A : Nat → Nat → Int32) (L : Nat → Nat → Int64) (H : Heap) (locs : List Loc), Rel (n + 1) I G A L I A → va_P (dC, dI) vwCl (VW K ad I G A L) H → va_S (fun q : Nat => s.heap.size ≤ q) s.heap H locs → W p l e room_1 s m #[Value.ref b] below meth c H locs 378 153906 (lw_Z below #[Value.ref b] s) (F0 m 1044 ls [])) : W p l e room_1 s m #[Value.ref b] below meth c H locs 378 153906 (lw_Z below #[Value.ref b] s) (F0 m 431 ls []) := by
  obtain ⟨hx, hb, hr, hml, hown, hts0, hX, hbl, hlocks, hgv⟩ := id C0
  have hts : ∀ w ∈ wsL_law, w.before #[Value.ref b] s = true := fun w h => hts0 w (wsL_law_in w h)
  have hown : s.vm.findClass RL = some m.cls := hown
  have hA : ∀ q : Nat, s.heap.size ≤ q → (fun q : Nat => s.heap.size ≤ q) q := fun _ h => h
  have hbA : ¬ (fun q : Nat => s.heap.size ≤ q) b := Nat.not_le.mpr hbl
  obtain ⟨r, A1, J2, R2, e1, e2, hr1⟩ := g_fail (xs (nI (5 * n) + 1).toNatClampNeg) (xs (nI (5 * n) + 2).toNatClampNeg) h 
  refine lv_aload_n hx hb dL_law_431 rfl (lv_at hl 2 rfl) ?_
  refine lv_aload_n hx hb dL_law_432 rfl (lv_at hl 3 rfl) ?_
  refine lv_iload_n hx hb dL_law_433 rfl (lv_at hl 0 rfl) ?_
  refine lv_iconst (v := 1) hx hb dL_law_434 (by decide) ?_
  refine lv_iadd hx hb dL_law_435 ?_
  refine va_sld hx hb hX hbl hbA hS (lw_in hN hn 1 (by decide)) dL_law_436 ?_
  refine lv_aload_n hx hb dL_law_437 rfl (lv_at hl 3 rfl) ?_
  refine lv_iload_n hx hb dL_law_438 rfl (lv_at hl 0 rfl) ?_
  refine lv_iconst (v := 2) hx hb dL_law_439 (by decide) ?_
  refine lv_iadd hx hb dL_law_440 ?_
  refine va_sld hx hb hX hbl hbA hS (lw_in hN hn 2 (by decide)) dL_law_441 ?_
  refine vcL (j := 0) (As := [.int (xs (nI (5 * n) + 1).toNatClampNeg), .int (xs (nI (5 * n) + 2).toNatClampNeg)]) (rest := []) ⟨hx, hb, hml, hown, hts⟩ (e_X6_fail l (dC, dI) K ad hap _ _ _ _ _ _  _ _ e1) (cwV 2 hts gL_law_X6_fail rfl rfl rfl (by decide +kernel) ⟨Nat.le_of_ble_eq_true rfl, Nat.le_of_ble_eq_true rfl⟩) hK hP hS hge (by decide) (show kd 0 = 6 by decide) (by decide) rfl rfl rfl hl.1 (Nat.le_of_ble_eq_true rfl) (Nat.le_of_ble_eq_true rfl) (Nat.le_of_ble_eq_true rfl) dL_law_442 (fun q6 u H locs hw hP hS => ?_) rfl
  obtain ⟨rfl, rfl⟩ := hw
  have hP : va_P (dC, dI) vwCl (VW K ad I G A1 L) H := hP
  refine lv_pop hx hb dL_law_445 rfl ?_
  refine lv_aload_n hx hb dL_law_446 rfl (lv_at hl 1 rfl) ?_
  refine lv_aload_n hx hb dL_law_447 rfl (lv_at hl 3 rfl) ?_
  refine lv_iload_n hx hb dL_law_448 rfl (lv_at hl 0 rfl) ?_
  refine lv_iconst (v := 1) hx hb dL_law_449 (by decide) ?_
  refine lv_iadd hx hb dL_law_450 ?_
  refine va_sld hx hb hX hbl hbA hS (lw_in hN hn 1 (by decide)) dL_law_451 ?_
  refine lv_aload_n hx hb dL_law_452 rfl (lv_at hl 3 rfl) ?_
  refine lv_iload_n hx hb dL_law_453 rfl (lv_at hl 0 rfl) ?_
  refine lv_iconst (v := 2) hx hb dL_law_454 (by decide) ?_
  refine lv_iadd hx hb dL_law_455 ?_
  refine va_sld hx hb hX hbl hbA hS (lw_in hN hn 2 (by decide)) dL_law_456 ?_
  refine vcL (j := 318) (As := [.int (xs (nI (5 * n) + 1).toNatClampNeg), .int (xs (nI (5 * n) + 2).toNatClampNeg)]) (rest := []) ⟨hx, hb, hml, hown, hts⟩ (e_X7_fail l (dC, dI) K ad hap _ _ _ _ _ _  _ _ _ e2) (cwV 2 hts gL_law_X7_fail rfl rfl rfl (by decide +kernel) ⟨Nat.le_of_ble_eq_true rfl, Nat.le_of_ble_eq_true rfl⟩) hK hP hS hge (by decide) (show kd 318 = 7 by decide) (by decide) rfl rfl rfl hl.1 (Nat.le_of_ble_eq_true rfl) (Nat.le_of_ble_eq_true rfl) (Nat.le_of_ble_eq_true rfl) dL_law_457 (fun q7 u H locs hw hP hS => ?_) rfl
  obtain ⟨rfl, rfl⟩ := hw
  have hP : va_P (dC, dI) vwCl (VW K ad J2 G R2 L) H := hP
  refine lv_pop hx hb dL_law_460 rfl ?_
  refine lv_goto (tgt := 1044) hx hb dL_law_461 (by decide) ?_
  exact kk J2 G R2 L H locs hr1 hP hS
set_option maxHeartbeats 4000000 in
set_option maxRecDepth 100000 in
/-- the law: turn -/
theorem law_c8 {p : Program} {l : Launch} {e : Env} {s : State} {m : MethodId} {below : List Frame} {meth : Method} {c : Code} {dC : Nat → ClassId} {dI : Nat → Nat → Nat} {b N : Nat} {xs : Nat → Int32} {K : Nat → ClassId} {ad : Nat → Nat} (C0 : lw_At p s m meth c b N xs) (hN : N ≤ 2560) (hK : va_K (dC, dI) vwCl (tyA K) s) (hap : apart ad (fun _ => True)) (hge : ∀ j, j < NS → s.heap.size ≤ ad j) {n : Nat} (hn : 5 * n + 5 ≤ N) (I : Nat → Nat → Int32) (G : Nat → Nat → Nat) (A : Nat → Nat → Int32) (L : Nat → Nat → Int64) (h : Rel n I G A L I A) (H : Heap) (locs : List Loc) (hP : va_P (dC, dI) vwCl (VW K ad I G A L) H) (hS : va_S (fun q : Nat => s.heap.size ≤ q) s.heap H locs) (ls : Array Slot) (hl : lv_has ls 4 [(3, .int (nI (5 * n))), (2, .ref (ad 318)), (1, .ref (ad 0)), (0, .ref b)]) (kk : ∀ (I : Nat → Nat → Int32) (G : Nat → Nat → Nat) (A : Nat → Nat → Int32) (L : Nat → Nat → Int64) (H : Heap) (locs : List Loc), Rel (n + 1) I G A L I A → va_P (dC, dI) vwCl (VW K ad I G A L) H → va_S (fun q : Nat => s.heap.size ≤ q) s.heap H locs → W p l e room_1 s m #[Value.ref b] below meth c H locs 378 153906 (lw_Z below #[Value.ref b] s) (F0 m 1044 ls [])) : W p l e room_1 s m #[Value.ref b] below meth c H locs 378 153906 (lw_Z below #[Value.ref b] s) (F0 m 464 ls []) := by
  obtain ⟨hx, hb, hr, hml, hown, hts0, hX, hbl, hlocks, hgv⟩ := id C0
  have hts : ∀ w ∈ wsL_law, w.before #[Value.ref b] s = true := fun w h => hts0 w (wsL_law_in w h)
  have hown : s.vm.findClass RL = some m.cls := hown
  have hA : ∀ q : Nat, s.heap.size ≤ q → (fun q : Nat => s.heap.size ≤ q) q := fun _ h => h
  have hbA : ¬ (fun q : Nat => s.heap.size ≤ q) b := Nat.not_le.mpr hbl
  obtain ⟨r, I1, A1, J2, R2, e1, e2, hr1⟩ := g_turn (xs (nI (5 * n) + 1).toNatClampNeg) h 
  refine lv_aload_n hx hb dL_law_464 rfl (lv_at hl 2 rfl) ?_
  refine lv_aload_n hx hb dL_law_465 rfl (lv_at hl 3 rfl) ?_
  refine lv_iload_n hx hb dL_law_466 rfl (lv_at hl 0 rfl) ?_
  refine lv_iconst (v := 1) hx hb dL_law_467 (by decide) ?_
  refine lv_iadd hx hb dL_law_468 ?_
  refine va_sld hx hb hX hbl hbA hS (lw_in hN hn 1 (by decide)) dL_law_469 ?_
  refine vcL (j := 0) (As := [.int (xs (nI (5 * n) + 1).toNatClampNeg)]) (rest := []) ⟨hx, hb, hml, hown, hts⟩ (e_X6_turn l (dC, dI) K ad hap _ _ _ _ _  _ _ _ e1) (cwV 1 hts gL_law_X6_turn rfl rfl rfl (by decide +kernel) ⟨Nat.le_of_ble_eq_true rfl, Nat.le_of_ble_eq_true rfl⟩) hK hP hS hge (by decide) (show kd 0 = 6 by decide) (by decide) rfl rfl rfl hl.1 (Nat.le_of_ble_eq_true rfl) (Nat.le_of_ble_eq_true rfl) (Nat.le_of_ble_eq_true rfl) dL_law_470 (fun q6 u H locs hw hP hS => ?_) rfl
  obtain ⟨rfl, rfl⟩ := hw
  have hP : va_P (dC, dI) vwCl (VW K ad I1 G A1 L) H := hP
  refine lv_pop hx hb dL_law_473 rfl ?_
  refine lv_aload_n hx hb dL_law_474 rfl (lv_at hl 1 rfl) ?_
  refine lv_aload_n hx hb dL_law_475 rfl (lv_at hl 3 rfl) ?_
  refine lv_iload_n hx hb dL_law_476 rfl (lv_at hl 0 rfl) ?_
  refine lv_iconst (v := 1) hx hb dL_law_477 (by decide) ?_
  refine lv_iadd hx hb dL_law_478 ?_
  refine va_sld hx hb hX hbl hbA hS (lw_in hN hn 1 (by decide)) dL_law_479 ?_
  refine vcL (j := 318) (As := [.int (xs (nI (5 * n) + 1).toNatClampNeg)]) (rest := []) ⟨hx, hb, hml, hown, hts⟩ (e_X7_turn l (dC, dI) K ad hap _ _ _ _ _  _ _ _ e2) (cwV 1 hts gL_law_X7_turn rfl rfl rfl (by decide +kernel) ⟨Nat.le_of_ble_eq_true rfl, Nat.le_of_ble_eq_true rfl⟩) hK hP hS hge (by decide) (show kd 318 = 7 by decide) (by decide) rfl rfl rfl hl.1 (Nat.le_of_ble_eq_true rfl) (Nat.le_of_ble_eq_true rfl) (Nat.le_of_ble_eq_true rfl) dL_law_480 (fun q7 u H locs hw hP hS => ?_) rfl
  obtain ⟨rfl, rfl⟩ := hw
  have hP : va_P (dC, dI) vwCl (VW K ad J2 G R2 L) H := hP
  refine lv_pop hx hb dL_law_483 rfl ?_
  refine lv_goto (tgt := 1044) hx hb dL_law_484 (by decide) ?_
  exact kk J2 G R2 L H locs hr1 hP hS
set_option maxHeartbeats 4000000 in
set_option maxRecDepth 100000 in
/-- the law: plain -/
theorem law_c9 {p : Program} {l : Launch} {e : Env} {s : State} {m : MethodId} {below : List Frame} {meth : Method} {c : Code} {dC : Nat → ClassId} {dI : Nat → Nat → Nat} {b N : Nat} {xs : Nat → Int32} {K : Nat → ClassId} {ad : Nat → Nat} (C0 : lw_At p s m meth c b N xs) (hN : N ≤ 2560) (hK : va_K (dC, dI) vwCl (tyA K) s) (hap : apart ad (fun _ => True)) (hge : ∀ j, j < NS → s.heap.size ≤ ad j) {n : Nat} (hn : 5 * n + 5 ≤ N) (I : Nat → Nat → Int32) (G : Nat → Nat → Nat) (A : Nat → Nat → Int32) (L : Nat → Nat → Int64) (h : Rel n I G A L I A) (H : Heap) (locs : List Loc) (hP : va_P (dC, dI) vwCl (VW K ad I G A L) H) (hS : va_S (fun q : Nat => s.heap.size ≤ q) s.heap H locs) (ls : Array Slot) (hl : lv_has ls 4 [(3, .int (nI (5 * n))), (2, .ref (ad 318)), (1, .ref (ad 0)), (0, .ref b)]) (kk : ∀ (I : Nat → Nat → Int32) (G : Nat → Nat → Nat) (A : Nat → Nat → Int32) (L : Nat → Nat → Int64) (H : Heap) (locs : List Loc), Rel (n + 1) I G A L I A → va_P (dC, dI) vwCl (VW K ad I G A L) H → va_S (fun q : Nat => s.heap.size ≤ q) s.heap H locs → W p l e room_1 s m #[Value.ref b] below meth c H locs 378 153906 (lw_Z below #[Value.ref b] s) (F0 m 1044 ls [])) : W p l e room_1 s m #[Value.ref b] below meth c H locs 378 153906 (lw_Z below #[Value.ref b] s) (F0 m 487 ls []) := by
  obtain ⟨hx, hb, hr, hml, hown, hts0, hX, hbl, hlocks, hgv⟩ := id C0
  have hts : ∀ w ∈ wsL_law, w.before #[Value.ref b] s = true := fun w h => hts0 w (wsL_law_in w h)
  have hown : s.vm.findClass RL = some m.cls := hown
  have hA : ∀ q : Nat, s.heap.size ≤ q → (fun q : Nat => s.heap.size ≤ q) q := fun _ h => h
  have hbA : ¬ (fun q : Nat => s.heap.size ≤ q) b := Nat.not_le.mpr hbl
  obtain ⟨r, I1, J2, e1, e2, hr1⟩ := g_plain  h 
  refine lv_aload_n hx hb dL_law_487 rfl (lv_at hl 2 rfl) ?_
  refine vcL (j := 0) (As := []) (rest := []) ⟨hx, hb, hml, hown, hts⟩ (e_X6_plain l (dC, dI) K ad hap  _ _ _ _  _ _ e1) (cwV 0 hts gL_law_X6_plain rfl rfl rfl (by decide +kernel) ⟨Nat.le_of_ble_eq_true rfl, Nat.le_of_ble_eq_true rfl⟩) hK hP hS hge (by decide) (show kd 0 = 6 by decide) (by decide) rfl rfl rfl hl.1 (Nat.le_of_ble_eq_true rfl) (Nat.le_of_ble_eq_true rfl) (Nat.le_of_ble_eq_true rfl) dL_law_488 (fun q6 u H locs hw hP hS => ?_) rfl
  obtain ⟨rfl, rfl⟩ := hw
  have hP : va_P (dC, dI) vwCl (VW K ad I1 G A L) H := hP
  refine lv_pop hx hb dL_law_491 rfl ?_
  refine lv_aload_n hx hb dL_law_492 rfl (lv_at hl 1 rfl) ?_
  refine vcL (j := 318) (As := []) (rest := []) ⟨hx, hb, hml, hown, hts⟩ (e_X7_plain l (dC, dI) K ad hap  _ _ _ _  _ _ e2) (cwV 0 hts gL_law_X7_plain rfl rfl rfl (by decide +kernel) ⟨Nat.le_of_ble_eq_true rfl, Nat.le_of_ble_eq_true rfl⟩) hK hP hS hge (by decide) (show kd 318 = 7 by decide) (by decide) rfl rfl rfl hl.1 (Nat.le_of_ble_eq_true rfl) (Nat.le_of_ble_eq_true rfl) (Nat.le_of_ble_eq_true rfl) dL_law_493 (fun q7 u H locs hw hP hS => ?_) rfl
  obtain ⟨rfl, rfl⟩ := hw
  have hP : va_P (dC, dI) vwCl (VW K ad J2 G A L) H := hP
  refine lv_pop hx hb dL_law_496 rfl ?_
  refine lv_goto (tgt := 1044) hx hb dL_law_497 (by decide) ?_
  exact kk J2 G A L H locs hr1 hP hS
set_option maxHeartbeats 4000000 in
set_option maxRecDepth 100000 in
/-- the law: limit -/
theorem law_c10 {p : Program} {l : Launch} {e : Env} {s : State} {m : MethodId} {below : List Frame} {meth : Method} {c : Code} {dC : Nat → ClassId} {dI : Nat → Nat → Nat} {b N : Nat} {xs : Nat → Int32} {K : Nat → ClassId} {ad : Nat → Nat} (C0 : lw_At p s m meth c b N xs) (hN : N ≤ 2560) (hK : va_K (dC, dI) vwCl (tyA K) s) (hap : apart ad (fun _ => True)) (hge : ∀ j, j < NS → s.heap.size ≤ ad j) {n : Nat} (hn : 5 * n + 5 ≤ N) (I : Nat → Nat → Int32) (G : Nat → Nat → Nat) (A : Nat → Nat → Int32) (L : Nat → Nat → Int64) (h : Rel n I G A L I A) (H : Heap) (locs : List Loc) (hP : va_P (dC, dI) vwCl (VW K ad I G A L) H) (hS : va_S (fun q : Nat => s.heap.size ≤ q) s.heap H locs) (ls : Array Slot) (hl : lv_has ls 4 [(3, .int (nI (5 * n))), (2, .ref (ad 318)), (1, .ref (ad 0)), (0, .ref b)]) (kk : ∀ (I : Nat → Nat → Int32) (G : Nat → Nat → Nat) (A : Nat → Nat → Int32) (L : Nat → Nat → Int64) (H : Heap) (locs : List Loc), Rel (n + 1) I G A L I A → va_P (dC, dI) vwCl (VW K ad I G A L) H → va_S (fun q : Nat => s.heap.size ≤ q) s.heap H locs → W p l e room_1 s m #[Value.ref b] below meth c H locs 378 153906 (lw_Z below #[Value.ref b] s) (F0 m 1044 ls [])) : W p l e room_1 s m #[Value.ref b] below meth c H locs 378 153906 (lw_Z below #[Value.ref b] s) (F0 m 500 ls []) := by
  obtain ⟨hx, hb, hr, hml, hown, hts0, hX, hbl, hlocks, hgv⟩ := id C0
  have hts : ∀ w ∈ wsL_law, w.before #[Value.ref b] s = true := fun w h => hts0 w (wsL_law_in w h)
  have hown : s.vm.findClass RL = some m.cls := hown
  have hA : ∀ q : Nat, s.heap.size ≤ q → (fun q : Nat => s.heap.size ≤ q) q := fun _ h => h
  have hbA : ¬ (fun q : Nat => s.heap.size ≤ q) b := Nat.not_le.mpr hbl
  obtain ⟨r, I1, J2, e1, e2, hr1⟩ := g_limit (xs (nI (5 * n) + 1).toNatClampNeg) h 
  refine lv_aload_n hx hb dL_law_500 rfl (lv_at hl 2 rfl) ?_
  refine lv_aload_n hx hb dL_law_501 rfl (lv_at hl 3 rfl) ?_
  refine lv_iload_n hx hb dL_law_502 rfl (lv_at hl 0 rfl) ?_
  refine lv_iconst (v := 1) hx hb dL_law_503 (by decide) ?_
  refine lv_iadd hx hb dL_law_504 ?_
  refine va_sld hx hb hX hbl hbA hS (lw_in hN hn 1 (by decide)) dL_law_505 ?_
  refine vcL (j := 0) (As := [.int (xs (nI (5 * n) + 1).toNatClampNeg)]) (rest := []) ⟨hx, hb, hml, hown, hts⟩ (e_X6_limit l (dC, dI) K ad hap _ _ _ _ _  _ _ e1) (cwV 1 hts gL_law_X6_limit rfl rfl rfl (by decide +kernel) ⟨Nat.le_of_ble_eq_true rfl, Nat.le_of_ble_eq_true rfl⟩) hK hP hS hge (by decide) (show kd 0 = 6 by decide) (by decide) rfl rfl rfl hl.1 (Nat.le_of_ble_eq_true rfl) (Nat.le_of_ble_eq_true rfl) (Nat.le_of_ble_eq_true rfl) dL_law_506 (fun q6 u H locs hw hP hS => ?_) rfl
  obtain ⟨rfl, rfl⟩ := hw
  have hP : va_P (dC, dI) vwCl (VW K ad I1 G A L) H := hP
  refine lv_pop hx hb dL_law_509 rfl ?_
  refine lv_aload_n hx hb dL_law_510 rfl (lv_at hl 1 rfl) ?_
  refine lv_aload_n hx hb dL_law_511 rfl (lv_at hl 3 rfl) ?_
  refine lv_iload_n hx hb dL_law_512 rfl (lv_at hl 0 rfl) ?_
  refine lv_iconst (v := 1) hx hb dL_law_513 (by decide) ?_
  refine lv_iadd hx hb dL_law_514 ?_
  refine va_sld hx hb hX hbl hbA hS (lw_in hN hn 1 (by decide)) dL_law_515 ?_
  refine vcL (j := 318) (As := [.int (xs (nI (5 * n) + 1).toNatClampNeg)]) (rest := []) ⟨hx, hb, hml, hown, hts⟩ (e_X7_limit l (dC, dI) K ad hap _ _ _ _ _  _ _ e2) (cwV 1 hts gL_law_X7_limit rfl rfl rfl (by decide +kernel) ⟨Nat.le_of_ble_eq_true rfl, Nat.le_of_ble_eq_true rfl⟩) hK hP hS hge (by decide) (show kd 318 = 7 by decide) (by decide) rfl rfl rfl hl.1 (Nat.le_of_ble_eq_true rfl) (Nat.le_of_ble_eq_true rfl) (Nat.le_of_ble_eq_true rfl) dL_law_516 (fun q7 u H locs hw hP hS => ?_) rfl
  obtain ⟨rfl, rfl⟩ := hw
  have hP : va_P (dC, dI) vwCl (VW K ad J2 G A L) H := hP
  refine lv_pop hx hb dL_law_519 rfl ?_
  refine lv_goto (tgt := 1044) hx hb dL_law_520 (by decide) ?_
  exact kk J2 G A L H locs hr1 hP hS
set_option maxHeartbeats 4000000 in
set_option maxRecDepth 100000 in
/-- the law: solve -/
theorem law_c11 {p : Program} {l : Launch} {e : Env} {s : State} {m : MethodId} {below : List Frame} {meth : Method} {c : Code} {dC : Nat → ClassId} {dI : Nat → Nat → Nat} {b N : Nat} {xs : Nat → Int32} {K : Nat → ClassId} {ad : Nat → Nat} (C0 : lw_At p s m meth c b N xs) (hN : N ≤ 2560) (hK : va_K (dC, dI) vwCl (tyA K) s) (hap : apart ad (fun _ => True)) (hge : ∀ j, j < NS → s.heap.size ≤ ad j) {n : Nat} (hn : 5 * n + 5 ≤ N) (I : Nat → Nat → Int32) (G : Nat → Nat → Nat) (A : Nat → Nat → Int32) (L : Nat → Nat → Int64) (h : Rel n I G A L I A) (H : Heap) (locs : List Loc) (hP : va_P (dC, dI) vwCl (VW K ad I G A L) H) (hS : va_S (fun q : Nat => s.heap.size ≤ q) s.heap H locs) (ls : Array Slot) (hl : lv_has ls 4 [(3, .int (nI (5 * n))), (2, .ref (ad 318)), (1, .ref (ad 0)), (0, .ref b)]) (kk : ∀ (I : Nat → Nat → Int32) (G : Nat → Nat → Nat) (A : Nat → Nat → Int32) (L : Nat → Nat → Int64) (H : Heap) (locs : List Loc), Rel (n + 1) I G A L I A → va_P (dC, dI) vwCl (VW K ad I G A L) H → va_S (fun q : Nat => s.heap.size ≤ q) s.heap H locs → W p l e room_1 s m #[Value.ref b] below meth c H locs 378 153906 (lw_Z below #[Value.ref b] s) (F0 m 1044 ls [])) : W p l e room_1 s m #[Value.ref b] below meth c H locs 378 153906 (lw_Z below #[Value.ref b] s) (F0 m 523 ls []) := by
  obtain ⟨hx, hb, hr, hml, hown, hts0, hX, hbl, hlocks, hgv⟩ := id C0
  have hts : ∀ w ∈ wsL_law, w.before #[Value.ref b] s = true := fun w h => hts0 w (wsL_law_in w h)
  have hown : s.vm.findClass RL = some m.cls := hown
  have hA : ∀ q : Nat, s.heap.size ≤ q → (fun q : Nat => s.heap.size ≤ q) q := fun _ h => h
  have hbA : ¬ (fun q : Nat => s.heap.size ≤ q) b := Nat.not_le.mpr hbl
  obtain ⟨r, I1, G1, A1, L1, J2, R2, e1, e2, hr1⟩ := g_solve (xs (nI (5 * n) + 1).toNatClampNeg) (xs (nI (5 * n) + 2).toNatClampNeg) h (by omega)
  refine lv_aload_n hx hb dL_law_523 rfl (lv_at hl 2 rfl) ?_
  refine lv_aload_n hx hb dL_law_524 rfl (lv_at hl 3 rfl) ?_
  refine lv_iload_n hx hb dL_law_525 rfl (lv_at hl 0 rfl) ?_
  refine lv_iconst (v := 1) hx hb dL_law_526 (by decide) ?_
  refine lv_iadd hx hb dL_law_527 ?_
  refine va_sld hx hb hX hbl hbA hS (lw_in hN hn 1 (by decide)) dL_law_528 ?_
  refine lv_aload_n hx hb dL_law_529 rfl (lv_at hl 3 rfl) ?_
  refine lv_iload_n hx hb dL_law_530 rfl (lv_at hl 0 rfl) ?_
  refine lv_iconst (v := 2) hx hb dL_law_531 (by decide) ?_
  refine lv_iadd hx hb dL_law_532 ?_
  refine va_sld hx hb hX hbl hbA hS (lw_in hN hn 2 (by decide)) dL_law_533 ?_
  refine vcL (j := 0) (As := [.int (xs (nI (5 * n) + 1).toNatClampNeg), .int (xs (nI (5 * n) + 2).toNatClampNeg)]) (rest := []) ⟨hx, hb, hml, hown, hts⟩ (e_X6_solve l (dC, dI) K ad hap _ _ _ _ _ _  _ _ _ _ _ e1) (cwV 2 hts gL_law_X6_solve rfl rfl rfl (by decide +kernel) ⟨Nat.le_of_ble_eq_true rfl, Nat.le_of_ble_eq_true rfl⟩) hK hP hS hge (by decide) (show kd 0 = 6 by decide) (by decide) rfl rfl rfl hl.1 (Nat.le_of_ble_eq_true rfl) (Nat.le_of_ble_eq_true rfl) (Nat.le_of_ble_eq_true rfl) dL_law_534 (fun q6 u H locs hw hP hS => ?_) rfl
  obtain ⟨rfl, rfl⟩ := hw
  have hP : va_P (dC, dI) vwCl (VW K ad I1 G1 A1 L1) H := hP
  refine lv_pop hx hb dL_law_537 rfl ?_
  refine lv_aload_n hx hb dL_law_538 rfl (lv_at hl 1 rfl) ?_
  refine lv_aload_n hx hb dL_law_539 rfl (lv_at hl 3 rfl) ?_
  refine lv_iload_n hx hb dL_law_540 rfl (lv_at hl 0 rfl) ?_
  refine lv_iconst (v := 1) hx hb dL_law_541 (by decide) ?_
  refine lv_iadd hx hb dL_law_542 ?_
  refine va_sld hx hb hX hbl hbA hS (lw_in hN hn 1 (by decide)) dL_law_543 ?_
  refine lv_aload_n hx hb dL_law_544 rfl (lv_at hl 3 rfl) ?_
  refine lv_iload_n hx hb dL_law_545 rfl (lv_at hl 0 rfl) ?_
  refine lv_iconst (v := 2) hx hb dL_law_546 (by decide) ?_
  refine lv_iadd hx hb dL_law_547 ?_
  refine va_sld hx hb hX hbl hbA hS (lw_in hN hn 2 (by decide)) dL_law_548 ?_
  refine vcL (j := 318) (As := [.int (xs (nI (5 * n) + 1).toNatClampNeg), .int (xs (nI (5 * n) + 2).toNatClampNeg)]) (rest := []) ⟨hx, hb, hml, hown, hts⟩ (e_X7_solve l (dC, dI) K ad hap _ _ _ _ _ _  _ _ _ e2) (cwV 2 hts gL_law_X7_solve rfl rfl rfl (by decide +kernel) ⟨Nat.le_of_ble_eq_true rfl, Nat.le_of_ble_eq_true rfl⟩) hK hP hS hge (by decide) (show kd 318 = 7 by decide) (by decide) rfl rfl rfl hl.1 (Nat.le_of_ble_eq_true rfl) (Nat.le_of_ble_eq_true rfl) (Nat.le_of_ble_eq_true rfl) dL_law_549 (fun q7 u H locs hw hP hS => ?_) rfl
  obtain ⟨rfl, rfl⟩ := hw
  have hP : va_P (dC, dI) vwCl (VW K ad J2 G1 R2 L1) H := hP
  refine lv_pop hx hb dL_law_552 rfl ?_
  refine lv_goto (tgt := 1044) hx hb dL_law_553 (by decide) ?_
  exact kk J2 G1 R2 L1 H locs hr1 hP hS
set_option maxHeartbeats 4000000 in
set_option maxRecDepth 100000 in
/-- the law: giveUp -/
theorem law_c12 {p : Program} {l : Launch} {e : Env} {s : State} {m : MethodId} {below : List Frame} {meth : Method} {c : Code} {dC : Nat → ClassId} {dI : Nat → Nat → Nat} {b N : Nat} {xs : Nat → Int32} {K : Nat → ClassId} {ad : Nat → Nat} (C0 : lw_At p s m meth c b N xs) (hN : N ≤ 2560) (hK : va_K (dC, dI) vwCl (tyA K) s) (hap : apart ad (fun _ => True)) (hge : ∀ j, j < NS → s.heap.size ≤ ad j) {n : Nat} (hn : 5 * n + 5 ≤ N) (I : Nat → Nat → Int32) (G : Nat → Nat → Nat) (A : Nat → Nat → Int32) (L : Nat → Nat → Int64) (h : Rel n I G A L I A) (H : Heap) (locs : List Loc) (hP : va_P (dC, dI) vwCl (VW K ad I G A L) H) (hS : va_S (fun q : Nat => s.heap.size ≤ q) s.heap H locs) (ls : Array Slot) (hl : lv_has ls 4 [(3, .int (nI (5 * n))), (2, .ref (ad 318)), (1, .ref (ad 0)), (0, .ref b)]) (kk : ∀ (I : Nat → Nat → Int32) (G : Nat → Nat → Nat) (A : Nat → Nat → Int32) (L : Nat → Nat → Int64) (H : Heap) (locs : List Loc), Rel (n + 1) I G A L I A → va_P (dC, dI) vwCl (VW K ad I G A L) H → va_S (fun q : Nat => s.heap.size ≤ q) s.heap H locs → W p l e room_1 s m #[Value.ref b] below meth c H locs 378 153906 (lw_Z below #[Value.ref b] s) (F0 m 1044 ls [])) : W p l e room_1 s m #[Value.ref b] below meth c H locs 378 153906 (lw_Z below #[Value.ref b] s) (F0 m 556 ls []) := by
  obtain ⟨hx, hb, hr, hml, hown, hts0, hX, hbl, hlocks, hgv⟩ := id C0
  have hts : ∀ w ∈ wsL_law, w.before #[Value.ref b] s = true := fun w h => hts0 w (wsL_law_in w h)
  have hown : s.vm.findClass RL = some m.cls := hown
  have hA : ∀ q : Nat, s.heap.size ≤ q → (fun q : Nat => s.heap.size ≤ q) q := fun _ h => h
  have hbA : ¬ (fun q : Nat => s.heap.size ≤ q) b := Nat.not_le.mpr hbl
  obtain ⟨r, I1, J2, e1, e2, hr1⟩ := g_giveUp  h 
  refine lv_aload_n hx hb dL_law_556 rfl (lv_at hl 2 rfl) ?_
  refine vcL (j := 0) (As := []) (rest := []) ⟨hx, hb, hml, hown, hts⟩ (e_X6_giveUp l (dC, dI) K ad hap  _ _ _ _  _ _ e1) (cwV 0 hts gL_law_X6_giveUp rfl rfl rfl (by decide +kernel) ⟨Nat.le_of_ble_eq_true rfl, Nat.le_of_ble_eq_true rfl⟩) hK hP hS hge (by decide) (show kd 0 = 6 by decide) (by decide) rfl rfl rfl hl.1 (Nat.le_of_ble_eq_true rfl) (Nat.le_of_ble_eq_true rfl) (Nat.le_of_ble_eq_true rfl) dL_law_557 (fun q6 u H locs hw hP hS => ?_) rfl
  obtain ⟨rfl, rfl⟩ := hw
  have hP : va_P (dC, dI) vwCl (VW K ad I1 G A L) H := hP
  refine lv_pop hx hb dL_law_560 rfl ?_
  refine lv_aload_n hx hb dL_law_561 rfl (lv_at hl 1 rfl) ?_
  refine vcL (j := 318) (As := []) (rest := []) ⟨hx, hb, hml, hown, hts⟩ (e_X7_giveUp l (dC, dI) K ad hap  _ _ _ _  _ _ e2) (cwV 0 hts gL_law_X7_giveUp rfl rfl rfl (by decide +kernel) ⟨Nat.le_of_ble_eq_true rfl, Nat.le_of_ble_eq_true rfl⟩) hK hP hS hge (by decide) (show kd 318 = 7 by decide) (by decide) rfl rfl rfl hl.1 (Nat.le_of_ble_eq_true rfl) (Nat.le_of_ble_eq_true rfl) (Nat.le_of_ble_eq_true rfl) dL_law_562 (fun q7 u H locs hw hP hS => ?_) rfl
  obtain ⟨rfl, rfl⟩ := hw
  have hP : va_P (dC, dI) vwCl (VW K ad J2 G A L) H := hP
  refine lv_pop hx hb dL_law_565 rfl ?_
  refine lv_goto (tgt := 1044) hx hb dL_law_566 (by decide) ?_
  exact kk J2 G A L H locs hr1 hP hS
set_option maxHeartbeats 4000000 in
set_option maxRecDepth 100000 in
/-- the law: told -/
theorem law_c13 {p : Program} {l : Launch} {e : Env} {s : State} {m : MethodId} {below : List Frame} {meth : Method} {c : Code} {dC : Nat → ClassId} {dI : Nat → Nat → Nat} {b N : Nat} {xs : Nat → Int32} {K : Nat → ClassId} {ad : Nat → Nat} (C0 : lw_At p s m meth c b N xs) (hN : N ≤ 2560) (hK : va_K (dC, dI) vwCl (tyA K) s) (hap : apart ad (fun _ => True)) (hge : ∀ j, j < NS → s.heap.size ≤ ad j) {n : Nat} (hn : 5 * n + 5 ≤ N) (I : Nat → Nat → Int32) (G : Nat → Nat → Nat) (A : Nat → Nat → Int32) (L : Nat → Nat → Int64) (h : Rel n I G A L I A) (H : Heap) (locs : List Loc) (hP : va_P (dC, dI) vwCl (VW K ad I G A L) H) (hS : va_S (fun q : Nat => s.heap.size ≤ q) s.heap H locs) (ls : Array Slot) (hl : lv_has ls 4 [(3, .int (nI (5 * n))), (2, .ref (ad 318)), (1, .ref (ad 0)), (0, .ref b)]) (kk : ∀ (I : Nat → Nat → Int32) (G : Nat → Nat → Nat) (A : Nat → Nat → Int32) (L : Nat → Nat → Int64) (H : Heap) (locs : List Loc), Rel (n + 1) I G A L I A → va_P (dC, dI) vwCl (VW K ad I G A L) H → va_S (fun q : Nat => s.heap.size ≤ q) s.heap H locs → W p l e room_1 s m #[Value.ref b] below meth c H locs 378 153906 (lw_Z below #[Value.ref b] s) (F0 m 1044 ls [])) : W p l e room_1 s m #[Value.ref b] below meth c H locs 378 153906 (lw_Z below #[Value.ref b] s) (F0 m 569 ls []) := by
  obtain ⟨hx, hb, hr, hml, hown, hts0, hX, hbl, hlocks, hgv⟩ := id C0
  have hts : ∀ w ∈ wsL_law, w.before #[Value.ref b] s = true := fun w h => hts0 w (wsL_law_in w h)
  have hown : s.vm.findClass RL = some m.cls := hown
  have hA : ∀ q : Nat, s.heap.size ≤ q → (fun q : Nat => s.heap.size ≤ q) q := fun _ h => h
  have hbA : ¬ (fun q : Nat => s.heap.size ≤ q) b := Nat.not_le.mpr hbl
  obtain ⟨r, J2, e1, e2, hr1⟩ := g_told (xs (nI (5 * n) + 1).toNatClampNeg) (xs (nI (5 * n) + 2).toNatClampNeg) h 
  refine lv_aload_n hx hb dL_law_569 rfl (lv_at hl 2 rfl) ?_
  refine lv_aload_n hx hb dL_law_570 rfl (lv_at hl 3 rfl) ?_
  refine lv_iload_n hx hb dL_law_571 rfl (lv_at hl 0 rfl) ?_
  refine lv_iconst (v := 1) hx hb dL_law_572 (by decide) ?_
  refine lv_iadd hx hb dL_law_573 ?_
  refine va_sld hx hb hX hbl hbA hS (lw_in hN hn 1 (by decide)) dL_law_574 ?_
  refine lv_aload_n hx hb dL_law_575 rfl (lv_at hl 3 rfl) ?_
  refine lv_iload_n hx hb dL_law_576 rfl (lv_at hl 0 rfl) ?_
  refine lv_iconst (v := 2) hx hb dL_law_577 (by decide) ?_
  refine lv_iadd hx hb dL_law_578 ?_
  refine va_sld hx hb hX hbl hbA hS (lw_in hN hn 2 (by decide)) dL_law_579 ?_
  refine vcL (j := 0) (As := [.int (xs (nI (5 * n) + 1).toNatClampNeg), .int (xs (nI (5 * n) + 2).toNatClampNeg)]) (rest := []) ⟨hx, hb, hml, hown, hts⟩ (e_X6_told l (dC, dI) K ad hap _ _ _ _ _ _  _  e1) (cwV 2 hts gL_law_X6_told rfl rfl rfl (by decide +kernel) ⟨Nat.le_of_ble_eq_true rfl, Nat.le_of_ble_eq_true rfl⟩) hK hP hS hge (by decide) (show kd 0 = 6 by decide) (by decide) rfl rfl rfl hl.1 (Nat.le_of_ble_eq_true rfl) (Nat.le_of_ble_eq_true rfl) (Nat.le_of_ble_eq_true rfl) dL_law_580 (fun q6 u H locs hw hP hS => ?_) rfl
  obtain ⟨rfl, rfl⟩ := hw
  have hP : va_P (dC, dI) vwCl (VW K ad I G A L) H := hP
  refine lv_pop hx hb dL_law_583 rfl ?_
  refine lv_aload_n hx hb dL_law_584 rfl (lv_at hl 1 rfl) ?_
  refine lv_aload_n hx hb dL_law_585 rfl (lv_at hl 3 rfl) ?_
  refine lv_iload_n hx hb dL_law_586 rfl (lv_at hl 0 rfl) ?_
  refine lv_iconst (v := 1) hx hb dL_law_587 (by decide) ?_
  refine lv_iadd hx hb dL_law_588 ?_
  refine va_sld hx hb hX hbl hbA hS (lw_in hN hn 1 (by decide)) dL_law_589 ?_
  refine lv_aload_n hx hb dL_law_590 rfl (lv_at hl 3 rfl) ?_
  refine lv_iload_n hx hb dL_law_591 rfl (lv_at hl 0 rfl) ?_
  refine lv_iconst (v := 2) hx hb dL_law_592 (by decide) ?_
  refine lv_iadd hx hb dL_law_593 ?_
  refine va_sld hx hb hX hbl hbA hS (lw_in hN hn 2 (by decide)) dL_law_594 ?_
  refine vcL (j := 318) (As := [.int (xs (nI (5 * n) + 1).toNatClampNeg), .int (xs (nI (5 * n) + 2).toNatClampNeg)]) (rest := []) ⟨hx, hb, hml, hown, hts⟩ (e_X7_told l (dC, dI) K ad hap _ _ _ _ _ _  _ _ e2) (cwV 2 hts gL_law_X7_told rfl rfl rfl (by decide +kernel) ⟨Nat.le_of_ble_eq_true rfl, Nat.le_of_ble_eq_true rfl⟩) hK hP hS hge (by decide) (show kd 318 = 7 by decide) (by decide) rfl rfl rfl hl.1 (Nat.le_of_ble_eq_true rfl) (Nat.le_of_ble_eq_true rfl) (Nat.le_of_ble_eq_true rfl) dL_law_595 (fun q7 u H locs hw hP hS => ?_) rfl
  obtain ⟨rfl, rfl⟩ := hw
  have hP : va_P (dC, dI) vwCl (VW K ad J2 G A L) H := hP
  refine lv_pop hx hb dL_law_598 rfl ?_
  refine lv_goto (tgt := 1044) hx hb dL_law_599 (by decide) ?_
  exact kk J2 G A L H locs hr1 hP hS
