set_option maxHeartbeats 4000000 in
set_option maxRecDepth 100000 in
/-- Judge(): as it is made -/
theorem c_X0_init (l : Launch) (dC : Nat → ClassId) (dI : Nat → Nat → Nat) (sz : Nat) (h0 : Nat) : Met l yX0_init wsX0_init ({ frames := 1, cells := 0, slots := 0, locals := 24 }) (va_Pc [.ref h0] (fun U => U.heap.size = sz ∧ va_P (dC, dI) vwCl [(h0, .inr (0, [.int 0, .int 0, .int 0]))] U.heap ∧ va_K (dC, dI) vwCl [] U ∧ va_D (fun _ => True) [(h0, .inr (0, [.int 0, .int 0, .int 0]))])) (va_Qv (fun (_ : Unit) => True) (fun (_ : Unit) (t : State) => va_P (dC, dI) vwCl [(h0, .inr (0, [.int 0, .int (-9), .int (-1000000)]))] t.heap ∧ va_K (dC, dI) vwCl [] t ∧ va_D (va_A [(h0, .inr (0, [.int 0, .int 0, .int 0]))] sz) [(h0, .inr (0, [.int 0, .int (-9), .int (-1000000)]))]) (va_A [(h0, .inr (0, [.int 0, .int 0, .int 0]))] sz)) 0 0 (va_A [(h0, .inr (0, [.int 0, .int 0, .int 0]))] sz) := by
  refine Met.ofW (cc := cX0_init) (maxL := 1) (ret := none) (by decide) rfl ?_
  intro p e s m args below meth c s₁ B hml hv
  obtain ⟨rfl, hsz, hP, hK, hD0⟩ := hv
  have hx := B.exec
  have hb := B.bytes
  have hr := B.returns
  have hts := atoms_spec (ws := wsX0_init) B.pre
  have hown : s.vm.findClass RX0 = some m.cls := findClass_of_methodNamed B.named
  have hlocks := B.notSynchronized
  have hin : meth.name = "<init>" := (name_of_methodNamed B.named B.method).1
  have hi0 : ∀ w ∈ u_ws RX0 TX0 3, w ∈ wsX0_init := fun w h => List.mem_cons_of_mem _ (List.mem_append_right _ h)
  subst hsz
  have hD := hD0.self (sz := s.heap.size)
  generalize hAe : va_A [(h0, .inr (0, [.int 0, .int 0, .int 0]))] s.heap.size = A at hD ⊢
  have hA : ∀ q : Nat, s.heap.size ≤ q → A q := fun q h => by rw [← hAe]; exact Or.inr h
  have hS : va_S A s.heap s.heap [] := va_S.rf
  have hP : va_P (dC, dI) vwCl [(h0, .inr (0, [.int 0, .int 0, .int 0]))] s.heap := hP
  have hl := lv_entry ([.ref h0]) (n := 1) (Nat.le_of_ble_eq_true rfl)
  rw [lg_entry_eq]
  generalize (lg_sl ([.ref h0]) ++ List.replicate (1 - (lg_sl ([.ref h0])).length) Slot.unset).toArray = ls at hl ⊢
  have hl : lv_has ls 1 [(0, .ref h0)] := hl
  refine lv_aload_n hx hb dX0_init_0 rfl (lv_at hl 0 rfl) ?_
  refine W.objInit hx hb hown (hts (.methodLink RX0 3 objectInit) (by decide +kernel)) (hts (.instanceMethod objectInit) (by decide +kernel)) (hts _ (List.mem_of_getElem? (i := 3) rfl)) rfl (by rw [hml]; exact hl.1) rfl dX0_init_1 (Nat.le_of_ble_eq_true rfl) (Nat.le_of_ble_eq_true rfl) ?_
  refine W.eq (g2 := F0 m 4 ls []) rfl ?_
  refine lv_aload_n hx hb dX0_init_4 rfl (lv_at hl 0 rfl) ?_
  refine lv_iconst (v := 0) hx hb dX0_init_5 (by decide) ?_
  refine va_put (D := (dC, dI)) (ci := 0) (v := .int 0) (ty := .int) (C := RX0) (T := TX0) (N := 3) hx hb hts hi0 tyX0 tyX0_ok nmX0 hown hK hP hD hS 0 rfl rfl 0 (by decide) (hts (.fieldLink RX0 9 "CrateHelpers$Judge" "what" "I") (by decide +kernel)) (fun _ h9 => h9) rfl (by decide +kernel) rfl rfl (Nat.le_of_ble_eq_true rfl) dX0_init_6 (fun H locs hP hD hS => ?_)
  have hP : va_P (dC, dI) vwCl [(h0, .inr (0, [.int 0, .int 0, .int 0]))] H := hP
  have hD : va_D A [(h0, .inr (0, [.int 0, .int 0, .int 0]))] := hD
  refine lv_aload_n hx hb dX0_init_9 rfl (lv_at hl 0 rfl) ?_
  refine lv_bipush (v := (-9)) hx hb dX0_init_10 (by decide) ?_
  refine va_put (D := (dC, dI)) (ci := 0) (v := .int (-9)) (ty := .int) (C := RX0) (T := TX0) (N := 3) hx hb hts hi0 tyX0 tyX0_ok nmX0 hown hK hP hD hS 0 rfl rfl 1 (by decide) (hts (.fieldLink RX0 15 "CrateHelpers$Judge" "why" "I") (by decide +kernel)) (fun _ h9 => h9) rfl (by decide +kernel) rfl rfl (Nat.le_of_ble_eq_true rfl) dX0_init_12 (fun H locs hP hD hS => ?_)
  have hP : va_P (dC, dI) vwCl [(h0, .inr (0, [.int 0, .int (-9), .int 0]))] H := hP
  have hD : va_D A [(h0, .inr (0, [.int 0, .int (-9), .int 0]))] := hD
  refine lv_aload_n hx hb dX0_init_15 rfl (lv_at hl 0 rfl) ?_
  refine lv_ldc (v := (-1000000)) hx hb hown (hts (.constant RX0 18 (-1000000)) (by decide +kernel)) dX0_init_16 ?_
  refine va_put (D := (dC, dI)) (ci := 0) (v := .int (-1000000)) (ty := .int) (C := RX0) (T := TX0) (N := 3) hx hb hts hi0 tyX0 tyX0_ok nmX0 hown hK hP hD hS 0 rfl rfl 2 (by decide) (hts (.fieldLink RX0 19 "CrateHelpers$Judge" "bound" "I") (by decide +kernel)) (fun _ h9 => h9) rfl (by decide +kernel) rfl rfl (Nat.le_of_ble_eq_true rfl) dX0_init_18 (fun H locs hP hD hS => ?_)
  have hP : va_P (dC, dI) vwCl [(h0, .inr (0, [.int 0, .int (-9), .int (-1000000)]))] H := hP
  have hD : va_D A [(h0, .inr (0, [.int 0, .int (-9), .int (-1000000)]))] := hD
  have hP9 := hP.sub (ws' := [(h0, .inr (0, [.int 0, .int (-9), .int (-1000000)]))]) [0] rfl
  have hD9 := hD.sub (ws' := [(h0, .inr (0, [.int 0, .int (-9), .int (-1000000)]))]) [0] (by decide) rfl
  have hK9 := hK.sub (tys' := []) [] rfl
  exact W.vret hx hb hr (fun t ht hW => ⟨⟨(), rfl, trivial, by rw [ht]; exact hP9, va_K.moved hW.alike hK9, hD9⟩, hS.F ht⟩) hS.2.2 dX0_init_21
set_option maxHeartbeats 4000000 in
set_option maxRecDepth 100000 in
/-- Rule(): four arrays come -/
theorem c_X2_init (l : Launch) (dC : Nat → ClassId) (dI : Nat → Nat → Nat) (sz : Nat) (h0 : Nat) : Met l yX2_init wsX2_init ({ frames := 1, cells := 4, slots := 24, locals := 24 }) (va_Pc [.ref h0] (fun U => U.heap.size = sz ∧ va_P (dC, dI) vwCl [(h0, .inr (2, [.int 0, .int 0, .int 0, .null, .null, .null, .null]))] U.heap ∧ va_K (dC, dI) vwCl [] U ∧ va_D (fun _ => True) [(h0, .inr (2, [.int 0, .int 0, .int 0, .null, .null, .null, .null]))])) (va_Qv (fun (_ : Unit) => True) (fun (_ : Unit) (t : State) => ∃ (a1 : Nat) (a2 : Nat) (a3 : Nat) (a4 : Nat), va_P (dC, dI) vwCl [(h0, .inr (2, [.int 0, .int 0, .int 0, .ref a1, .ref a2, .ref a3, .ref a4]))] t.heap ∧ va_K (dC, dI) vwCl [] t ∧ va_D (va_A [(h0, .inr (2, [.int 0, .int 0, .int 0, .null, .null, .null, .null]))] sz) [(h0, .inr (2, [.int 0, .int 0, .int 0, .ref a1, .ref a2, .ref a3, .ref a4]))]) (va_A [(h0, .inr (2, [.int 0, .int 0, .int 0, .null, .null, .null, .null]))] sz)) 4 24 (va_A [(h0, .inr (2, [.int 0, .int 0, .int 0, .null, .null, .null, .null]))] sz) := by
  refine Met.ofW (cc := cX2_init) (maxL := 1) (ret := none) (by decide) rfl ?_
  intro p e s m args below meth c s₁ B hml hv
  obtain ⟨rfl, hsz, hP, hK, hD0⟩ := hv
  have hx := B.exec
  have hb := B.bytes
  have hr := B.returns
  have hts := atoms_spec (ws := wsX2_init) B.pre
  have hown : s.vm.findClass RX2 = some m.cls := findClass_of_methodNamed B.named
  have hlocks := B.notSynchronized
  have hin : meth.name = "<init>" := (name_of_methodNamed B.named B.method).1
  have hi2 : ∀ w ∈ u_ws RX2 TX2 7, w ∈ wsX2_init := fun w h => List.mem_cons_of_mem _ (List.mem_append_right _ h)
  subst hsz
  have hD := hD0.self (sz := s.heap.size)
  generalize hAe : va_A [(h0, .inr (2, [.int 0, .int 0, .int 0, .null, .null, .null, .null]))] s.heap.size = A at hD ⊢
  have hA : ∀ q : Nat, s.heap.size ≤ q → A q := fun q h => by rw [← hAe]; exact Or.inr h
  have hS : va_S A s.heap s.heap [] := va_S.rf
  have hP : va_P (dC, dI) vwCl [(h0, .inr (2, [.int 0, .int 0, .int 0, .null, .null, .null, .null]))] s.heap := hP
  have hl := lv_entry ([.ref h0]) (n := 1) (Nat.le_of_ble_eq_true rfl)
  rw [lg_entry_eq]
  generalize (lg_sl ([.ref h0]) ++ List.replicate (1 - (lg_sl ([.ref h0])).length) Slot.unset).toArray = ls at hl ⊢
  have hl : lv_has ls 1 [(0, .ref h0)] := hl
  refine lv_aload_n hx hb dX2_init_0 rfl (lv_at hl 0 rfl) ?_
  refine W.objInit hx hb hown (hts (.methodLink RX2 3 objectInit) (by decide +kernel)) (hts (.instanceMethod objectInit) (by decide +kernel)) (hts _ (List.mem_of_getElem? (i := 3) rfl)) rfl (by rw [hml]; exact hl.1) rfl dX2_init_1 (Nat.le_of_ble_eq_true rfl) (Nat.le_of_ble_eq_true rfl) ?_
  refine W.eq (g2 := F0 m 4 ls []) rfl ?_
  refine lv_aload_n hx hb dX2_init_4 rfl (lv_at hl 0 rfl) ?_
  refine lv_iconst (v := 0) hx hb dX2_init_5 (by decide) ?_
  refine va_put (D := (dC, dI)) (ci := 2) (v := .int 0) (ty := .int) (C := RX2) (T := TX2) (N := 7) hx hb hts hi2 tyX2 tyX2_ok nmX2 hown hK hP hD hS 0 rfl rfl 0 (by decide) (hts (.fieldLink RX2 9 "CrateHelpers$Rule" "kind" "I") (by decide +kernel)) (fun _ h9 => h9) rfl (by decide +kernel) rfl rfl (Nat.le_of_ble_eq_true rfl) dX2_init_6 (fun H locs hP hD hS => ?_)
  have hP : va_P (dC, dI) vwCl [(h0, .inr (2, [.int 0, .int 0, .int 0, .null, .null, .null, .null]))] H := hP
  have hD : va_D A [(h0, .inr (2, [.int 0, .int 0, .int 0, .null, .null, .null, .null]))] := hD
  refine lv_aload_n hx hb dX2_init_9 rfl (lv_at hl 0 rfl) ?_
  refine lv_iconst (v := 0) hx hb dX2_init_10 (by decide) ?_
  refine va_put (D := (dC, dI)) (ci := 2) (v := .int 0) (ty := .int) (C := RX2) (T := TX2) (N := 7) hx hb hts hi2 tyX2 tyX2_ok nmX2 hown hK hP hD hS 0 rfl rfl 1 (by decide) (hts (.fieldLink RX2 15 "CrateHelpers$Rule" "c" "I") (by decide +kernel)) (fun _ h9 => h9) rfl (by decide +kernel) rfl rfl (Nat.le_of_ble_eq_true rfl) dX2_init_11 (fun H locs hP hD hS => ?_)
  have hP : va_P (dC, dI) vwCl [(h0, .inr (2, [.int 0, .int 0, .int 0, .null, .null, .null, .null]))] H := hP
  have hD : va_D A [(h0, .inr (2, [.int 0, .int 0, .int 0, .null, .null, .null, .null]))] := hD
  refine lv_aload_n hx hb dX2_init_14 rfl (lv_at hl 0 rfl) ?_
  refine lv_iconst (v := 0) hx hb dX2_init_15 (by decide) ?_
  refine va_put (D := (dC, dI)) (ci := 2) (v := .int 0) (ty := .int) (C := RX2) (T := TX2) (N := 7) hx hb hts hi2 tyX2 tyX2_ok nmX2 hown hK hP hD hS 0 rfl rfl 2 (by decide) (hts (.fieldLink RX2 18 "CrateHelpers$Rule" "parts" "I") (by decide +kernel)) (fun _ h9 => h9) rfl (by decide +kernel) rfl rfl (Nat.le_of_ble_eq_true rfl) dX2_init_16 (fun H locs hP hD hS => ?_)
  have hP : va_P (dC, dI) vwCl [(h0, .inr (2, [.int 0, .int 0, .int 0, .null, .null, .null, .null]))] H := hP
  have hD : va_D A [(h0, .inr (2, [.int 0, .int 0, .int 0, .null, .null, .null, .null]))] := hD
  refine lv_aload_n hx hb dX2_init_19 rfl (lv_at hl 0 rfl) ?_
  refine lv_bipush (v := 6) hx hb dX2_init_20 (by decide) ?_
  refine va_newa (atype := .int) (ty := .int) (a0 := (6, .inl (fun _ => 0))) (N' := 6) hx hb (hts (.arrayClass .int) (by decide +kernel)) rfl hK hP hD hS hA (fun _ => rfl) (by decide) (by decide) (by decide) (Nat.le_of_ble_eq_true rfl) (Nat.le_of_ble_eq_true rfl) dX2_init_22 (fun q1 cA2 H hK hP hD hS => ?_)
  have hP : va_P (dC, dI) vwCl [(h0, .inr (2, [.int 0, .int 0, .int 0, .null, .null, .null, .null])), (q1, .inl (cA2, 6, .inl (fun _ => 0)))] H := hP
  have hD : va_D A [(h0, .inr (2, [.int 0, .int 0, .int 0, .null, .null, .null, .null])), (q1, .inl (cA2, 6, .inl (fun _ => 0)))] := hD
  have hK : va_K (dC, dI) vwCl [(cA2, .int)] s := hK
  refine W.widen (k := 1) (n := 6) (Nat.le_of_ble_eq_true rfl) (Nat.le_of_ble_eq_true rfl) ?_
  have hP := hP.sub (ws' := [(h0, .inr (2, [.int 0, .int 0, .int 0, .null, .null, .null, .null]))]) [0] rfl
  have hD := hD.sub (ws' := [(h0, .inr (2, [.int 0, .int 0, .int 0, .null, .null, .null, .null]))]) [0] (by decide) rfl
  have hK := hK.sub (tys' := []) [] rfl
  refine va_putF (D := (dC, dI)) (ci := 2) (v := .ref q1) (ty := .array .int) (C := RX2) (T := TX2) (N := 7) hx hb hts hi2 tyX2 tyX2_ok nmX2 hown hK hP hD hS 0 rfl rfl 3 (by decide) (hts (.fieldLink RX2 21 "CrateHelpers$Rule" "variables" "[I") (by decide +kernel)) (fun _ h9 => h9) rfl hin rfl (by decide +kernel) rfl rfl (Nat.le_of_ble_eq_true rfl) dX2_init_24 (fun H locs hP hD hS => ?_)
  have hP : va_P (dC, dI) vwCl [(h0, .inr (2, [.int 0, .int 0, .int 0, .ref q1, .null, .null, .null]))] H := hP
  have hD : va_D A [(h0, .inr (2, [.int 0, .int 0, .int 0, .ref q1, .null, .null, .null]))] := hD
  refine lv_aload_n hx hb dX2_init_27 rfl (lv_at hl 0 rfl) ?_
  refine lv_bipush (v := 6) hx hb dX2_init_28 (by decide) ?_
  refine va_newa (atype := .int) (ty := .int) (a0 := (6, .inl (fun _ => 0))) (N' := 6) hx hb (hts (.arrayClass .int) (by decide +kernel)) rfl hK hP hD hS hA (fun _ => rfl) (by decide) (by decide) (by decide) (Nat.le_of_ble_eq_true rfl) (Nat.le_of_ble_eq_true rfl) dX2_init_30 (fun q3 cA4 H hK hP hD hS => ?_)
  have hP : va_P (dC, dI) vwCl [(h0, .inr (2, [.int 0, .int 0, .int 0, .ref q1, .null, .null, .null])), (q3, .inl (cA4, 6, .inl (fun _ => 0)))] H := hP
  have hD : va_D A [(h0, .inr (2, [.int 0, .int 0, .int 0, .ref q1, .null, .null, .null])), (q3, .inl (cA4, 6, .inl (fun _ => 0)))] := hD
  have hK : va_K (dC, dI) vwCl [(cA4, .int)] s := hK
  refine W.widen (k := 2) (n := 12) (Nat.le_of_ble_eq_true rfl) (Nat.le_of_ble_eq_true rfl) ?_
  have hP := hP.sub (ws' := [(h0, .inr (2, [.int 0, .int 0, .int 0, .ref q1, .null, .null, .null]))]) [0] rfl
  have hD := hD.sub (ws' := [(h0, .inr (2, [.int 0, .int 0, .int 0, .ref q1, .null, .null, .null]))]) [0] (by decide) rfl
  have hK := hK.sub (tys' := []) [] rfl
  refine va_putF (D := (dC, dI)) (ci := 2) (v := .ref q3) (ty := .array .int) (C := RX2) (T := TX2) (N := 7) hx hb hts hi2 tyX2 tyX2_ok nmX2 hown hK hP hD hS 0 rfl rfl 4 (by decide) (hts (.fieldLink RX2 25 "CrateHelpers$Rule" "weights" "[I") (by decide +kernel)) (fun _ h9 => h9) rfl hin rfl (by decide +kernel) rfl rfl (Nat.le_of_ble_eq_true rfl) dX2_init_32 (fun H locs hP hD hS => ?_)
  have hP : va_P (dC, dI) vwCl [(h0, .inr (2, [.int 0, .int 0, .int 0, .ref q1, .ref q3, .null, .null]))] H := hP
  have hD : va_D A [(h0, .inr (2, [.int 0, .int 0, .int 0, .ref q1, .ref q3, .null, .null]))] := hD
  refine lv_aload_n hx hb dX2_init_35 rfl (lv_at hl 0 rfl) ?_
  refine lv_bipush (v := 6) hx hb dX2_init_36 (by decide) ?_
  refine va_newa (atype := .boolean) (ty := .boolean) (a0 := (6, .inl (fun _ => 0))) (N' := 6) hx hb (hts (.arrayClass .boolean) (by decide +kernel)) rfl hK hP hD hS hA (fun _ => rfl) (by decide) (by decide) (by decide) (Nat.le_of_ble_eq_true rfl) (Nat.le_of_ble_eq_true rfl) dX2_init_38 (fun q5 cA6 H hK hP hD hS => ?_)
  have hP : va_P (dC, dI) vwCl [(h0, .inr (2, [.int 0, .int 0, .int 0, .ref q1, .ref q3, .null, .null])), (q5, .inl (cA6, 6, .inl (fun _ => 0)))] H := hP
  have hD : va_D A [(h0, .inr (2, [.int 0, .int 0, .int 0, .ref q1, .ref q3, .null, .null])), (q5, .inl (cA6, 6, .inl (fun _ => 0)))] := hD
  have hK : va_K (dC, dI) vwCl [(cA6, .boolean)] s := hK
  refine W.widen (k := 3) (n := 18) (Nat.le_of_ble_eq_true rfl) (Nat.le_of_ble_eq_true rfl) ?_
  have hP := hP.sub (ws' := [(h0, .inr (2, [.int 0, .int 0, .int 0, .ref q1, .ref q3, .null, .null]))]) [0] rfl
  have hD := hD.sub (ws' := [(h0, .inr (2, [.int 0, .int 0, .int 0, .ref q1, .ref q3, .null, .null]))]) [0] (by decide) rfl
  have hK := hK.sub (tys' := []) [] rfl
  refine va_putF (D := (dC, dI)) (ci := 2) (v := .ref q5) (ty := .array .boolean) (C := RX2) (T := TX2) (N := 7) hx hb hts hi2 tyX2 tyX2_ok nmX2 hown hK hP hD hS 0 rfl rfl 5 (by decide) (hts (.fieldLink RX2 28 "CrateHelpers$Rule" "isPart" "[Z") (by decide +kernel)) (fun _ h9 => h9) rfl hin rfl (by decide +kernel) rfl rfl (Nat.le_of_ble_eq_true rfl) dX2_init_40 (fun H locs hP hD hS => ?_)
  have hP : va_P (dC, dI) vwCl [(h0, .inr (2, [.int 0, .int 0, .int 0, .ref q1, .ref q3, .ref q5, .null]))] H := hP
  have hD : va_D A [(h0, .inr (2, [.int 0, .int 0, .int 0, .ref q1, .ref q3, .ref q5, .null]))] := hD
  refine lv_aload_n hx hb dX2_init_43 rfl (lv_at hl 0 rfl) ?_
  refine lv_bipush (v := 6) hx hb dX2_init_44 (by decide) ?_
  refine va_newa (atype := .int) (ty := .int) (a0 := (6, .inl (fun _ => 0))) (N' := 6) hx hb (hts (.arrayClass .int) (by decide +kernel)) rfl hK hP hD hS hA (fun _ => rfl) (by decide) (by decide) (by decide) (Nat.le_of_ble_eq_true rfl) (Nat.le_of_ble_eq_true rfl) dX2_init_46 (fun q7 cA8 H hK hP hD hS => ?_)
  have hP : va_P (dC, dI) vwCl [(h0, .inr (2, [.int 0, .int 0, .int 0, .ref q1, .ref q3, .ref q5, .null])), (q7, .inl (cA8, 6, .inl (fun _ => 0)))] H := hP
  have hD : va_D A [(h0, .inr (2, [.int 0, .int 0, .int 0, .ref q1, .ref q3, .ref q5, .null])), (q7, .inl (cA8, 6, .inl (fun _ => 0)))] := hD
  have hK : va_K (dC, dI) vwCl [(cA8, .int)] s := hK
  refine W.widen (k := 4) (n := 24) (Nat.le_of_ble_eq_true rfl) (Nat.le_of_ble_eq_true rfl) ?_
  have hP := hP.sub (ws' := [(h0, .inr (2, [.int 0, .int 0, .int 0, .ref q1, .ref q3, .ref q5, .null]))]) [0] rfl
  have hD := hD.sub (ws' := [(h0, .inr (2, [.int 0, .int 0, .int 0, .ref q1, .ref q3, .ref q5, .null]))]) [0] (by decide) rfl
  have hK := hK.sub (tys' := []) [] rfl
  refine va_putF (D := (dC, dI)) (ci := 2) (v := .ref q7) (ty := .array .int) (C := RX2) (T := TX2) (N := 7) hx hb hts hi2 tyX2 tyX2_ok nmX2 hown hK hP hD hS 0 rfl rfl 6 (by decide) (hts (.fieldLink RX2 32 "CrateHelpers$Rule" "weightOf" "[I") (by decide +kernel)) (fun _ h9 => h9) rfl hin rfl (by decide +kernel) rfl rfl (Nat.le_of_ble_eq_true rfl) dX2_init_48 (fun H locs hP hD hS => ?_)
  have hP : va_P (dC, dI) vwCl [(h0, .inr (2, [.int 0, .int 0, .int 0, .ref q1, .ref q3, .ref q5, .ref q7]))] H := hP
  have hD : va_D A [(h0, .inr (2, [.int 0, .int 0, .int 0, .ref q1, .ref q3, .ref q5, .ref q7]))] := hD
  have hP9 := hP.sub (ws' := [(h0, .inr (2, [.int 0, .int 0, .int 0, .ref q1, .ref q3, .ref q5, .ref q7]))]) [0] rfl
  have hD9 := hD.sub (ws' := [(h0, .inr (2, [.int 0, .int 0, .int 0, .ref q1, .ref q3, .ref q5, .ref q7]))]) [0] (by decide) rfl
  have hK9 := hK.sub (tys' := []) [] rfl
  exact W.vret hx hb hr (fun t ht hW => ⟨⟨(), rfl, trivial, q1, q3, q5, q7, by rw [ht]; exact hP9, va_K.moved hW.alike hK9, hD9⟩, hS.F ht⟩) hS.2.2 dX2_init_51
set_option maxHeartbeats 4000000 in
set_option maxRecDepth 100000 in
/-- Problem(): its arrays and eight rules come -/
theorem c_X1_init (l : Launch) (dC : Nat → ClassId) (dI : Nat → Nat → Nat) (sz : Nat) (h0 : Nat) : Met l yX1_init wsX1_init ({ frames := 2, cells := 51, slots := 322, locals := 60 }) (va_Pc [.ref h0] (fun U => U.heap.size = sz ∧ va_P (dC, dI) vwCl [(h0, .inr (1, [.int 0, .int 0, .int 0, .int 0, .null, .null, .null, .null, .null]))] U.heap ∧ va_K (dC, dI) vwCl [] U ∧ va_D (fun _ => True) [(h0, .inr (1, [.int 0, .int 0, .int 0, .int 0, .null, .null, .null, .null, .null]))] ∧ nwX U)) (va_Qv (fun (_ : Unit) => True) (fun (_ : Unit) (t : State) => ∃ (a1 : Nat) (a2 : Nat) (a3 : Nat) (a4 : Nat) (a5 : Nat), va_P (dC, dI) vwCl [(h0, .inr (1, [.int 0, .int 0, .int 0, .int 0, .ref a1, .ref a2, .ref a3, .ref a4, .ref a5]))] t.heap ∧ va_K (dC, dI) vwCl [] t ∧ va_D (va_A [(h0, .inr (1, [.int 0, .int 0, .int 0, .int 0, .null, .null, .null, .null, .null]))] sz) [(h0, .inr (1, [.int 0, .int 0, .int 0, .int 0, .ref a1, .ref a2, .ref a3, .ref a4, .ref a5]))]) (va_A [(h0, .inr (1, [.int 0, .int 0, .int 0, .int 0, .null, .null, .null, .null, .null]))] sz)) 51 322 (va_A [(h0, .inr (1, [.int 0, .int 0, .int 0, .int 0, .null, .null, .null, .null, .null]))] sz) := by
  refine Met.ofW (cc := cX1_init) (maxL := 2) (ret := none) (by decide) rfl ?_
  intro p e s m args below meth c s₁ B hml hv
  obtain ⟨rfl, hsz, hP, hK, hD0, hN⟩ := hv
  have hx := B.exec
  have hb := B.bytes
  have hr := B.returns
  have hts := atoms_spec (ws := wsX1_init) B.pre
  have hown : s.vm.findClass RX1 = some m.cls := findClass_of_methodNamed B.named
  have hlocks := B.notSynchronized
  have hin : meth.name = "<init>" := (name_of_methodNamed B.named B.method).1
  have hi1 : ∀ w ∈ u_ws RX1 TX1 9, w ∈ wsX1_init := fun w h => List.mem_cons_of_mem _ (List.mem_append_left _ (List.mem_append_right _ h))
  have hi2 : ∀ w ∈ u_ws RX2 TX2 7, w ∈ wsX1_init := fun w h => List.mem_cons_of_mem _ (List.mem_append_right _ h)
  subst hsz
  have hD := hD0.self (sz := s.heap.size)
  generalize hAe : va_A [(h0, .inr (1, [.int 0, .int 0, .int 0, .int 0, .null, .null, .null, .null, .null]))] s.heap.size = A at hD ⊢
  have hA : ∀ q : Nat, s.heap.size ≤ q → A q := fun q h => by rw [← hAe]; exact Or.inr h
  have hS : va_S A s.heap s.heap [] := va_S.rf
  have hP : va_P (dC, dI) vwCl [(h0, .inr (1, [.int 0, .int 0, .int 0, .int 0, .null, .null, .null, .null, .null]))] s.heap := hP
  have hl := lv_entry ([.ref h0]) (n := 2) (Nat.le_of_ble_eq_true rfl)
  rw [lg_entry_eq]
  generalize (lg_sl ([.ref h0]) ++ List.replicate (2 - (lg_sl ([.ref h0])).length) Slot.unset).toArray = ls at hl ⊢
  have hl : lv_has ls 2 [(0, .ref h0)] := hl
  have hAO_RX2 : va_AO RX2 s := hN.2.2.2.2.2.1
  refine lv_aload_n hx hb dX1_init_0 rfl (lv_at hl 0 rfl) ?_
  refine W.objInit hx hb hown (hts (.methodLink RX1 3 objectInit) (by decide +kernel)) (hts (.instanceMethod objectInit) (by decide +kernel)) (hts _ (List.mem_of_getElem? (i := 3) rfl)) rfl (by rw [hml]; exact hl.1) rfl dX1_init_1 (Nat.le_of_ble_eq_true rfl) (Nat.le_of_ble_eq_true rfl) ?_
  refine W.eq (g2 := F0 m 4 ls []) rfl ?_
  refine lv_aload_n hx hb dX1_init_4 rfl (lv_at hl 0 rfl) ?_
  refine lv_iconst (v := 0) hx hb dX1_init_5 (by decide) ?_
  refine va_put (D := (dC, dI)) (ci := 1) (v := .int 0) (ty := .int) (C := RX1) (T := TX1) (N := 9) hx hb hts hi1 tyX1 tyX1_ok nmX1 hown hK hP hD hS 0 rfl rfl 0 (by decide) (hts (.fieldLink RX1 9 "CrateHelpers$Problem" "variables" "I") (by decide +kernel)) (fun _ h9 => h9) rfl (by decide +kernel) rfl rfl (Nat.le_of_ble_eq_true rfl) dX1_init_6 (fun H locs hP hD hS => ?_)
  have hP : va_P (dC, dI) vwCl [(h0, .inr (1, [.int 0, .int 0, .int 0, .int 0, .null, .null, .null, .null, .null]))] H := hP
  have hD : va_D A [(h0, .inr (1, [.int 0, .int 0, .int 0, .int 0, .null, .null, .null, .null, .null]))] := hD
  refine lv_aload_n hx hb dX1_init_9 rfl (lv_at hl 0 rfl) ?_
  refine lv_iconst (v := 0) hx hb dX1_init_10 (by decide) ?_
  refine va_put (D := (dC, dI)) (ci := 1) (v := .int 0) (ty := .int) (C := RX1) (T := TX1) (N := 9) hx hb hts hi1 tyX1 tyX1_ok nmX1 hown hK hP hD hS 0 rfl rfl 1 (by decide) (hts (.fieldLink RX1 15 "CrateHelpers$Problem" "ruleCount" "I") (by decide +kernel)) (fun _ h9 => h9) rfl (by decide +kernel) rfl rfl (Nat.le_of_ble_eq_true rfl) dX1_init_11 (fun H locs hP hD hS => ?_)
  have hP : va_P (dC, dI) vwCl [(h0, .inr (1, [.int 0, .int 0, .int 0, .int 0, .null, .null, .null, .null, .null]))] H := hP
  have hD : va_D A [(h0, .inr (1, [.int 0, .int 0, .int 0, .int 0, .null, .null, .null, .null, .null]))] := hD
  refine lv_aload_n hx hb dX1_init_14 rfl (lv_at hl 0 rfl) ?_
  refine lv_iconst (v := 0) hx hb dX1_init_15 (by decide) ?_
  refine va_put (D := (dC, dI)) (ci := 1) (v := .int 0) (ty := .int) (C := RX1) (T := TX1) (N := 9) hx hb hts hi1 tyX1 tyX1_ok nmX1 hown hK hP hD hS 0 rfl rfl 2 (by decide) (hts (.fieldLink RX1 18 "CrateHelpers$Problem" "changes" "I") (by decide +kernel)) (fun _ h9 => h9) rfl (by decide +kernel) rfl rfl (Nat.le_of_ble_eq_true rfl) dX1_init_16 (fun H locs hP hD hS => ?_)
  have hP : va_P (dC, dI) vwCl [(h0, .inr (1, [.int 0, .int 0, .int 0, .int 0, .null, .null, .null, .null, .null]))] H := hP
  have hD : va_D A [(h0, .inr (1, [.int 0, .int 0, .int 0, .int 0, .null, .null, .null, .null, .null]))] := hD
  refine lv_aload_n hx hb dX1_init_19 rfl (lv_at hl 0 rfl) ?_
  refine lv_iconst (v := 0) hx hb dX1_init_20 (by decide) ?_
  refine va_put (D := (dC, dI)) (ci := 1) (v := .int 0) (ty := .boolean) (C := RX1) (T := TX1) (N := 9) hx hb hts hi1 tyX1 tyX1_ok nmX1 hown hK hP hD hS 0 rfl rfl 3 (by decide) (hts (.fieldLink RX1 21 "CrateHelpers$Problem" "hasEnded" "Z") (by decide +kernel)) (fun _ h9 => h9) rfl (by decide +kernel) rfl rfl (Nat.le_of_ble_eq_true rfl) dX1_init_21 (fun H locs hP hD hS => ?_)
  have hP : va_P (dC, dI) vwCl [(h0, .inr (1, [.int 0, .int 0, .int 0, .int 0, .null, .null, .null, .null, .null]))] H := hP
  have hD : va_D A [(h0, .inr (1, [.int 0, .int 0, .int 0, .int 0, .null, .null, .null, .null, .null]))] := hD
  refine lv_aload_n hx hb dX1_init_24 rfl (lv_at hl 0 rfl) ?_
  refine lv_bipush (v := 6) hx hb dX1_init_25 (by decide) ?_
  refine va_newa (atype := .int) (ty := .int) (a0 := (6, .inl (fun _ => 0))) (N' := 6) hx hb (hts (.arrayClass .int) (by decide +kernel)) rfl hK hP hD hS hA (fun _ => rfl) (by decide) (by decide) (by decide) (Nat.le_of_ble_eq_true rfl) (Nat.le_of_ble_eq_true rfl) dX1_init_27 (fun q1 cA2 H hK hP hD hS => ?_)
  have hP : va_P (dC, dI) vwCl [(h0, .inr (1, [.int 0, .int 0, .int 0, .int 0, .null, .null, .null, .null, .null])), (q1, .inl (cA2, 6, .inl (fun _ => 0)))] H := hP
  have hD : va_D A [(h0, .inr (1, [.int 0, .int 0, .int 0, .int 0, .null, .null, .null, .null, .null])), (q1, .inl (cA2, 6, .inl (fun _ => 0)))] := hD
  have hK : va_K (dC, dI) vwCl [(cA2, .int)] s := hK
  refine W.widen (k := 1) (n := 6) (Nat.le_of_ble_eq_true rfl) (Nat.le_of_ble_eq_true rfl) ?_
  have hP := hP.sub (ws' := [(h0, .inr (1, [.int 0, .int 0, .int 0, .int 0, .null, .null, .null, .null, .null]))]) [0] rfl
  have hD := hD.sub (ws' := [(h0, .inr (1, [.int 0, .int 0, .int 0, .int 0, .null, .null, .null, .null, .null]))]) [0] (by decide) rfl
  have hK := hK.sub (tys' := []) [] rfl
  refine va_putF (D := (dC, dI)) (ci := 1) (v := .ref q1) (ty := .array .int) (C := RX1) (T := TX1) (N := 9) hx hb hts hi1 tyX1 tyX1_ok nmX1 hown hK hP hD hS 0 rfl rfl 4 (by decide) (hts (.fieldLink RX1 25 "CrateHelpers$Problem" "sizes" "[I") (by decide +kernel)) (fun _ h9 => h9) rfl hin rfl (by decide +kernel) rfl rfl (Nat.le_of_ble_eq_true rfl) dX1_init_29 (fun H locs hP hD hS => ?_)
  have hP : va_P (dC, dI) vwCl [(h0, .inr (1, [.int 0, .int 0, .int 0, .int 0, .ref q1, .null, .null, .null, .null]))] H := hP
  have hD : va_D A [(h0, .inr (1, [.int 0, .int 0, .int 0, .int 0, .ref q1, .null, .null, .null, .null]))] := hD
  refine lv_aload_n hx hb dX1_init_32 rfl (lv_at hl 0 rfl) ?_
  refine lv_bipush (v := 6) hx hb dX1_init_33 (by decide) ?_
  refine va_newa (atype := .int) (ty := .int) (a0 := (6, .inl (fun _ => 0))) (N' := 6) hx hb (hts (.arrayClass .int) (by decide +kernel)) rfl hK hP hD hS hA (fun _ => rfl) (by decide) (by decide) (by decide) (Nat.le_of_ble_eq_true rfl) (Nat.le_of_ble_eq_true rfl) dX1_init_35 (fun q3 cA4 H hK hP hD hS => ?_)
  have hP : va_P (dC, dI) vwCl [(h0, .inr (1, [.int 0, .int 0, .int 0, .int 0, .ref q1, .null, .null, .null, .null])), (q3, .inl (cA4, 6, .inl (fun _ => 0)))] H := hP
  have hD : va_D A [(h0, .inr (1, [.int 0, .int 0, .int 0, .int 0, .ref q1, .null, .null, .null, .null])), (q3, .inl (cA4, 6, .inl (fun _ => 0)))] := hD
  have hK : va_K (dC, dI) vwCl [(cA4, .int)] s := hK
  refine W.widen (k := 2) (n := 12) (Nat.le_of_ble_eq_true rfl) (Nat.le_of_ble_eq_true rfl) ?_
  have hP := hP.sub (ws' := [(h0, .inr (1, [.int 0, .int 0, .int 0, .int 0, .ref q1, .null, .null, .null, .null]))]) [0] rfl
  have hD := hD.sub (ws' := [(h0, .inr (1, [.int 0, .int 0, .int 0, .int 0, .ref q1, .null, .null, .null, .null]))]) [0] (by decide) rfl
  have hK := hK.sub (tys' := []) [] rfl
  refine va_putF (D := (dC, dI)) (ci := 1) (v := .ref q3) (ty := .array .int) (C := RX1) (T := TX1) (N := 9) hx hb hts hi1 tyX1 tyX1_ok nmX1 hown hK hP hD hS 0 rfl rfl 5 (by decide) (hts (.fieldLink RX1 29 "CrateHelpers$Problem" "kinds" "[I") (by decide +kernel)) (fun _ h9 => h9) rfl hin rfl (by decide +kernel) rfl rfl (Nat.le_of_ble_eq_true rfl) dX1_init_37 (fun H locs hP hD hS => ?_)
  have hP : va_P (dC, dI) vwCl [(h0, .inr (1, [.int 0, .int 0, .int 0, .int 0, .ref q1, .ref q3, .null, .null, .null]))] H := hP
  have hD : va_D A [(h0, .inr (1, [.int 0, .int 0, .int 0, .int 0, .ref q1, .ref q3, .null, .null, .null]))] := hD
  refine lv_aload_n hx hb dX1_init_40 rfl (lv_at hl 0 rfl) ?_
  refine lv_bipush (v := 6) hx hb dX1_init_41 (by decide) ?_
  refine lv_bipush (v := 6) hx hb dX1_init_43 (by decide) ?_
  refine mn_row (own := RX1) (index := 32) (ty := .int) (n := 6) (k := 6) hx hb hown (by rw [show ("[" ++ (FieldType.array FieldType.int).toString) = "[[I" from by decide]; exact hts (.classLink RX1 32 "[[I") (by decide +kernel)) hN.2.2.2.2.2.2 (hts (.arrayClass .int) (by decide +kernel)) hP hD hS hA (by decide) (by decide) (by decide) (by decide) (by decide) rfl rfl (Nat.le_of_ble_eq_true rfl) (Nat.le_of_ble_eq_true rfl) dX1_init_45 (fun q5 H hP hD hS => ?_)
  refine W.widen (k := 9) (n := 54) (Nat.le_of_ble_eq_true rfl) (Nat.le_of_ble_eq_true rfl) ?_
  refine va_putF (D := (dC, dI)) (ci := 1) (v := .ref q5) (ty := .array (.array .int)) (C := RX1) (T := TX1) (N := 9) hx hb hts hi1 tyX1 tyX1_ok nmX1 hown hK hP hD hS 0 rfl rfl 6 (by decide) (hts (.fieldLink RX1 34 "CrateHelpers$Problem" "prices" "[[I") (by decide +kernel)) (fun _ h9 => h9) rfl hin rfl (by decide +kernel) rfl rfl (Nat.le_of_ble_eq_true rfl) dX1_init_49 (fun H locs hP hD hS => ?_)
  have hP : va_P (dC, dI) vwCl [(h0, .inr (1, [.int 0, .int 0, .int 0, .int 0, .ref q1, .ref q3, .ref q5, .null, .null]))] H := hP
  have hD : va_D A [(h0, .inr (1, [.int 0, .int 0, .int 0, .int 0, .ref q1, .ref q3, .ref q5, .null, .null]))] := hD
  refine lv_aload_n hx hb dX1_init_52 rfl (lv_at hl 0 rfl) ?_
  refine lv_bipush (v := 8) hx hb dX1_init_53 (by decide) ?_
  refine va_newq (N' := 8) hx hb hown (hts (.classLink RX1 37 RX2) (by decide +kernel)) hAO_RX2 hK hP hD hS hA (by decide) (by decide) (by decide) (Nat.le_of_ble_eq_true rfl) (Nat.le_of_ble_eq_true rfl) dX1_init_55 (fun q6 cA7 H hK hP hD hS => ?_)
  have hP : va_P (dC, dI) vwCl [(h0, .inr (1, [.int 0, .int 0, .int 0, .int 0, .ref q1, .ref q3, .ref q5, .null, .null])), (q6, .inl (cA7, 8, .inr (.inr (.inr (.inr (fun _ => none))))))] H := hP
  have hD : va_D A [(h0, .inr (1, [.int 0, .int 0, .int 0, .int 0, .ref q1, .ref q3, .ref q5, .null, .null])), (q6, .inl (cA7, 8, .inr (.inr (.inr (.inr (fun _ => none))))))] := hD
  have hK : va_K (dC, dI) vwCl [(cA7, .object RX2)] s := hK
  refine W.widen (k := 10) (n := 62) (Nat.le_of_ble_eq_true rfl) (Nat.le_of_ble_eq_true rfl) ?_
  refine va_putF (D := (dC, dI)) (ci := 1) (v := .ref q6) (ty := .array (.object "CrateHelpers$Rule")) (C := RX1) (T := TX1) (N := 9) hx hb hts hi1 tyX1 tyX1_ok nmX1 hown hK hP hD hS 0 rfl rfl 7 (by decide) (hts (.fieldLink RX1 39 "CrateHelpers$Problem" "rules" "[LCrateHelpers$Rule;") (by decide +kernel)) (fun _ h9 => h9) rfl hin rfl (by decide +kernel) rfl rfl (Nat.le_of_ble_eq_true rfl) dX1_init_58 (fun H locs hP hD hS => ?_)
  have hP : va_P (dC, dI) vwCl [(h0, .inr (1, [.int 0, .int 0, .int 0, .int 0, .ref q1, .ref q3, .ref q5, .ref q6, .null])), (q6, .inl (cA7, 8, .inr (.inr (.inr (.inr (fun _ => none))))))] H := hP
  have hD : va_D A [(h0, .inr (1, [.int 0, .int 0, .int 0, .int 0, .ref q1, .ref q3, .ref q5, .ref q6, .null])), (q6, .inl (cA7, 8, .inr (.inr (.inr (.inr (fun _ => none))))))] := hD
  refine lv_aload_n hx hb dX1_init_61 rfl (lv_at hl 0 rfl) ?_
  refine lv_bipush (v := 12) hx hb dX1_init_62 (by decide) ?_
  refine va_newa (atype := .int) (ty := .int) (a0 := (12, .inl (fun _ => 0))) (N' := 12) hx hb (hts (.arrayClass .int) (by decide +kernel)) rfl hK hP hD hS hA (fun _ => rfl) (by decide) (by decide) (by decide) (Nat.le_of_ble_eq_true rfl) (Nat.le_of_ble_eq_true rfl) dX1_init_64 (fun q8 cA9 H hK hP hD hS => ?_)
  have hP : va_P (dC, dI) vwCl [(h0, .inr (1, [.int 0, .int 0, .int 0, .int 0, .ref q1, .ref q3, .ref q5, .ref q6, .null])), (q6, .inl (cA7, 8, .inr (.inr (.inr (.inr (fun _ => none)))))), (q8, .inl (cA9, 12, .inl (fun _ => 0)))] H := hP
  have hD : va_D A [(h0, .inr (1, [.int 0, .int 0, .int 0, .int 0, .ref q1, .ref q3, .ref q5, .ref q6, .null])), (q6, .inl (cA7, 8, .inr (.inr (.inr (.inr (fun _ => none)))))), (q8, .inl (cA9, 12, .inl (fun _ => 0)))] := hD
  have hK : va_K (dC, dI) vwCl [(cA7, .object RX2), (cA9, .int)] s := hK
  refine W.widen (k := 11) (n := 74) (Nat.le_of_ble_eq_true rfl) (Nat.le_of_ble_eq_true rfl) ?_
  have hP := hP.sub (ws' := [(h0, .inr (1, [.int 0, .int 0, .int 0, .int 0, .ref q1, .ref q3, .ref q5, .ref q6, .null])), (q6, .inl (cA7, 8, .inr (.inr (.inr (.inr (fun _ => none))))))]) [0, 1] rfl
  have hD := hD.sub (ws' := [(h0, .inr (1, [.int 0, .int 0, .int 0, .int 0, .ref q1, .ref q3, .ref q5, .ref q6, .null])), (q6, .inl (cA7, 8, .inr (.inr (.inr (.inr (fun _ => none))))))]) [0, 1] (by decide) rfl
  have hK := hK.sub (tys' := [(cA7, .object RX2)]) [0] rfl
  refine va_putF (D := (dC, dI)) (ci := 1) (v := .ref q8) (ty := .array .int) (C := RX1) (T := TX1) (N := 9) hx hb hts hi1 tyX1 tyX1_ok nmX1 hown hK hP hD hS 0 rfl rfl 8 (by decide) (hts (.fieldLink RX1 43 "CrateHelpers$Problem" "outcome" "[I") (by decide +kernel)) (fun _ h9 => h9) rfl hin rfl (by decide +kernel) rfl rfl (Nat.le_of_ble_eq_true rfl) dX1_init_66 (fun H locs hP hD hS => ?_)
  have hP : va_P (dC, dI) vwCl [(h0, .inr (1, [.int 0, .int 0, .int 0, .int 0, .ref q1, .ref q3, .ref q5, .ref q6, .ref q8])), (q6, .inl (cA7, 8, .inr (.inr (.inr (.inr (fun _ => none))))))] H := hP
  have hD : va_D A [(h0, .inr (1, [.int 0, .int 0, .int 0, .int 0, .ref q1, .ref q3, .ref q5, .ref q6, .ref q8])), (q6, .inl (cA7, 8, .inr (.inr (.inr (.inr (fun _ => none))))))] := hD
  refine lv_iconst (v := 0) hx hb dX1_init_69 (by decide) ?_
  refine lv_istore_n (lv' := [(1, .int 0), (0, .ref h0)]) hx hb dX1_init_70 rfl hl (by decide) rfl (fun ls hl => ?_)
  refine lv_iload_n hx hb dX1_init_71 rfl (lv_at hl 0 rfl) ?_
  refine lv_bipush (v := 8) hx hb dX1_init_72 (by decide) ?_
  refine lv_icmp_ge (tgt := 96) hx hb dX1_init_74 (by decide) (fun c_10 => absurd c_10 (by decide)) (fun _ => ?_)
  refine lv_aload_n hx hb dX1_init_77 rfl (lv_at hl 1 rfl) ?_
  refine va_get (D := (dC, dI)) (ci := 1) (v := .ref q6) (C := RX1) (T := TX1) (N := 9) hx hb hts hi1 hown hK hP 0 rfl rfl 7 (by decide) (hts (.fieldLink RX1 39 "CrateHelpers$Problem" "rules" "[LCrateHelpers$Rule;") (by decide +kernel)) (fun _ h9 => h9) rfl dX1_init_78 ?_
  refine lv_iload_n hx hb dX1_init_81 rfl (lv_at hl 0 rfl) ?_
  refine va_new (ci := 2) (fs := [.int 0, .int 0, .int 0, .null, .null, .null, .null]) (C := RX2) (T := TX2) (N := 7) hx hb hts hi2 tyX2 tyX2_ok hown (hts (.classLink RX1 37 RX2) (by decide +kernel)) (hts (.instantiable RX2 7) (by decide +kernel)) (hts (.initialized RX2) (by decide +kernel)) hK hP hD hS hA rfl (by decide +kernel) (Nat.le_of_ble_eq_true rfl) (Nat.le_of_ble_eq_true rfl) dX1_init_82 (fun q11 H hP hD hS => ?_)
  have hP : va_P (dC, dI) vwCl [(h0, .inr (1, [.int 0, .int 0, .int 0, .int 0, .ref q1, .ref q3, .ref q5, .ref q6, .ref q8])), (q6, .inl (cA7, 8, .inr (.inr (.inr (.inr (fun _ => none)))))), (q11, .inr (2, [.int 0, .int 0, .int 0, .null, .null, .null, .null]))] H := hP
  have hD : va_D A [(h0, .inr (1, [.int 0, .int 0, .int 0, .int 0, .ref q1, .ref q3, .ref q5, .ref q6, .ref q8])), (q6, .inl (cA7, 8, .inr (.inr (.inr (.inr (fun _ => none)))))), (q11, .inr (2, [.int 0, .int 0, .int 0, .null, .null, .null, .null]))] := hD
  refine W.widen (k := 12) (n := 81) (Nat.le_of_ble_eq_true rfl) (Nat.le_of_ble_eq_true rfl) ?_
  refine lv_dup hx hb dX1_init_85 rfl ?_
  have hPc := hP.sub (ws' := [(q11, .inr (2, [.int 0, .int 0, .int 0, .null, .null, .null, .null]))]) [2] rfl
  have hDc := hD.sub (ws' := [(q11, .inr (2, [.int 0, .int 0, .int 0, .null, .null, .null, .null]))]) [2] (by decide) rfl
  have hKc := hK.sub (tys' := []) [] rfl
  have hFc := va_free (wc := [(q11, .inr (2, [.int 0, .int 0, .int 0, .null, .null, .null, .null]))]) hD hS hA [2] rfl
  refine va_callv (va_runIN (As := []) (rest := [.ref q11, .int 0, .ref q6]) ⟨hx, hb, hml, hown, hts⟩ (c_X2_init l dC dI H.size q11) (⟨va_cnB 0 hts gX1_init_X2_init_n46 rfl rfl rfl hN.2.2.1 (hts (.initialized RX2) (by decide +kernel)) (by decide +kernel) ⟨Nat.le_of_ble_eq_true rfl, Nat.le_of_ble_eq_true rfl⟩, rfl, hts (.instanceMethod yX2_init) (by decide +kernel)⟩) ⟨fun a U g mk q => by obtain ⟨q0, q1, qP, qK, qD⟩ := q; exact ⟨q0, q1, qP, va_K.moved (u := U) (U := U.calling g mk a) (Vm.Alike.refl U.vm) qK, qD⟩, fun U hU hW => ⟨rfl, by rw [hU], by rw [hU]; exact hPc, va_K.moved hW.alike hKc, hDc.weaken (fun _ _ _ _ => trivial)⟩⟩ rfl rfl hl.1 rfl (lv_room (Nat.le_of_ble_eq_true rfl)) dX1_init_86 ⟨Nat.le_of_ble_eq_true rfl, Nat.le_of_ble_eq_true rfl⟩) hS (fun q _ h => hFc q h) hFc (fun u17 t H1 locs ht hvm hw hB hz1 hk1 hS => ?_)
  obtain ⟨a12, a13, a14, a15, hP1, hK1, hD1⟩ := hB
  rw [ht] at hP1
  have hK1 := va_K.moved hvm.symm hK1
  try dsimp only at hw
  obtain ⟨hP, hD⟩ := va_join (wr := [(h0, .inr (1, [.int 0, .int 0, .int 0, .int 0, .ref q1, .ref q3, .ref q5, .ref q6, .ref q8])), (q6, .inl (cA7, 8, .inr (.inr (.inr (.inr (fun _ => none))))))]) (w1 := [(q11, .inr (2, [.int 0, .int 0, .int 0, .ref a12, .ref a13, .ref a14, .ref a15]))]) hP hD [2] [0, 1] rfl rfl (by decide) (by decide) hk1 hFc hP1 hD1
  have hK := (hK.sub (tys' := [(cA7, .object RX2)]) [0] rfl).app hK1
  generalize H1 = H at hP hS ⊢
  have hP : va_P (dC, dI) vwCl [(h0, .inr (1, [.int 0, .int 0, .int 0, .int 0, .ref q1, .ref q3, .ref q5, .ref q6, .ref q8])), (q6, .inl (cA7, 8, .inr (.inr (.inr (.inr (fun _ => none)))))), (q11, .inr (2, [.int 0, .int 0, .int 0, .ref a12, .ref a13, .ref a14, .ref a15]))] H := hP
  have hD : va_D A [(h0, .inr (1, [.int 0, .int 0, .int 0, .int 0, .ref q1, .ref q3, .ref q5, .ref q6, .ref q8])), (q6, .inl (cA7, 8, .inr (.inr (.inr (.inr (fun _ => none)))))), (q11, .inr (2, [.int 0, .int 0, .int 0, .ref a12, .ref a13, .ref a14, .ref a15]))] := hD
  have hK : va_K (dC, dI) vwCl [(cA7, .object RX2)] s := hK
  refine W.widen (k := 16) (n := 105) (Nat.le_of_ble_eq_true rfl) (Nat.le_of_ble_eq_true rfl) ?_
  refine va_astq (r := (RX2, TX2, 7)) hx hb hK hP hD hS 1 0 2 2 rfl rfl rfl rfl (by unfold vp_in; decide) dX1_init_89 (fun H locs hP hD hS => ?_)
  have hP : va_P (dC, dI) vwCl [(h0, .inr (1, [.int 0, .int 0, .int 0, .int 0, .ref q1, .ref q3, .ref q5, .ref q6, .ref q8])), (q6, .inl (cA7, 8, .inr (.inr (.inr (.inr (va_up (fun _ => none) 0 (some q11))))))), (q11, .inr (2, [.int 0, .int 0, .int 0, .ref a12, .ref a13, .ref a14, .ref a15]))] H := hP
  have hD : va_D A [(h0, .inr (1, [.int 0, .int 0, .int 0, .int 0, .ref q1, .ref q3, .ref q5, .ref q6, .ref q8])), (q6, .inl (cA7, 8, .inr (.inr (.inr (.inr (va_up (fun _ => none) 0 (some q11))))))), (q11, .inr (2, [.int 0, .int 0, .int 0, .ref a12, .ref a13, .ref a14, .ref a15]))] := hD
  have hP := hP.sub (ws' := [(h0, .inr (1, [.int 0, .int 0, .int 0, .int 0, .ref q1, .ref q3, .ref q5, .ref q6, .ref q8])), (q6, .inl (cA7, 8, .inr (.inr (.inr (.inr (va_up (fun _ => none) 0 (some q11)))))))]) [0, 1] rfl
  have hD := hD.sub (ws' := [(h0, .inr (1, [.int 0, .int 0, .int 0, .int 0, .ref q1, .ref q3, .ref q5, .ref q6, .ref q8])), (q6, .inl (cA7, 8, .inr (.inr (.inr (.inr (va_up (fun _ => none) 0 (some q11)))))))]) [0, 1] (by decide) rfl
  refine lv_iinc (v := 1) (lv' := [(1, .int 1), (0, .ref h0)]) hx hb dX1_init_90 hl (k := 0) rfl (by decide) (by decide) rfl (fun ls hl => ?_)
  refine lv_goto (tgt := 71) hx hb dX1_init_93 (by decide) ?_
  refine lv_iload_n hx hb dX1_init_71 rfl (lv_at hl 0 rfl) ?_
  refine lv_bipush (v := 8) hx hb dX1_init_72 (by decide) ?_
  refine lv_icmp_ge (tgt := 96) hx hb dX1_init_74 (by decide) (fun c_18 => absurd c_18 (by decide)) (fun _ => ?_)
  refine lv_aload_n hx hb dX1_init_77 rfl (lv_at hl 1 rfl) ?_
  refine va_get (D := (dC, dI)) (ci := 1) (v := .ref q6) (C := RX1) (T := TX1) (N := 9) hx hb hts hi1 hown hK hP 0 rfl rfl 7 (by decide) (hts (.fieldLink RX1 39 "CrateHelpers$Problem" "rules" "[LCrateHelpers$Rule;") (by decide +kernel)) (fun _ h9 => h9) rfl dX1_init_78 ?_
  refine lv_iload_n hx hb dX1_init_81 rfl (lv_at hl 0 rfl) ?_
  refine va_new (ci := 2) (fs := [.int 0, .int 0, .int 0, .null, .null, .null, .null]) (C := RX2) (T := TX2) (N := 7) hx hb hts hi2 tyX2 tyX2_ok hown (hts (.classLink RX1 37 RX2) (by decide +kernel)) (hts (.instantiable RX2 7) (by decide +kernel)) (hts (.initialized RX2) (by decide +kernel)) hK hP hD hS hA rfl (by decide +kernel) (Nat.le_of_ble_eq_true rfl) (Nat.le_of_ble_eq_true rfl) dX1_init_82 (fun q19 H hP hD hS => ?_)
  have hP : va_P (dC, dI) vwCl [(h0, .inr (1, [.int 0, .int 0, .int 0, .int 0, .ref q1, .ref q3, .ref q5, .ref q6, .ref q8])), (q6, .inl (cA7, 8, .inr (.inr (.inr (.inr (va_up (fun _ => none) 0 (some q11))))))), (q19, .inr (2, [.int 0, .int 0, .int 0, .null, .null, .null, .null]))] H := hP
  have hD : va_D A [(h0, .inr (1, [.int 0, .int 0, .int 0, .int 0, .ref q1, .ref q3, .ref q5, .ref q6, .ref q8])), (q6, .inl (cA7, 8, .inr (.inr (.inr (.inr (va_up (fun _ => none) 0 (some q11))))))), (q19, .inr (2, [.int 0, .int 0, .int 0, .null, .null, .null, .null]))] := hD
  refine W.widen (k := 17) (n := 112) (Nat.le_of_ble_eq_true rfl) (Nat.le_of_ble_eq_true rfl) ?_
  refine lv_dup hx hb dX1_init_85 rfl ?_
  have hPc := hP.sub (ws' := [(q19, .inr (2, [.int 0, .int 0, .int 0, .null, .null, .null, .null]))]) [2] rfl
  have hDc := hD.sub (ws' := [(q19, .inr (2, [.int 0, .int 0, .int 0, .null, .null, .null, .null]))]) [2] (by decide) rfl
  have hKc := hK.sub (tys' := []) [] rfl
  have hFc := va_free (wc := [(q19, .inr (2, [.int 0, .int 0, .int 0, .null, .null, .null, .null]))]) hD hS hA [2] rfl
  refine va_callv (va_runIN (As := []) (rest := [.ref q19, .int 1, .ref q6]) ⟨hx, hb, hml, hown, hts⟩ (c_X2_init l dC dI H.size q19) (⟨va_cnB 0 hts gX1_init_X2_init_n46 rfl rfl rfl hN.2.2.1 (hts (.initialized RX2) (by decide +kernel)) (by decide +kernel) ⟨Nat.le_of_ble_eq_true rfl, Nat.le_of_ble_eq_true rfl⟩, rfl, hts (.instanceMethod yX2_init) (by decide +kernel)⟩) ⟨fun a U g mk q => by obtain ⟨q0, q1, qP, qK, qD⟩ := q; exact ⟨q0, q1, qP, va_K.moved (u := U) (U := U.calling g mk a) (Vm.Alike.refl U.vm) qK, qD⟩, fun U hU hW => ⟨rfl, by rw [hU], by rw [hU]; exact hPc, va_K.moved hW.alike hKc, hDc.weaken (fun _ _ _ _ => trivial)⟩⟩ rfl rfl hl.1 rfl (lv_room (Nat.le_of_ble_eq_true rfl)) dX1_init_86 ⟨Nat.le_of_ble_eq_true rfl, Nat.le_of_ble_eq_true rfl⟩) hS (fun q _ h => hFc q h) hFc (fun u25 t H1 locs ht hvm hw hB hz1 hk1 hS => ?_)
  obtain ⟨a20, a21, a22, a23, hP1, hK1, hD1⟩ := hB
  rw [ht] at hP1
  have hK1 := va_K.moved hvm.symm hK1
  try dsimp only at hw
  obtain ⟨hP, hD⟩ := va_join (wr := [(h0, .inr (1, [.int 0, .int 0, .int 0, .int 0, .ref q1, .ref q3, .ref q5, .ref q6, .ref q8])), (q6, .inl (cA7, 8, .inr (.inr (.inr (.inr (va_up (fun _ => none) 0 (some q11)))))))]) (w1 := [(q19, .inr (2, [.int 0, .int 0, .int 0, .ref a20, .ref a21, .ref a22, .ref a23]))]) hP hD [2] [0, 1] rfl rfl (by decide) (by decide) hk1 hFc hP1 hD1
  have hK := (hK.sub (tys' := [(cA7, .object RX2)]) [0] rfl).app hK1
  generalize H1 = H at hP hS ⊢
  have hP : va_P (dC, dI) vwCl [(h0, .inr (1, [.int 0, .int 0, .int 0, .int 0, .ref q1, .ref q3, .ref q5, .ref q6, .ref q8])), (q6, .inl (cA7, 8, .inr (.inr (.inr (.inr (va_up (fun _ => none) 0 (some q11))))))), (q19, .inr (2, [.int 0, .int 0, .int 0, .ref a20, .ref a21, .ref a22, .ref a23]))] H := hP
  have hD : va_D A [(h0, .inr (1, [.int 0, .int 0, .int 0, .int 0, .ref q1, .ref q3, .ref q5, .ref q6, .ref q8])), (q6, .inl (cA7, 8, .inr (.inr (.inr (.inr (va_up (fun _ => none) 0 (some q11))))))), (q19, .inr (2, [.int 0, .int 0, .int 0, .ref a20, .ref a21, .ref a22, .ref a23]))] := hD
  have hK : va_K (dC, dI) vwCl [(cA7, .object RX2)] s := hK
  refine W.widen (k := 21) (n := 136) (Nat.le_of_ble_eq_true rfl) (Nat.le_of_ble_eq_true rfl) ?_
  refine va_astq (r := (RX2, TX2, 7)) hx hb hK hP hD hS 1 0 2 2 rfl rfl rfl rfl (by unfold vp_in; decide) dX1_init_89 (fun H locs hP hD hS => ?_)
  have hP : va_P (dC, dI) vwCl [(h0, .inr (1, [.int 0, .int 0, .int 0, .int 0, .ref q1, .ref q3, .ref q5, .ref q6, .ref q8])), (q6, .inl (cA7, 8, .inr (.inr (.inr (.inr (va_up (va_up (fun _ => none) 0 (some q11)) 1 (some q19))))))), (q19, .inr (2, [.int 0, .int 0, .int 0, .ref a20, .ref a21, .ref a22, .ref a23]))] H := hP
  have hD : va_D A [(h0, .inr (1, [.int 0, .int 0, .int 0, .int 0, .ref q1, .ref q3, .ref q5, .ref q6, .ref q8])), (q6, .inl (cA7, 8, .inr (.inr (.inr (.inr (va_up (va_up (fun _ => none) 0 (some q11)) 1 (some q19))))))), (q19, .inr (2, [.int 0, .int 0, .int 0, .ref a20, .ref a21, .ref a22, .ref a23]))] := hD
  have hP := hP.sub (ws' := [(h0, .inr (1, [.int 0, .int 0, .int 0, .int 0, .ref q1, .ref q3, .ref q5, .ref q6, .ref q8])), (q6, .inl (cA7, 8, .inr (.inr (.inr (.inr (va_up (va_up (fun _ => none) 0 (some q11)) 1 (some q19)))))))]) [0, 1] rfl
  have hD := hD.sub (ws' := [(h0, .inr (1, [.int 0, .int 0, .int 0, .int 0, .ref q1, .ref q3, .ref q5, .ref q6, .ref q8])), (q6, .inl (cA7, 8, .inr (.inr (.inr (.inr (va_up (va_up (fun _ => none) 0 (some q11)) 1 (some q19)))))))]) [0, 1] (by decide) rfl
  refine lv_iinc (v := 2) (lv' := [(1, .int 2), (0, .ref h0)]) hx hb dX1_init_90 hl (k := 0) rfl (by decide) (by decide) rfl (fun ls hl => ?_)
  refine lv_goto (tgt := 71) hx hb dX1_init_93 (by decide) ?_
  refine lv_iload_n hx hb dX1_init_71 rfl (lv_at hl 0 rfl) ?_
  refine lv_bipush (v := 8) hx hb dX1_init_72 (by decide) ?_
  refine lv_icmp_ge (tgt := 96) hx hb dX1_init_74 (by decide) (fun c_26 => absurd c_26 (by decide)) (fun _ => ?_)
  refine lv_aload_n hx hb dX1_init_77 rfl (lv_at hl 1 rfl) ?_
  refine va_get (D := (dC, dI)) (ci := 1) (v := .ref q6) (C := RX1) (T := TX1) (N := 9) hx hb hts hi1 hown hK hP 0 rfl rfl 7 (by decide) (hts (.fieldLink RX1 39 "CrateHelpers$Problem" "rules" "[LCrateHelpers$Rule;") (by decide +kernel)) (fun _ h9 => h9) rfl dX1_init_78 ?_
  refine lv_iload_n hx hb dX1_init_81 rfl (lv_at hl 0 rfl) ?_
  refine va_new (ci := 2) (fs := [.int 0, .int 0, .int 0, .null, .null, .null, .null]) (C := RX2) (T := TX2) (N := 7) hx hb hts hi2 tyX2 tyX2_ok hown (hts (.classLink RX1 37 RX2) (by decide +kernel)) (hts (.instantiable RX2 7) (by decide +kernel)) (hts (.initialized RX2) (by decide +kernel)) hK hP hD hS hA rfl (by decide +kernel) (Nat.le_of_ble_eq_true rfl) (Nat.le_of_ble_eq_true rfl) dX1_init_82 (fun q27 H hP hD hS => ?_)
  have hP : va_P (dC, dI) vwCl [(h0, .inr (1, [.int 0, .int 0, .int 0, .int 0, .ref q1, .ref q3, .ref q5, .ref q6, .ref q8])), (q6, .inl (cA7, 8, .inr (.inr (.inr (.inr (va_up (va_up (fun _ => none) 0 (some q11)) 1 (some q19))))))), (q27, .inr (2, [.int 0, .int 0, .int 0, .null, .null, .null, .null]))] H := hP
  have hD : va_D A [(h0, .inr (1, [.int 0, .int 0, .int 0, .int 0, .ref q1, .ref q3, .ref q5, .ref q6, .ref q8])), (q6, .inl (cA7, 8, .inr (.inr (.inr (.inr (va_up (va_up (fun _ => none) 0 (some q11)) 1 (some q19))))))), (q27, .inr (2, [.int 0, .int 0, .int 0, .null, .null, .null, .null]))] := hD
  refine W.widen (k := 22) (n := 143) (Nat.le_of_ble_eq_true rfl) (Nat.le_of_ble_eq_true rfl) ?_
  refine lv_dup hx hb dX1_init_85 rfl ?_
  have hPc := hP.sub (ws' := [(q27, .inr (2, [.int 0, .int 0, .int 0, .null, .null, .null, .null]))]) [2] rfl
  have hDc := hD.sub (ws' := [(q27, .inr (2, [.int 0, .int 0, .int 0, .null, .null, .null, .null]))]) [2] (by decide) rfl
  have hKc := hK.sub (tys' := []) [] rfl
  have hFc := va_free (wc := [(q27, .inr (2, [.int 0, .int 0, .int 0, .null, .null, .null, .null]))]) hD hS hA [2] rfl
  refine va_callv (va_runIN (As := []) (rest := [.ref q27, .int 2, .ref q6]) ⟨hx, hb, hml, hown, hts⟩ (c_X2_init l dC dI H.size q27) (⟨va_cnB 0 hts gX1_init_X2_init_n46 rfl rfl rfl hN.2.2.1 (hts (.initialized RX2) (by decide +kernel)) (by decide +kernel) ⟨Nat.le_of_ble_eq_true rfl, Nat.le_of_ble_eq_true rfl⟩, rfl, hts (.instanceMethod yX2_init) (by decide +kernel)⟩) ⟨fun a U g mk q => by obtain ⟨q0, q1, qP, qK, qD⟩ := q; exact ⟨q0, q1, qP, va_K.moved (u := U) (U := U.calling g mk a) (Vm.Alike.refl U.vm) qK, qD⟩, fun U hU hW => ⟨rfl, by rw [hU], by rw [hU]; exact hPc, va_K.moved hW.alike hKc, hDc.weaken (fun _ _ _ _ => trivial)⟩⟩ rfl rfl hl.1 rfl (lv_room (Nat.le_of_ble_eq_true rfl)) dX1_init_86 ⟨Nat.le_of_ble_eq_true rfl, Nat.le_of_ble_eq_true rfl⟩) hS (fun q _ h => hFc q h) hFc (fun u33 t H1 locs ht hvm hw hB hz1 hk1 hS => ?_)
  obtain ⟨a28, a29, a30, a31, hP1, hK1, hD1⟩ := hB
  rw [ht] at hP1
  have hK1 := va_K.moved hvm.symm hK1
  try dsimp only at hw
  obtain ⟨hP, hD⟩ := va_join (wr := [(h0, .inr (1, [.int 0, .int 0, .int 0, .int 0, .ref q1, .ref q3, .ref q5, .ref q6, .ref q8])), (q6, .inl (cA7, 8, .inr (.inr (.inr (.inr (va_up (va_up (fun _ => none) 0 (some q11)) 1 (some q19)))))))]) (w1 := [(q27, .inr (2, [.int 0, .int 0, .int 0, .ref a28, .ref a29, .ref a30, .ref a31]))]) hP hD [2] [0, 1] rfl rfl (by decide) (by decide) hk1 hFc hP1 hD1
  have hK := (hK.sub (tys' := [(cA7, .object RX2)]) [0] rfl).app hK1
  generalize H1 = H at hP hS ⊢
  have hP : va_P (dC, dI) vwCl [(h0, .inr (1, [.int 0, .int 0, .int 0, .int 0, .ref q1, .ref q3, .ref q5, .ref q6, .ref q8])), (q6, .inl (cA7, 8, .inr (.inr (.inr (.inr (va_up (va_up (fun _ => none) 0 (some q11)) 1 (some q19))))))), (q27, .inr (2, [.int 0, .int 0, .int 0, .ref a28, .ref a29, .ref a30, .ref a31]))] H := hP
  have hD : va_D A [(h0, .inr (1, [.int 0, .int 0, .int 0, .int 0, .ref q1, .ref q3, .ref q5, .ref q6, .ref q8])), (q6, .inl (cA7, 8, .inr (.inr (.inr (.inr (va_up (va_up (fun _ => none) 0 (some q11)) 1 (some q19))))))), (q27, .inr (2, [.int 0, .int 0, .int 0, .ref a28, .ref a29, .ref a30, .ref a31]))] := hD
  have hK : va_K (dC, dI) vwCl [(cA7, .object RX2)] s := hK
  refine W.widen (k := 26) (n := 167) (Nat.le_of_ble_eq_true rfl) (Nat.le_of_ble_eq_true rfl) ?_
  refine va_astq (r := (RX2, TX2, 7)) hx hb hK hP hD hS 1 0 2 2 rfl rfl rfl rfl (by unfold vp_in; decide) dX1_init_89 (fun H locs hP hD hS => ?_)
  have hP : va_P (dC, dI) vwCl [(h0, .inr (1, [.int 0, .int 0, .int 0, .int 0, .ref q1, .ref q3, .ref q5, .ref q6, .ref q8])), (q6, .inl (cA7, 8, .inr (.inr (.inr (.inr (va_up (va_up (va_up (fun _ => none) 0 (some q11)) 1 (some q19)) 2 (some q27))))))), (q27, .inr (2, [.int 0, .int 0, .int 0, .ref a28, .ref a29, .ref a30, .ref a31]))] H := hP
  have hD : va_D A [(h0, .inr (1, [.int 0, .int 0, .int 0, .int 0, .ref q1, .ref q3, .ref q5, .ref q6, .ref q8])), (q6, .inl (cA7, 8, .inr (.inr (.inr (.inr (va_up (va_up (va_up (fun _ => none) 0 (some q11)) 1 (some q19)) 2 (some q27))))))), (q27, .inr (2, [.int 0, .int 0, .int 0, .ref a28, .ref a29, .ref a30, .ref a31]))] := hD
  have hP := hP.sub (ws' := [(h0, .inr (1, [.int 0, .int 0, .int 0, .int 0, .ref q1, .ref q3, .ref q5, .ref q6, .ref q8])), (q6, .inl (cA7, 8, .inr (.inr (.inr (.inr (va_up (va_up (va_up (fun _ => none) 0 (some q11)) 1 (some q19)) 2 (some q27)))))))]) [0, 1] rfl
  have hD := hD.sub (ws' := [(h0, .inr (1, [.int 0, .int 0, .int 0, .int 0, .ref q1, .ref q3, .ref q5, .ref q6, .ref q8])), (q6, .inl (cA7, 8, .inr (.inr (.inr (.inr (va_up (va_up (va_up (fun _ => none) 0 (some q11)) 1 (some q19)) 2 (some q27)))))))]) [0, 1] (by decide) rfl
  refine lv_iinc (v := 3) (lv' := [(1, .int 3), (0, .ref h0)]) hx hb dX1_init_90 hl (k := 0) rfl (by decide) (by decide) rfl (fun ls hl => ?_)
  refine lv_goto (tgt := 71) hx hb dX1_init_93 (by decide) ?_
  refine lv_iload_n hx hb dX1_init_71 rfl (lv_at hl 0 rfl) ?_
  refine lv_bipush (v := 8) hx hb dX1_init_72 (by decide) ?_
  refine lv_icmp_ge (tgt := 96) hx hb dX1_init_74 (by decide) (fun c_34 => absurd c_34 (by decide)) (fun _ => ?_)
  refine lv_aload_n hx hb dX1_init_77 rfl (lv_at hl 1 rfl) ?_
  refine va_get (D := (dC, dI)) (ci := 1) (v := .ref q6) (C := RX1) (T := TX1) (N := 9) hx hb hts hi1 hown hK hP 0 rfl rfl 7 (by decide) (hts (.fieldLink RX1 39 "CrateHelpers$Problem" "rules" "[LCrateHelpers$Rule;") (by decide +kernel)) (fun _ h9 => h9) rfl dX1_init_78 ?_
  refine lv_iload_n hx hb dX1_init_81 rfl (lv_at hl 0 rfl) ?_
  refine va_new (ci := 2) (fs := [.int 0, .int 0, .int 0, .null, .null, .null, .null]) (C := RX2) (T := TX2) (N := 7) hx hb hts hi2 tyX2 tyX2_ok hown (hts (.classLink RX1 37 RX2) (by decide +kernel)) (hts (.instantiable RX2 7) (by decide +kernel)) (hts (.initialized RX2) (by decide +kernel)) hK hP hD hS hA rfl (by decide +kernel) (Nat.le_of_ble_eq_true rfl) (Nat.le_of_ble_eq_true rfl) dX1_init_82 (fun q35 H hP hD hS => ?_)
  have hP : va_P (dC, dI) vwCl [(h0, .inr (1, [.int 0, .int 0, .int 0, .int 0, .ref q1, .ref q3, .ref q5, .ref q6, .ref q8])), (q6, .inl (cA7, 8, .inr (.inr (.inr (.inr (va_up (va_up (va_up (fun _ => none) 0 (some q11)) 1 (some q19)) 2 (some q27))))))), (q35, .inr (2, [.int 0, .int 0, .int 0, .null, .null, .null, .null]))] H := hP
  have hD : va_D A [(h0, .inr (1, [.int 0, .int 0, .int 0, .int 0, .ref q1, .ref q3, .ref q5, .ref q6, .ref q8])), (q6, .inl (cA7, 8, .inr (.inr (.inr (.inr (va_up (va_up (va_up (fun _ => none) 0 (some q11)) 1 (some q19)) 2 (some q27))))))), (q35, .inr (2, [.int 0, .int 0, .int 0, .null, .null, .null, .null]))] := hD
  refine W.widen (k := 27) (n := 174) (Nat.le_of_ble_eq_true rfl) (Nat.le_of_ble_eq_true rfl) ?_
  refine lv_dup hx hb dX1_init_85 rfl ?_
  have hPc := hP.sub (ws' := [(q35, .inr (2, [.int 0, .int 0, .int 0, .null, .null, .null, .null]))]) [2] rfl
  have hDc := hD.sub (ws' := [(q35, .inr (2, [.int 0, .int 0, .int 0, .null, .null, .null, .null]))]) [2] (by decide) rfl
  have hKc := hK.sub (tys' := []) [] rfl
  have hFc := va_free (wc := [(q35, .inr (2, [.int 0, .int 0, .int 0, .null, .null, .null, .null]))]) hD hS hA [2] rfl
  refine va_callv (va_runIN (As := []) (rest := [.ref q35, .int 3, .ref q6]) ⟨hx, hb, hml, hown, hts⟩ (c_X2_init l dC dI H.size q35) (⟨va_cnB 0 hts gX1_init_X2_init_n46 rfl rfl rfl hN.2.2.1 (hts (.initialized RX2) (by decide +kernel)) (by decide +kernel) ⟨Nat.le_of_ble_eq_true rfl, Nat.le_of_ble_eq_true rfl⟩, rfl, hts (.instanceMethod yX2_init) (by decide +kernel)⟩) ⟨fun a U g mk q => by obtain ⟨q0, q1, qP, qK, qD⟩ := q; exact ⟨q0, q1, qP, va_K.moved (u := U) (U := U.calling g mk a) (Vm.Alike.refl U.vm) qK, qD⟩, fun U hU hW => ⟨rfl, by rw [hU], by rw [hU]; exact hPc, va_K.moved hW.alike hKc, hDc.weaken (fun _ _ _ _ => trivial)⟩⟩ rfl rfl hl.1 rfl (lv_room (Nat.le_of_ble_eq_true rfl)) dX1_init_86 ⟨Nat.le_of_ble_eq_true rfl, Nat.le_of_ble_eq_true rfl⟩) hS (fun q _ h => hFc q h) hFc (fun u41 t H1 locs ht hvm hw hB hz1 hk1 hS => ?_)
  obtain ⟨a36, a37, a38, a39, hP1, hK1, hD1⟩ := hB
  rw [ht] at hP1
  have hK1 := va_K.moved hvm.symm hK1
  try dsimp only at hw
  obtain ⟨hP, hD⟩ := va_join (wr := [(h0, .inr (1, [.int 0, .int 0, .int 0, .int 0, .ref q1, .ref q3, .ref q5, .ref q6, .ref q8])), (q6, .inl (cA7, 8, .inr (.inr (.inr (.inr (va_up (va_up (va_up (fun _ => none) 0 (some q11)) 1 (some q19)) 2 (some q27)))))))]) (w1 := [(q35, .inr (2, [.int 0, .int 0, .int 0, .ref a36, .ref a37, .ref a38, .ref a39]))]) hP hD [2] [0, 1] rfl rfl (by decide) (by decide) hk1 hFc hP1 hD1
  have hK := (hK.sub (tys' := [(cA7, .object RX2)]) [0] rfl).app hK1
  generalize H1 = H at hP hS ⊢
  have hP : va_P (dC, dI) vwCl [(h0, .inr (1, [.int 0, .int 0, .int 0, .int 0, .ref q1, .ref q3, .ref q5, .ref q6, .ref q8])), (q6, .inl (cA7, 8, .inr (.inr (.inr (.inr (va_up (va_up (va_up (fun _ => none) 0 (some q11)) 1 (some q19)) 2 (some q27))))))), (q35, .inr (2, [.int 0, .int 0, .int 0, .ref a36, .ref a37, .ref a38, .ref a39]))] H := hP
  have hD : va_D A [(h0, .inr (1, [.int 0, .int 0, .int 0, .int 0, .ref q1, .ref q3, .ref q5, .ref q6, .ref q8])), (q6, .inl (cA7, 8, .inr (.inr (.inr (.inr (va_up (va_up (va_up (fun _ => none) 0 (some q11)) 1 (some q19)) 2 (some q27))))))), (q35, .inr (2, [.int 0, .int 0, .int 0, .ref a36, .ref a37, .ref a38, .ref a39]))] := hD
  have hK : va_K (dC, dI) vwCl [(cA7, .object RX2)] s := hK
  refine W.widen (k := 31) (n := 198) (Nat.le_of_ble_eq_true rfl) (Nat.le_of_ble_eq_true rfl) ?_
  refine va_astq (r := (RX2, TX2, 7)) hx hb hK hP hD hS 1 0 2 2 rfl rfl rfl rfl (by unfold vp_in; decide) dX1_init_89 (fun H locs hP hD hS => ?_)
  have hP : va_P (dC, dI) vwCl [(h0, .inr (1, [.int 0, .int 0, .int 0, .int 0, .ref q1, .ref q3, .ref q5, .ref q6, .ref q8])), (q6, .inl (cA7, 8, .inr (.inr (.inr (.inr (va_up (va_up (va_up (va_up (fun _ => none) 0 (some q11)) 1 (some q19)) 2 (some q27)) 3 (some q35))))))), (q35, .inr (2, [.int 0, .int 0, .int 0, .ref a36, .ref a37, .ref a38, .ref a39]))] H := hP
  have hD : va_D A [(h0, .inr (1, [.int 0, .int 0, .int 0, .int 0, .ref q1, .ref q3, .ref q5, .ref q6, .ref q8])), (q6, .inl (cA7, 8, .inr (.inr (.inr (.inr (va_up (va_up (va_up (va_up (fun _ => none) 0 (some q11)) 1 (some q19)) 2 (some q27)) 3 (some q35))))))), (q35, .inr (2, [.int 0, .int 0, .int 0, .ref a36, .ref a37, .ref a38, .ref a39]))] := hD
  have hP := hP.sub (ws' := [(h0, .inr (1, [.int 0, .int 0, .int 0, .int 0, .ref q1, .ref q3, .ref q5, .ref q6, .ref q8])), (q6, .inl (cA7, 8, .inr (.inr (.inr (.inr (va_up (va_up (va_up (va_up (fun _ => none) 0 (some q11)) 1 (some q19)) 2 (some q27)) 3 (some q35)))))))]) [0, 1] rfl
  have hD := hD.sub (ws' := [(h0, .inr (1, [.int 0, .int 0, .int 0, .int 0, .ref q1, .ref q3, .ref q5, .ref q6, .ref q8])), (q6, .inl (cA7, 8, .inr (.inr (.inr (.inr (va_up (va_up (va_up (va_up (fun _ => none) 0 (some q11)) 1 (some q19)) 2 (some q27)) 3 (some q35)))))))]) [0, 1] (by decide) rfl
  refine lv_iinc (v := 4) (lv' := [(1, .int 4), (0, .ref h0)]) hx hb dX1_init_90 hl (k := 0) rfl (by decide) (by decide) rfl (fun ls hl => ?_)
  refine lv_goto (tgt := 71) hx hb dX1_init_93 (by decide) ?_
  refine lv_iload_n hx hb dX1_init_71 rfl (lv_at hl 0 rfl) ?_
  refine lv_bipush (v := 8) hx hb dX1_init_72 (by decide) ?_
  refine lv_icmp_ge (tgt := 96) hx hb dX1_init_74 (by decide) (fun c_42 => absurd c_42 (by decide)) (fun _ => ?_)
  refine lv_aload_n hx hb dX1_init_77 rfl (lv_at hl 1 rfl) ?_
  refine va_get (D := (dC, dI)) (ci := 1) (v := .ref q6) (C := RX1) (T := TX1) (N := 9) hx hb hts hi1 hown hK hP 0 rfl rfl 7 (by decide) (hts (.fieldLink RX1 39 "CrateHelpers$Problem" "rules" "[LCrateHelpers$Rule;") (by decide +kernel)) (fun _ h9 => h9) rfl dX1_init_78 ?_
  refine lv_iload_n hx hb dX1_init_81 rfl (lv_at hl 0 rfl) ?_
  refine va_new (ci := 2) (fs := [.int 0, .int 0, .int 0, .null, .null, .null, .null]) (C := RX2) (T := TX2) (N := 7) hx hb hts hi2 tyX2 tyX2_ok hown (hts (.classLink RX1 37 RX2) (by decide +kernel)) (hts (.instantiable RX2 7) (by decide +kernel)) (hts (.initialized RX2) (by decide +kernel)) hK hP hD hS hA rfl (by decide +kernel) (Nat.le_of_ble_eq_true rfl) (Nat.le_of_ble_eq_true rfl) dX1_init_82 (fun q43 H hP hD hS => ?_)
  have hP : va_P (dC, dI) vwCl [(h0, .inr (1, [.int 0, .int 0, .int 0, .int 0, .ref q1, .ref q3, .ref q5, .ref q6, .ref q8])), (q6, .inl (cA7, 8, .inr (.inr (.inr (.inr (va_up (va_up (va_up (va_up (fun _ => none) 0 (some q11)) 1 (some q19)) 2 (some q27)) 3 (some q35))))))), (q43, .inr (2, [.int 0, .int 0, .int 0, .null, .null, .null, .null]))] H := hP
  have hD : va_D A [(h0, .inr (1, [.int 0, .int 0, .int 0, .int 0, .ref q1, .ref q3, .ref q5, .ref q6, .ref q8])), (q6, .inl (cA7, 8, .inr (.inr (.inr (.inr (va_up (va_up (va_up (va_up (fun _ => none) 0 (some q11)) 1 (some q19)) 2 (some q27)) 3 (some q35))))))), (q43, .inr (2, [.int 0, .int 0, .int 0, .null, .null, .null, .null]))] := hD
  refine W.widen (k := 32) (n := 205) (Nat.le_of_ble_eq_true rfl) (Nat.le_of_ble_eq_true rfl) ?_
  refine lv_dup hx hb dX1_init_85 rfl ?_
  have hPc := hP.sub (ws' := [(q43, .inr (2, [.int 0, .int 0, .int 0, .null, .null, .null, .null]))]) [2] rfl
  have hDc := hD.sub (ws' := [(q43, .inr (2, [.int 0, .int 0, .int 0, .null, .null, .null, .null]))]) [2] (by decide) rfl
  have hKc := hK.sub (tys' := []) [] rfl
  have hFc := va_free (wc := [(q43, .inr (2, [.int 0, .int 0, .int 0, .null, .null, .null, .null]))]) hD hS hA [2] rfl
  refine va_callv (va_runIN (As := []) (rest := [.ref q43, .int 4, .ref q6]) ⟨hx, hb, hml, hown, hts⟩ (c_X2_init l dC dI H.size q43) (⟨va_cnB 0 hts gX1_init_X2_init_n46 rfl rfl rfl hN.2.2.1 (hts (.initialized RX2) (by decide +kernel)) (by decide +kernel) ⟨Nat.le_of_ble_eq_true rfl, Nat.le_of_ble_eq_true rfl⟩, rfl, hts (.instanceMethod yX2_init) (by decide +kernel)⟩) ⟨fun a U g mk q => by obtain ⟨q0, q1, qP, qK, qD⟩ := q; exact ⟨q0, q1, qP, va_K.moved (u := U) (U := U.calling g mk a) (Vm.Alike.refl U.vm) qK, qD⟩, fun U hU hW => ⟨rfl, by rw [hU], by rw [hU]; exact hPc, va_K.moved hW.alike hKc, hDc.weaken (fun _ _ _ _ => trivial)⟩⟩ rfl rfl hl.1 rfl (lv_room (Nat.le_of_ble_eq_true rfl)) dX1_init_86 ⟨Nat.le_of_ble_eq_true rfl, Nat.le_of_ble_eq_true rfl⟩) hS (fun q _ h => hFc q h) hFc (fun u49 t H1 locs ht hvm hw hB hz1 hk1 hS => ?_)
  obtain ⟨a44, a45, a46, a47, hP1, hK1, hD1⟩ := hB
  rw [ht] at hP1
  have hK1 := va_K.moved hvm.symm hK1
  try dsimp only at hw
  obtain ⟨hP, hD⟩ := va_join (wr := [(h0, .inr (1, [.int 0, .int 0, .int 0, .int 0, .ref q1, .ref q3, .ref q5, .ref q6, .ref q8])), (q6, .inl (cA7, 8, .inr (.inr (.inr (.inr (va_up (va_up (va_up (va_up (fun _ => none) 0 (some q11)) 1 (some q19)) 2 (some q27)) 3 (some q35)))))))]) (w1 := [(q43, .inr (2, [.int 0, .int 0, .int 0, .ref a44, .ref a45, .ref a46, .ref a47]))]) hP hD [2] [0, 1] rfl rfl (by decide) (by decide) hk1 hFc hP1 hD1
  have hK := (hK.sub (tys' := [(cA7, .object RX2)]) [0] rfl).app hK1
  generalize H1 = H at hP hS ⊢
  have hP : va_P (dC, dI) vwCl [(h0, .inr (1, [.int 0, .int 0, .int 0, .int 0, .ref q1, .ref q3, .ref q5, .ref q6, .ref q8])), (q6, .inl (cA7, 8, .inr (.inr (.inr (.inr (va_up (va_up (va_up (va_up (fun _ => none) 0 (some q11)) 1 (some q19)) 2 (some q27)) 3 (some q35))))))), (q43, .inr (2, [.int 0, .int 0, .int 0, .ref a44, .ref a45, .ref a46, .ref a47]))] H := hP
  have hD : va_D A [(h0, .inr (1, [.int 0, .int 0, .int 0, .int 0, .ref q1, .ref q3, .ref q5, .ref q6, .ref q8])), (q6, .inl (cA7, 8, .inr (.inr (.inr (.inr (va_up (va_up (va_up (va_up (fun _ => none) 0 (some q11)) 1 (some q19)) 2 (some q27)) 3 (some q35))))))), (q43, .inr (2, [.int 0, .int 0, .int 0, .ref a44, .ref a45, .ref a46, .ref a47]))] := hD
  have hK : va_K (dC, dI) vwCl [(cA7, .object RX2)] s := hK
  refine W.widen (k := 36) (n := 229) (Nat.le_of_ble_eq_true rfl) (Nat.le_of_ble_eq_true rfl) ?_
  refine va_astq (r := (RX2, TX2, 7)) hx hb hK hP hD hS 1 0 2 2 rfl rfl rfl rfl (by unfold vp_in; decide) dX1_init_89 (fun H locs hP hD hS => ?_)
  have hP : va_P (dC, dI) vwCl [(h0, .inr (1, [.int 0, .int 0, .int 0, .int 0, .ref q1, .ref q3, .ref q5, .ref q6, .ref q8])), (q6, .inl (cA7, 8, .inr (.inr (.inr (.inr (va_up (va_up (va_up (va_up (va_up (fun _ => none) 0 (some q11)) 1 (some q19)) 2 (some q27)) 3 (some q35)) 4 (some q43))))))), (q43, .inr (2, [.int 0, .int 0, .int 0, .ref a44, .ref a45, .ref a46, .ref a47]))] H := hP
  have hD : va_D A [(h0, .inr (1, [.int 0, .int 0, .int 0, .int 0, .ref q1, .ref q3, .ref q5, .ref q6, .ref q8])), (q6, .inl (cA7, 8, .inr (.inr (.inr (.inr (va_up (va_up (va_up (va_up (va_up (fun _ => none) 0 (some q11)) 1 (some q19)) 2 (some q27)) 3 (some q35)) 4 (some q43))))))), (q43, .inr (2, [.int 0, .int 0, .int 0, .ref a44, .ref a45, .ref a46, .ref a47]))] := hD
  have hP := hP.sub (ws' := [(h0, .inr (1, [.int 0, .int 0, .int 0, .int 0, .ref q1, .ref q3, .ref q5, .ref q6, .ref q8])), (q6, .inl (cA7, 8, .inr (.inr (.inr (.inr (va_up (va_up (va_up (va_up (va_up (fun _ => none) 0 (some q11)) 1 (some q19)) 2 (some q27)) 3 (some q35)) 4 (some q43)))))))]) [0, 1] rfl
  have hD := hD.sub (ws' := [(h0, .inr (1, [.int 0, .int 0, .int 0, .int 0, .ref q1, .ref q3, .ref q5, .ref q6, .ref q8])), (q6, .inl (cA7, 8, .inr (.inr (.inr (.inr (va_up (va_up (va_up (va_up (va_up (fun _ => none) 0 (some q11)) 1 (some q19)) 2 (some q27)) 3 (some q35)) 4 (some q43)))))))]) [0, 1] (by decide) rfl
  refine lv_iinc (v := 5) (lv' := [(1, .int 5), (0, .ref h0)]) hx hb dX1_init_90 hl (k := 0) rfl (by decide) (by decide) rfl (fun ls hl => ?_)
  refine lv_goto (tgt := 71) hx hb dX1_init_93 (by decide) ?_
  refine lv_iload_n hx hb dX1_init_71 rfl (lv_at hl 0 rfl) ?_
  refine lv_bipush (v := 8) hx hb dX1_init_72 (by decide) ?_
  refine lv_icmp_ge (tgt := 96) hx hb dX1_init_74 (by decide) (fun c_50 => absurd c_50 (by decide)) (fun _ => ?_)
  refine lv_aload_n hx hb dX1_init_77 rfl (lv_at hl 1 rfl) ?_
  refine va_get (D := (dC, dI)) (ci := 1) (v := .ref q6) (C := RX1) (T := TX1) (N := 9) hx hb hts hi1 hown hK hP 0 rfl rfl 7 (by decide) (hts (.fieldLink RX1 39 "CrateHelpers$Problem" "rules" "[LCrateHelpers$Rule;") (by decide +kernel)) (fun _ h9 => h9) rfl dX1_init_78 ?_
  refine lv_iload_n hx hb dX1_init_81 rfl (lv_at hl 0 rfl) ?_
  refine va_new (ci := 2) (fs := [.int 0, .int 0, .int 0, .null, .null, .null, .null]) (C := RX2) (T := TX2) (N := 7) hx hb hts hi2 tyX2 tyX2_ok hown (hts (.classLink RX1 37 RX2) (by decide +kernel)) (hts (.instantiable RX2 7) (by decide +kernel)) (hts (.initialized RX2) (by decide +kernel)) hK hP hD hS hA rfl (by decide +kernel) (Nat.le_of_ble_eq_true rfl) (Nat.le_of_ble_eq_true rfl) dX1_init_82 (fun q51 H hP hD hS => ?_)
  have hP : va_P (dC, dI) vwCl [(h0, .inr (1, [.int 0, .int 0, .int 0, .int 0, .ref q1, .ref q3, .ref q5, .ref q6, .ref q8])), (q6, .inl (cA7, 8, .inr (.inr (.inr (.inr (va_up (va_up (va_up (va_up (va_up (fun _ => none) 0 (some q11)) 1 (some q19)) 2 (some q27)) 3 (some q35)) 4 (some q43))))))), (q51, .inr (2, [.int 0, .int 0, .int 0, .null, .null, .null, .null]))] H := hP
  have hD : va_D A [(h0, .inr (1, [.int 0, .int 0, .int 0, .int 0, .ref q1, .ref q3, .ref q5, .ref q6, .ref q8])), (q6, .inl (cA7, 8, .inr (.inr (.inr (.inr (va_up (va_up (va_up (va_up (va_up (fun _ => none) 0 (some q11)) 1 (some q19)) 2 (some q27)) 3 (some q35)) 4 (some q43))))))), (q51, .inr (2, [.int 0, .int 0, .int 0, .null, .null, .null, .null]))] := hD
  refine W.widen (k := 37) (n := 236) (Nat.le_of_ble_eq_true rfl) (Nat.le_of_ble_eq_true rfl) ?_
  refine lv_dup hx hb dX1_init_85 rfl ?_
  have hPc := hP.sub (ws' := [(q51, .inr (2, [.int 0, .int 0, .int 0, .null, .null, .null, .null]))]) [2] rfl
  have hDc := hD.sub (ws' := [(q51, .inr (2, [.int 0, .int 0, .int 0, .null, .null, .null, .null]))]) [2] (by decide) rfl
  have hKc := hK.sub (tys' := []) [] rfl
  have hFc := va_free (wc := [(q51, .inr (2, [.int 0, .int 0, .int 0, .null, .null, .null, .null]))]) hD hS hA [2] rfl
  refine va_callv (va_runIN (As := []) (rest := [.ref q51, .int 5, .ref q6]) ⟨hx, hb, hml, hown, hts⟩ (c_X2_init l dC dI H.size q51) (⟨va_cnB 0 hts gX1_init_X2_init_n46 rfl rfl rfl hN.2.2.1 (hts (.initialized RX2) (by decide +kernel)) (by decide +kernel) ⟨Nat.le_of_ble_eq_true rfl, Nat.le_of_ble_eq_true rfl⟩, rfl, hts (.instanceMethod yX2_init) (by decide +kernel)⟩) ⟨fun a U g mk q => by obtain ⟨q0, q1, qP, qK, qD⟩ := q; exact ⟨q0, q1, qP, va_K.moved (u := U) (U := U.calling g mk a) (Vm.Alike.refl U.vm) qK, qD⟩, fun U hU hW => ⟨rfl, by rw [hU], by rw [hU]; exact hPc, va_K.moved hW.alike hKc, hDc.weaken (fun _ _ _ _ => trivial)⟩⟩ rfl rfl hl.1 rfl (lv_room (Nat.le_of_ble_eq_true rfl)) dX1_init_86 ⟨Nat.le_of_ble_eq_true rfl, Nat.le_of_ble_eq_true rfl⟩) hS (fun q _ h => hFc q h) hFc (fun u57 t H1 locs ht hvm hw hB hz1 hk1 hS => ?_)
  obtain ⟨a52, a53, a54, a55, hP1, hK1, hD1⟩ := hB
  rw [ht] at hP1
  have hK1 := va_K.moved hvm.symm hK1
  try dsimp only at hw
  obtain ⟨hP, hD⟩ := va_join (wr := [(h0, .inr (1, [.int 0, .int 0, .int 0, .int 0, .ref q1, .ref q3, .ref q5, .ref q6, .ref q8])), (q6, .inl (cA7, 8, .inr (.inr (.inr (.inr (va_up (va_up (va_up (va_up (va_up (fun _ => none) 0 (some q11)) 1 (some q19)) 2 (some q27)) 3 (some q35)) 4 (some q43)))))))]) (w1 := [(q51, .inr (2, [.int 0, .int 0, .int 0, .ref a52, .ref a53, .ref a54, .ref a55]))]) hP hD [2] [0, 1] rfl rfl (by decide) (by decide) hk1 hFc hP1 hD1
  have hK := (hK.sub (tys' := [(cA7, .object RX2)]) [0] rfl).app hK1
  generalize H1 = H at hP hS ⊢
  have hP : va_P (dC, dI) vwCl [(h0, .inr (1, [.int 0, .int 0, .int 0, .int 0, .ref q1, .ref q3, .ref q5, .ref q6, .ref q8])), (q6, .inl (cA7, 8, .inr (.inr (.inr (.inr (va_up (va_up (va_up (va_up (va_up (fun _ => none) 0 (some q11)) 1 (some q19)) 2 (some q27)) 3 (some q35)) 4 (some q43))))))), (q51, .inr (2, [.int 0, .int 0, .int 0, .ref a52, .ref a53, .ref a54, .ref a55]))] H := hP
  have hD : va_D A [(h0, .inr (1, [.int 0, .int 0, .int 0, .int 0, .ref q1, .ref q3, .ref q5, .ref q6, .ref q8])), (q6, .inl (cA7, 8, .inr (.inr (.inr (.inr (va_up (va_up (va_up (va_up (va_up (fun _ => none) 0 (some q11)) 1 (some q19)) 2 (some q27)) 3 (some q35)) 4 (some q43))))))), (q51, .inr (2, [.int 0, .int 0, .int 0, .ref a52, .ref a53, .ref a54, .ref a55]))] := hD
  have hK : va_K (dC, dI) vwCl [(cA7, .object RX2)] s := hK
  refine W.widen (k := 41) (n := 260) (Nat.le_of_ble_eq_true rfl) (Nat.le_of_ble_eq_true rfl) ?_
  refine va_astq (r := (RX2, TX2, 7)) hx hb hK hP hD hS 1 0 2 2 rfl rfl rfl rfl (by unfold vp_in; decide) dX1_init_89 (fun H locs hP hD hS => ?_)
  have hP : va_P (dC, dI) vwCl [(h0, .inr (1, [.int 0, .int 0, .int 0, .int 0, .ref q1, .ref q3, .ref q5, .ref q6, .ref q8])), (q6, .inl (cA7, 8, .inr (.inr (.inr (.inr (va_up (va_up (va_up (va_up (va_up (va_up (fun _ => none) 0 (some q11)) 1 (some q19)) 2 (some q27)) 3 (some q35)) 4 (some q43)) 5 (some q51))))))), (q51, .inr (2, [.int 0, .int 0, .int 0, .ref a52, .ref a53, .ref a54, .ref a55]))] H := hP
  have hD : va_D A [(h0, .inr (1, [.int 0, .int 0, .int 0, .int 0, .ref q1, .ref q3, .ref q5, .ref q6, .ref q8])), (q6, .inl (cA7, 8, .inr (.inr (.inr (.inr (va_up (va_up (va_up (va_up (va_up (va_up (fun _ => none) 0 (some q11)) 1 (some q19)) 2 (some q27)) 3 (some q35)) 4 (some q43)) 5 (some q51))))))), (q51, .inr (2, [.int 0, .int 0, .int 0, .ref a52, .ref a53, .ref a54, .ref a55]))] := hD
  have hP := hP.sub (ws' := [(h0, .inr (1, [.int 0, .int 0, .int 0, .int 0, .ref q1, .ref q3, .ref q5, .ref q6, .ref q8])), (q6, .inl (cA7, 8, .inr (.inr (.inr (.inr (va_up (va_up (va_up (va_up (va_up (va_up (fun _ => none) 0 (some q11)) 1 (some q19)) 2 (some q27)) 3 (some q35)) 4 (some q43)) 5 (some q51)))))))]) [0, 1] rfl
  have hD := hD.sub (ws' := [(h0, .inr (1, [.int 0, .int 0, .int 0, .int 0, .ref q1, .ref q3, .ref q5, .ref q6, .ref q8])), (q6, .inl (cA7, 8, .inr (.inr (.inr (.inr (va_up (va_up (va_up (va_up (va_up (va_up (fun _ => none) 0 (some q11)) 1 (some q19)) 2 (some q27)) 3 (some q35)) 4 (some q43)) 5 (some q51)))))))]) [0, 1] (by decide) rfl
  refine lv_iinc (v := 6) (lv' := [(1, .int 6), (0, .ref h0)]) hx hb dX1_init_90 hl (k := 0) rfl (by decide) (by decide) rfl (fun ls hl => ?_)
  refine lv_goto (tgt := 71) hx hb dX1_init_93 (by decide) ?_
  refine lv_iload_n hx hb dX1_init_71 rfl (lv_at hl 0 rfl) ?_
  refine lv_bipush (v := 8) hx hb dX1_init_72 (by decide) ?_
  refine lv_icmp_ge (tgt := 96) hx hb dX1_init_74 (by decide) (fun c_58 => absurd c_58 (by decide)) (fun _ => ?_)
  refine lv_aload_n hx hb dX1_init_77 rfl (lv_at hl 1 rfl) ?_
  refine va_get (D := (dC, dI)) (ci := 1) (v := .ref q6) (C := RX1) (T := TX1) (N := 9) hx hb hts hi1 hown hK hP 0 rfl rfl 7 (by decide) (hts (.fieldLink RX1 39 "CrateHelpers$Problem" "rules" "[LCrateHelpers$Rule;") (by decide +kernel)) (fun _ h9 => h9) rfl dX1_init_78 ?_
  refine lv_iload_n hx hb dX1_init_81 rfl (lv_at hl 0 rfl) ?_
  refine va_new (ci := 2) (fs := [.int 0, .int 0, .int 0, .null, .null, .null, .null]) (C := RX2) (T := TX2) (N := 7) hx hb hts hi2 tyX2 tyX2_ok hown (hts (.classLink RX1 37 RX2) (by decide +kernel)) (hts (.instantiable RX2 7) (by decide +kernel)) (hts (.initialized RX2) (by decide +kernel)) hK hP hD hS hA rfl (by decide +kernel) (Nat.le_of_ble_eq_true rfl) (Nat.le_of_ble_eq_true rfl) dX1_init_82 (fun q59 H hP hD hS => ?_)
  have hP : va_P (dC, dI) vwCl [(h0, .inr (1, [.int 0, .int 0, .int 0, .int 0, .ref q1, .ref q3, .ref q5, .ref q6, .ref q8])), (q6, .inl (cA7, 8, .inr (.inr (.inr (.inr (va_up (va_up (va_up (va_up (va_up (va_up (fun _ => none) 0 (some q11)) 1 (some q19)) 2 (some q27)) 3 (some q35)) 4 (some q43)) 5 (some q51))))))), (q59, .inr (2, [.int 0, .int 0, .int 0, .null, .null, .null, .null]))] H := hP
  have hD : va_D A [(h0, .inr (1, [.int 0, .int 0, .int 0, .int 0, .ref q1, .ref q3, .ref q5, .ref q6, .ref q8])), (q6, .inl (cA7, 8, .inr (.inr (.inr (.inr (va_up (va_up (va_up (va_up (va_up (va_up (fun _ => none) 0 (some q11)) 1 (some q19)) 2 (some q27)) 3 (some q35)) 4 (some q43)) 5 (some q51))))))), (q59, .inr (2, [.int 0, .int 0, .int 0, .null, .null, .null, .null]))] := hD
  refine W.widen (k := 42) (n := 267) (Nat.le_of_ble_eq_true rfl) (Nat.le_of_ble_eq_true rfl) ?_
  refine lv_dup hx hb dX1_init_85 rfl ?_
  have hPc := hP.sub (ws' := [(q59, .inr (2, [.int 0, .int 0, .int 0, .null, .null, .null, .null]))]) [2] rfl
  have hDc := hD.sub (ws' := [(q59, .inr (2, [.int 0, .int 0, .int 0, .null, .null, .null, .null]))]) [2] (by decide) rfl
  have hKc := hK.sub (tys' := []) [] rfl
  have hFc := va_free (wc := [(q59, .inr (2, [.int 0, .int 0, .int 0, .null, .null, .null, .null]))]) hD hS hA [2] rfl
  refine va_callv (va_runIN (As := []) (rest := [.ref q59, .int 6, .ref q6]) ⟨hx, hb, hml, hown, hts⟩ (c_X2_init l dC dI H.size q59) (⟨va_cnB 0 hts gX1_init_X2_init_n46 rfl rfl rfl hN.2.2.1 (hts (.initialized RX2) (by decide +kernel)) (by decide +kernel) ⟨Nat.le_of_ble_eq_true rfl, Nat.le_of_ble_eq_true rfl⟩, rfl, hts (.instanceMethod yX2_init) (by decide +kernel)⟩) ⟨fun a U g mk q => by obtain ⟨q0, q1, qP, qK, qD⟩ := q; exact ⟨q0, q1, qP, va_K.moved (u := U) (U := U.calling g mk a) (Vm.Alike.refl U.vm) qK, qD⟩, fun U hU hW => ⟨rfl, by rw [hU], by rw [hU]; exact hPc, va_K.moved hW.alike hKc, hDc.weaken (fun _ _ _ _ => trivial)⟩⟩ rfl rfl hl.1 rfl (lv_room (Nat.le_of_ble_eq_true rfl)) dX1_init_86 ⟨Nat.le_of_ble_eq_true rfl, Nat.le_of_ble_eq_true rfl⟩) hS (fun q _ h => hFc q h) hFc (fun u65 t H1 locs ht hvm hw hB hz1 hk1 hS => ?_)
  obtain ⟨a60, a61, a62, a63, hP1, hK1, hD1⟩ := hB
  rw [ht] at hP1
  have hK1 := va_K.moved hvm.symm hK1
  try dsimp only at hw
  obtain ⟨hP, hD⟩ := va_join (wr := [(h0, .inr (1, [.int 0, .int 0, .int 0, .int 0, .ref q1, .ref q3, .ref q5, .ref q6, .ref q8])), (q6, .inl (cA7, 8, .inr (.inr (.inr (.inr (va_up (va_up (va_up (va_up (va_up (va_up (fun _ => none) 0 (some q11)) 1 (some q19)) 2 (some q27)) 3 (some q35)) 4 (some q43)) 5 (some q51)))))))]) (w1 := [(q59, .inr (2, [.int 0, .int 0, .int 0, .ref a60, .ref a61, .ref a62, .ref a63]))]) hP hD [2] [0, 1] rfl rfl (by decide) (by decide) hk1 hFc hP1 hD1
  have hK := (hK.sub (tys' := [(cA7, .object RX2)]) [0] rfl).app hK1
  generalize H1 = H at hP hS ⊢
  have hP : va_P (dC, dI) vwCl [(h0, .inr (1, [.int 0, .int 0, .int 0, .int 0, .ref q1, .ref q3, .ref q5, .ref q6, .ref q8])), (q6, .inl (cA7, 8, .inr (.inr (.inr (.inr (va_up (va_up (va_up (va_up (va_up (va_up (fun _ => none) 0 (some q11)) 1 (some q19)) 2 (some q27)) 3 (some q35)) 4 (some q43)) 5 (some q51))))))), (q59, .inr (2, [.int 0, .int 0, .int 0, .ref a60, .ref a61, .ref a62, .ref a63]))] H := hP
  have hD : va_D A [(h0, .inr (1, [.int 0, .int 0, .int 0, .int 0, .ref q1, .ref q3, .ref q5, .ref q6, .ref q8])), (q6, .inl (cA7, 8, .inr (.inr (.inr (.inr (va_up (va_up (va_up (va_up (va_up (va_up (fun _ => none) 0 (some q11)) 1 (some q19)) 2 (some q27)) 3 (some q35)) 4 (some q43)) 5 (some q51))))))), (q59, .inr (2, [.int 0, .int 0, .int 0, .ref a60, .ref a61, .ref a62, .ref a63]))] := hD
  have hK : va_K (dC, dI) vwCl [(cA7, .object RX2)] s := hK
  refine W.widen (k := 46) (n := 291) (Nat.le_of_ble_eq_true rfl) (Nat.le_of_ble_eq_true rfl) ?_
  refine va_astq (r := (RX2, TX2, 7)) hx hb hK hP hD hS 1 0 2 2 rfl rfl rfl rfl (by unfold vp_in; decide) dX1_init_89 (fun H locs hP hD hS => ?_)
  have hP : va_P (dC, dI) vwCl [(h0, .inr (1, [.int 0, .int 0, .int 0, .int 0, .ref q1, .ref q3, .ref q5, .ref q6, .ref q8])), (q6, .inl (cA7, 8, .inr (.inr (.inr (.inr (va_up (va_up (va_up (va_up (va_up (va_up (va_up (fun _ => none) 0 (some q11)) 1 (some q19)) 2 (some q27)) 3 (some q35)) 4 (some q43)) 5 (some q51)) 6 (some q59))))))), (q59, .inr (2, [.int 0, .int 0, .int 0, .ref a60, .ref a61, .ref a62, .ref a63]))] H := hP
  have hD : va_D A [(h0, .inr (1, [.int 0, .int 0, .int 0, .int 0, .ref q1, .ref q3, .ref q5, .ref q6, .ref q8])), (q6, .inl (cA7, 8, .inr (.inr (.inr (.inr (va_up (va_up (va_up (va_up (va_up (va_up (va_up (fun _ => none) 0 (some q11)) 1 (some q19)) 2 (some q27)) 3 (some q35)) 4 (some q43)) 5 (some q51)) 6 (some q59))))))), (q59, .inr (2, [.int 0, .int 0, .int 0, .ref a60, .ref a61, .ref a62, .ref a63]))] := hD
  have hP := hP.sub (ws' := [(h0, .inr (1, [.int 0, .int 0, .int 0, .int 0, .ref q1, .ref q3, .ref q5, .ref q6, .ref q8])), (q6, .inl (cA7, 8, .inr (.inr (.inr (.inr (va_up (va_up (va_up (va_up (va_up (va_up (va_up (fun _ => none) 0 (some q11)) 1 (some q19)) 2 (some q27)) 3 (some q35)) 4 (some q43)) 5 (some q51)) 6 (some q59)))))))]) [0, 1] rfl
  have hD := hD.sub (ws' := [(h0, .inr (1, [.int 0, .int 0, .int 0, .int 0, .ref q1, .ref q3, .ref q5, .ref q6, .ref q8])), (q6, .inl (cA7, 8, .inr (.inr (.inr (.inr (va_up (va_up (va_up (va_up (va_up (va_up (va_up (fun _ => none) 0 (some q11)) 1 (some q19)) 2 (some q27)) 3 (some q35)) 4 (some q43)) 5 (some q51)) 6 (some q59)))))))]) [0, 1] (by decide) rfl
  refine lv_iinc (v := 7) (lv' := [(1, .int 7), (0, .ref h0)]) hx hb dX1_init_90 hl (k := 0) rfl (by decide) (by decide) rfl (fun ls hl => ?_)
  refine lv_goto (tgt := 71) hx hb dX1_init_93 (by decide) ?_
  refine lv_iload_n hx hb dX1_init_71 rfl (lv_at hl 0 rfl) ?_
  refine lv_bipush (v := 8) hx hb dX1_init_72 (by decide) ?_
  refine lv_icmp_ge (tgt := 96) hx hb dX1_init_74 (by decide) (fun c_66 => absurd c_66 (by decide)) (fun _ => ?_)
  refine lv_aload_n hx hb dX1_init_77 rfl (lv_at hl 1 rfl) ?_
  refine va_get (D := (dC, dI)) (ci := 1) (v := .ref q6) (C := RX1) (T := TX1) (N := 9) hx hb hts hi1 hown hK hP 0 rfl rfl 7 (by decide) (hts (.fieldLink RX1 39 "CrateHelpers$Problem" "rules" "[LCrateHelpers$Rule;") (by decide +kernel)) (fun _ h9 => h9) rfl dX1_init_78 ?_
  refine lv_iload_n hx hb dX1_init_81 rfl (lv_at hl 0 rfl) ?_
  refine va_new (ci := 2) (fs := [.int 0, .int 0, .int 0, .null, .null, .null, .null]) (C := RX2) (T := TX2) (N := 7) hx hb hts hi2 tyX2 tyX2_ok hown (hts (.classLink RX1 37 RX2) (by decide +kernel)) (hts (.instantiable RX2 7) (by decide +kernel)) (hts (.initialized RX2) (by decide +kernel)) hK hP hD hS hA rfl (by decide +kernel) (Nat.le_of_ble_eq_true rfl) (Nat.le_of_ble_eq_true rfl) dX1_init_82 (fun q67 H hP hD hS => ?_)
  have hP : va_P (dC, dI) vwCl [(h0, .inr (1, [.int 0, .int 0, .int 0, .int 0, .ref q1, .ref q3, .ref q5, .ref q6, .ref q8])), (q6, .inl (cA7, 8, .inr (.inr (.inr (.inr (va_up (va_up (va_up (va_up (va_up (va_up (va_up (fun _ => none) 0 (some q11)) 1 (some q19)) 2 (some q27)) 3 (some q35)) 4 (some q43)) 5 (some q51)) 6 (some q59))))))), (q67, .inr (2, [.int 0, .int 0, .int 0, .null, .null, .null, .null]))] H := hP
  have hD : va_D A [(h0, .inr (1, [.int 0, .int 0, .int 0, .int 0, .ref q1, .ref q3, .ref q5, .ref q6, .ref q8])), (q6, .inl (cA7, 8, .inr (.inr (.inr (.inr (va_up (va_up (va_up (va_up (va_up (va_up (va_up (fun _ => none) 0 (some q11)) 1 (some q19)) 2 (some q27)) 3 (some q35)) 4 (some q43)) 5 (some q51)) 6 (some q59))))))), (q67, .inr (2, [.int 0, .int 0, .int 0, .null, .null, .null, .null]))] := hD
  refine W.widen (k := 47) (n := 298) (Nat.le_of_ble_eq_true rfl) (Nat.le_of_ble_eq_true rfl) ?_
  refine lv_dup hx hb dX1_init_85 rfl ?_
  have hPc := hP.sub (ws' := [(q67, .inr (2, [.int 0, .int 0, .int 0, .null, .null, .null, .null]))]) [2] rfl
  have hDc := hD.sub (ws' := [(q67, .inr (2, [.int 0, .int 0, .int 0, .null, .null, .null, .null]))]) [2] (by decide) rfl
  have hKc := hK.sub (tys' := []) [] rfl
  have hFc := va_free (wc := [(q67, .inr (2, [.int 0, .int 0, .int 0, .null, .null, .null, .null]))]) hD hS hA [2] rfl
  refine va_callv (va_runIN (As := []) (rest := [.ref q67, .int 7, .ref q6]) ⟨hx, hb, hml, hown, hts⟩ (c_X2_init l dC dI H.size q67) (⟨va_cnB 0 hts gX1_init_X2_init_n46 rfl rfl rfl hN.2.2.1 (hts (.initialized RX2) (by decide +kernel)) (by decide +kernel) ⟨Nat.le_of_ble_eq_true rfl, Nat.le_of_ble_eq_true rfl⟩, rfl, hts (.instanceMethod yX2_init) (by decide +kernel)⟩) ⟨fun a U g mk q => by obtain ⟨q0, q1, qP, qK, qD⟩ := q; exact ⟨q0, q1, qP, va_K.moved (u := U) (U := U.calling g mk a) (Vm.Alike.refl U.vm) qK, qD⟩, fun U hU hW => ⟨rfl, by rw [hU], by rw [hU]; exact hPc, va_K.moved hW.alike hKc, hDc.weaken (fun _ _ _ _ => trivial)⟩⟩ rfl rfl hl.1 rfl (lv_room (Nat.le_of_ble_eq_true rfl)) dX1_init_86 ⟨Nat.le_of_ble_eq_true rfl, Nat.le_of_ble_eq_true rfl⟩) hS (fun q _ h => hFc q h) hFc (fun u73 t H1 locs ht hvm hw hB hz1 hk1 hS => ?_)
  obtain ⟨a68, a69, a70, a71, hP1, hK1, hD1⟩ := hB
  rw [ht] at hP1
  have hK1 := va_K.moved hvm.symm hK1
  try dsimp only at hw
  obtain ⟨hP, hD⟩ := va_join (wr := [(h0, .inr (1, [.int 0, .int 0, .int 0, .int 0, .ref q1, .ref q3, .ref q5, .ref q6, .ref q8])), (q6, .inl (cA7, 8, .inr (.inr (.inr (.inr (va_up (va_up (va_up (va_up (va_up (va_up (va_up (fun _ => none) 0 (some q11)) 1 (some q19)) 2 (some q27)) 3 (some q35)) 4 (some q43)) 5 (some q51)) 6 (some q59)))))))]) (w1 := [(q67, .inr (2, [.int 0, .int 0, .int 0, .ref a68, .ref a69, .ref a70, .ref a71]))]) hP hD [2] [0, 1] rfl rfl (by decide) (by decide) hk1 hFc hP1 hD1
  have hK := (hK.sub (tys' := [(cA7, .object RX2)]) [0] rfl).app hK1
  generalize H1 = H at hP hS ⊢
  have hP : va_P (dC, dI) vwCl [(h0, .inr (1, [.int 0, .int 0, .int 0, .int 0, .ref q1, .ref q3, .ref q5, .ref q6, .ref q8])), (q6, .inl (cA7, 8, .inr (.inr (.inr (.inr (va_up (va_up (va_up (va_up (va_up (va_up (va_up (fun _ => none) 0 (some q11)) 1 (some q19)) 2 (some q27)) 3 (some q35)) 4 (some q43)) 5 (some q51)) 6 (some q59))))))), (q67, .inr (2, [.int 0, .int 0, .int 0, .ref a68, .ref a69, .ref a70, .ref a71]))] H := hP
  have hD : va_D A [(h0, .inr (1, [.int 0, .int 0, .int 0, .int 0, .ref q1, .ref q3, .ref q5, .ref q6, .ref q8])), (q6, .inl (cA7, 8, .inr (.inr (.inr (.inr (va_up (va_up (va_up (va_up (va_up (va_up (va_up (fun _ => none) 0 (some q11)) 1 (some q19)) 2 (some q27)) 3 (some q35)) 4 (some q43)) 5 (some q51)) 6 (some q59))))))), (q67, .inr (2, [.int 0, .int 0, .int 0, .ref a68, .ref a69, .ref a70, .ref a71]))] := hD
  have hK : va_K (dC, dI) vwCl [(cA7, .object RX2)] s := hK
  refine W.widen (k := 51) (n := 322) (Nat.le_of_ble_eq_true rfl) (Nat.le_of_ble_eq_true rfl) ?_
  refine va_astq (r := (RX2, TX2, 7)) hx hb hK hP hD hS 1 0 2 2 rfl rfl rfl rfl (by unfold vp_in; decide) dX1_init_89 (fun H locs hP hD hS => ?_)
  have hP : va_P (dC, dI) vwCl [(h0, .inr (1, [.int 0, .int 0, .int 0, .int 0, .ref q1, .ref q3, .ref q5, .ref q6, .ref q8])), (q6, .inl (cA7, 8, .inr (.inr (.inr (.inr (va_up (va_up (va_up (va_up (va_up (va_up (va_up (va_up (fun _ => none) 0 (some q11)) 1 (some q19)) 2 (some q27)) 3 (some q35)) 4 (some q43)) 5 (some q51)) 6 (some q59)) 7 (some q67))))))), (q67, .inr (2, [.int 0, .int 0, .int 0, .ref a68, .ref a69, .ref a70, .ref a71]))] H := hP
  have hD : va_D A [(h0, .inr (1, [.int 0, .int 0, .int 0, .int 0, .ref q1, .ref q3, .ref q5, .ref q6, .ref q8])), (q6, .inl (cA7, 8, .inr (.inr (.inr (.inr (va_up (va_up (va_up (va_up (va_up (va_up (va_up (va_up (fun _ => none) 0 (some q11)) 1 (some q19)) 2 (some q27)) 3 (some q35)) 4 (some q43)) 5 (some q51)) 6 (some q59)) 7 (some q67))))))), (q67, .inr (2, [.int 0, .int 0, .int 0, .ref a68, .ref a69, .ref a70, .ref a71]))] := hD
  have hP := hP.sub (ws' := [(h0, .inr (1, [.int 0, .int 0, .int 0, .int 0, .ref q1, .ref q3, .ref q5, .ref q6, .ref q8])), (q6, .inl (cA7, 8, .inr (.inr (.inr (.inr (va_up (va_up (va_up (va_up (va_up (va_up (va_up (va_up (fun _ => none) 0 (some q11)) 1 (some q19)) 2 (some q27)) 3 (some q35)) 4 (some q43)) 5 (some q51)) 6 (some q59)) 7 (some q67)))))))]) [0, 1] rfl
  have hD := hD.sub (ws' := [(h0, .inr (1, [.int 0, .int 0, .int 0, .int 0, .ref q1, .ref q3, .ref q5, .ref q6, .ref q8])), (q6, .inl (cA7, 8, .inr (.inr (.inr (.inr (va_up (va_up (va_up (va_up (va_up (va_up (va_up (va_up (fun _ => none) 0 (some q11)) 1 (some q19)) 2 (some q27)) 3 (some q35)) 4 (some q43)) 5 (some q51)) 6 (some q59)) 7 (some q67)))))))]) [0, 1] (by decide) rfl
  refine lv_iinc (v := 8) (lv' := [(1, .int 8), (0, .ref h0)]) hx hb dX1_init_90 hl (k := 0) rfl (by decide) (by decide) rfl (fun ls hl => ?_)
  refine lv_goto (tgt := 71) hx hb dX1_init_93 (by decide) ?_
  refine lv_iload_n hx hb dX1_init_71 rfl (lv_at hl 0 rfl) ?_
  refine lv_bipush (v := 8) hx hb dX1_init_72 (by decide) ?_
  refine lv_icmp_ge (tgt := 96) hx hb dX1_init_74 (by decide) (fun _ => ?_) (fun c_74 => absurd c_74 (by decide))
  have hP9 := hP.sub (ws' := [(h0, .inr (1, [.int 0, .int 0, .int 0, .int 0, .ref q1, .ref q3, .ref q5, .ref q6, .ref q8]))]) [0] rfl
  have hD9 := hD.sub (ws' := [(h0, .inr (1, [.int 0, .int 0, .int 0, .int 0, .ref q1, .ref q3, .ref q5, .ref q6, .ref q8]))]) [0] (by decide) rfl
  have hK9 := hK.sub (tys' := []) [] rfl
  exact W.vret hx hb hr (fun t ht hW => ⟨⟨(), rfl, trivial, q1, q3, q5, q6, q8, by rw [ht]; exact hP9, va_K.moved hW.alike hK9, hD9⟩, hS.F ht⟩) hS.2.2 dX1_init_96
set_option maxHeartbeats 4000000 in
set_option maxRecDepth 100000 in
/-- Team(): one helper, no schedule; five arrays of 0 come -/
theorem c_X4_init (l : Launch) (dC : Nat → ClassId) (dI : Nat → Nat → Nat) (sz : Nat) (h0 : Nat) : Met l yX4_init wsX4_init ({ frames := 1, cells := 5, slots := 220, locals := 24 }) (va_Pc [.ref h0] (fun U => U.heap.size = sz ∧ va_P (dC, dI) vwCl [(h0, .inr (4, [.int 0, .int 0, .null, .null, .null, .null, .null]))] U.heap ∧ va_K (dC, dI) vwCl [] U ∧ va_D (fun _ => True) [(h0, .inr (4, [.int 0, .int 0, .null, .null, .null, .null, .null]))])) (va_Qv (fun (_ : Unit) => True) (fun (_ : Unit) (t : State) => ∃ (a1 : Nat) (a2 : Nat) (a3 : Nat) (a4 : Nat) (a5 : Nat) (k1 : ClassId) (k2 : ClassId) (k3 : ClassId) (k4 : ClassId) (k5 : ClassId), va_P (dC, dI) vwCl [(h0, .inr (4, [.int 1, .int 0, .ref a1, .ref a2, .ref a3, .ref a4, .ref a5])), (a1, .inl (k1, 5, .inl (fun _ => 0))), (a2, .inl (k2, 200, .inl (fun _ => 0))), (a3, .inl (k3, 5, .inl (fun _ => 0))), (a4, .inl (k4, 5, .inl (fun _ => 0))), (a5, .inl (k5, 5, .inl (fun _ => 0)))] t.heap ∧ va_K (dC, dI) vwCl [(k1, .int), (k2, .int), (k3, .int), (k4, .int), (k5, .int)] t ∧ va_D (va_A [(h0, .inr (4, [.int 0, .int 0, .null, .null, .null, .null, .null]))] sz) [(h0, .inr (4, [.int 1, .int 0, .ref a1, .ref a2, .ref a3, .ref a4, .ref a5])), (a1, .inl (k1, 5, .inl (fun _ => 0))), (a2, .inl (k2, 200, .inl (fun _ => 0))), (a3, .inl (k3, 5, .inl (fun _ => 0))), (a4, .inl (k4, 5, .inl (fun _ => 0))), (a5, .inl (k5, 5, .inl (fun _ => 0)))]) (va_A [(h0, .inr (4, [.int 0, .int 0, .null, .null, .null, .null, .null]))] sz)) 5 220 (va_A [(h0, .inr (4, [.int 0, .int 0, .null, .null, .null, .null, .null]))] sz) := by
  refine Met.ofW (cc := cX4_init) (maxL := 1) (ret := none) (by decide) rfl ?_
  intro p e s m args below meth c s₁ B hml hv
  obtain ⟨rfl, hsz, hP, hK, hD0⟩ := hv
  have hx := B.exec
  have hb := B.bytes
  have hr := B.returns
  have hts := atoms_spec (ws := wsX4_init) B.pre
  have hown : s.vm.findClass RX4 = some m.cls := findClass_of_methodNamed B.named
  have hlocks := B.notSynchronized
  have hin : meth.name = "<init>" := (name_of_methodNamed B.named B.method).1
  have hi4 : ∀ w ∈ u_ws RX4 TX4 7, w ∈ wsX4_init := fun w h => List.mem_cons_of_mem _ (List.mem_append_right _ h)
  subst hsz
  have hD := hD0.self (sz := s.heap.size)
  generalize hAe : va_A [(h0, .inr (4, [.int 0, .int 0, .null, .null, .null, .null, .null]))] s.heap.size = A at hD ⊢
  have hA : ∀ q : Nat, s.heap.size ≤ q → A q := fun q h => by rw [← hAe]; exact Or.inr h
  have hS : va_S A s.heap s.heap [] := va_S.rf
  have hP : va_P (dC, dI) vwCl [(h0, .inr (4, [.int 0, .int 0, .null, .null, .null, .null, .null]))] s.heap := hP
  have hl := lv_entry ([.ref h0]) (n := 1) (Nat.le_of_ble_eq_true rfl)
  rw [lg_entry_eq]
  generalize (lg_sl ([.ref h0]) ++ List.replicate (1 - (lg_sl ([.ref h0])).length) Slot.unset).toArray = ls at hl ⊢
  have hl : lv_has ls 1 [(0, .ref h0)] := hl
  refine lv_aload_n hx hb dX4_init_0 rfl (lv_at hl 0 rfl) ?_
  refine W.objInit hx hb hown (hts (.methodLink RX4 3 objectInit) (by decide +kernel)) (hts (.instanceMethod objectInit) (by decide +kernel)) (hts _ (List.mem_of_getElem? (i := 3) rfl)) rfl (by rw [hml]; exact hl.1) rfl dX4_init_1 (Nat.le_of_ble_eq_true rfl) (Nat.le_of_ble_eq_true rfl) ?_
  refine W.eq (g2 := F0 m 4 ls []) rfl ?_
  refine lv_aload_n hx hb dX4_init_4 rfl (lv_at hl 0 rfl) ?_
  refine lv_iconst (v := 1) hx hb dX4_init_5 (by decide) ?_
  refine va_put (D := (dC, dI)) (ci := 4) (v := .int 1) (ty := .int) (C := RX4) (T := TX4) (N := 7) hx hb hts hi4 tyX4 tyX4_ok nmX4 hown hK hP hD hS 0 rfl rfl 0 (by decide) (hts (.fieldLink RX4 9 "CrateHelpers$Team" "size" "I") (by decide +kernel)) (fun _ h9 => h9) rfl (by decide +kernel) rfl rfl (Nat.le_of_ble_eq_true rfl) dX4_init_6 (fun H locs hP hD hS => ?_)
  have hP : va_P (dC, dI) vwCl [(h0, .inr (4, [.int 1, .int 0, .null, .null, .null, .null, .null]))] H := hP
  have hD : va_D A [(h0, .inr (4, [.int 1, .int 0, .null, .null, .null, .null, .null]))] := hD
  refine lv_aload_n hx hb dX4_init_9 rfl (lv_at hl 0 rfl) ?_
  refine lv_iconst (v := 0) hx hb dX4_init_10 (by decide) ?_
  refine va_put (D := (dC, dI)) (ci := 4) (v := .int 0) (ty := .int) (C := RX4) (T := TX4) (N := 7) hx hb hts hi4 tyX4 tyX4_ok nmX4 hown hK hP hD hS 0 rfl rfl 1 (by decide) (hts (.fieldLink RX4 15 "CrateHelpers$Team" "scheduled" "I") (by decide +kernel)) (fun _ h9 => h9) rfl (by decide +kernel) rfl rfl (Nat.le_of_ble_eq_true rfl) dX4_init_11 (fun H locs hP hD hS => ?_)
  have hP : va_P (dC, dI) vwCl [(h0, .inr (4, [.int 1, .int 0, .null, .null, .null, .null, .null]))] H := hP
  have hD : va_D A [(h0, .inr (4, [.int 1, .int 0, .null, .null, .null, .null, .null]))] := hD
  refine lv_aload_n hx hb dX4_init_14 rfl (lv_at hl 0 rfl) ?_
  refine lv_iconst (v := 5) hx hb dX4_init_15 (by decide) ?_
  refine va_newa (atype := .int) (ty := .int) (a0 := (5, .inl (fun _ => 0))) (N' := 5) hx hb (hts (.arrayClass .int) (by decide +kernel)) rfl hK hP hD hS hA (fun _ => rfl) (by decide) (by decide) (by decide) (Nat.le_of_ble_eq_true rfl) (Nat.le_of_ble_eq_true rfl) dX4_init_16 (fun q1 cA2 H hK hP hD hS => ?_)
  have hP : va_P (dC, dI) vwCl [(h0, .inr (4, [.int 1, .int 0, .null, .null, .null, .null, .null])), (q1, .inl (cA2, 5, .inl (fun _ => 0)))] H := hP
  have hD : va_D A [(h0, .inr (4, [.int 1, .int 0, .null, .null, .null, .null, .null])), (q1, .inl (cA2, 5, .inl (fun _ => 0)))] := hD
  have hK : va_K (dC, dI) vwCl [(cA2, .int)] s := hK
  refine W.widen (k := 1) (n := 5) (Nat.le_of_ble_eq_true rfl) (Nat.le_of_ble_eq_true rfl) ?_
  refine va_putF (D := (dC, dI)) (ci := 4) (v := .ref q1) (ty := .array .int) (C := RX4) (T := TX4) (N := 7) hx hb hts hi4 tyX4 tyX4_ok nmX4 hown hK hP hD hS 0 rfl rfl 2 (by decide) (hts (.fieldLink RX4 18 "CrateHelpers$Team" "failAt" "[I") (by decide +kernel)) (fun _ h9 => h9) rfl hin rfl (by decide +kernel) rfl rfl (Nat.le_of_ble_eq_true rfl) dX4_init_18 (fun H locs hP hD hS => ?_)
  have hP : va_P (dC, dI) vwCl [(h0, .inr (4, [.int 1, .int 0, .ref q1, .null, .null, .null, .null])), (q1, .inl (cA2, 5, .inl (fun _ => 0)))] H := hP
  have hD : va_D A [(h0, .inr (4, [.int 1, .int 0, .ref q1, .null, .null, .null, .null])), (q1, .inl (cA2, 5, .inl (fun _ => 0)))] := hD
  refine lv_aload_n hx hb dX4_init_21 rfl (lv_at hl 0 rfl) ?_
  refine lv_sipush (v := 200) hx hb dX4_init_22 (by decide) ?_
  refine va_newa (atype := .int) (ty := .int) (a0 := (200, .inl (fun _ => 0))) (N' := 200) hx hb (hts (.arrayClass .int) (by decide +kernel)) rfl hK hP hD hS hA (fun _ => rfl) (by decide) (by decide) (by decide) (Nat.le_of_ble_eq_true rfl) (Nat.le_of_ble_eq_true rfl) dX4_init_25 (fun q3 cA4 H hK hP hD hS => ?_)
  have hP : va_P (dC, dI) vwCl [(h0, .inr (4, [.int 1, .int 0, .ref q1, .null, .null, .null, .null])), (q1, .inl (cA2, 5, .inl (fun _ => 0))), (q3, .inl (cA4, 200, .inl (fun _ => 0)))] H := hP
  have hD : va_D A [(h0, .inr (4, [.int 1, .int 0, .ref q1, .null, .null, .null, .null])), (q1, .inl (cA2, 5, .inl (fun _ => 0))), (q3, .inl (cA4, 200, .inl (fun _ => 0)))] := hD
  have hK : va_K (dC, dI) vwCl [(cA2, .int), (cA4, .int)] s := hK
  refine W.widen (k := 2) (n := 205) (Nat.le_of_ble_eq_true rfl) (Nat.le_of_ble_eq_true rfl) ?_
  refine va_putF (D := (dC, dI)) (ci := 4) (v := .ref q3) (ty := .array .int) (C := RX4) (T := TX4) (N := 7) hx hb hts hi4 tyX4 tyX4_ok nmX4 hown hK hP hD hS 0 rfl rfl 3 (by decide) (hts (.fieldLink RX4 22 "CrateHelpers$Team" "schedule" "[I") (by decide +kernel)) (fun _ h9 => h9) rfl hin rfl (by decide +kernel) rfl rfl (Nat.le_of_ble_eq_true rfl) dX4_init_27 (fun H locs hP hD hS => ?_)
  have hP : va_P (dC, dI) vwCl [(h0, .inr (4, [.int 1, .int 0, .ref q1, .ref q3, .null, .null, .null])), (q1, .inl (cA2, 5, .inl (fun _ => 0))), (q3, .inl (cA4, 200, .inl (fun _ => 0)))] H := hP
  have hD : va_D A [(h0, .inr (4, [.int 1, .int 0, .ref q1, .ref q3, .null, .null, .null])), (q1, .inl (cA2, 5, .inl (fun _ => 0))), (q3, .inl (cA4, 200, .inl (fun _ => 0)))] := hD
  refine lv_aload_n hx hb dX4_init_30 rfl (lv_at hl 0 rfl) ?_
  refine lv_iconst (v := 5) hx hb dX4_init_31 (by decide) ?_
  refine va_newa (atype := .int) (ty := .int) (a0 := (5, .inl (fun _ => 0))) (N' := 5) hx hb (hts (.arrayClass .int) (by decide +kernel)) rfl hK hP hD hS hA (fun _ => rfl) (by decide) (by decide) (by decide) (Nat.le_of_ble_eq_true rfl) (Nat.le_of_ble_eq_true rfl) dX4_init_32 (fun q5 cA6 H hK hP hD hS => ?_)
  have hP : va_P (dC, dI) vwCl [(h0, .inr (4, [.int 1, .int 0, .ref q1, .ref q3, .null, .null, .null])), (q1, .inl (cA2, 5, .inl (fun _ => 0))), (q3, .inl (cA4, 200, .inl (fun _ => 0))), (q5, .inl (cA6, 5, .inl (fun _ => 0)))] H := hP
  have hD : va_D A [(h0, .inr (4, [.int 1, .int 0, .ref q1, .ref q3, .null, .null, .null])), (q1, .inl (cA2, 5, .inl (fun _ => 0))), (q3, .inl (cA4, 200, .inl (fun _ => 0))), (q5, .inl (cA6, 5, .inl (fun _ => 0)))] := hD
  have hK : va_K (dC, dI) vwCl [(cA2, .int), (cA4, .int), (cA6, .int)] s := hK
  refine W.widen (k := 3) (n := 210) (Nat.le_of_ble_eq_true rfl) (Nat.le_of_ble_eq_true rfl) ?_
  refine va_putF (D := (dC, dI)) (ci := 4) (v := .ref q5) (ty := .array .int) (C := RX4) (T := TX4) (N := 7) hx hb hts hi4 tyX4 tyX4_ok nmX4 hown hK hP hD hS 0 rfl rfl 4 (by decide) (hts (.fieldLink RX4 25 "CrateHelpers$Team" "done" "[I") (by decide +kernel)) (fun _ h9 => h9) rfl hin rfl (by decide +kernel) rfl rfl (Nat.le_of_ble_eq_true rfl) dX4_init_34 (fun H locs hP hD hS => ?_)
  have hP : va_P (dC, dI) vwCl [(h0, .inr (4, [.int 1, .int 0, .ref q1, .ref q3, .ref q5, .null, .null])), (q1, .inl (cA2, 5, .inl (fun _ => 0))), (q3, .inl (cA4, 200, .inl (fun _ => 0))), (q5, .inl (cA6, 5, .inl (fun _ => 0)))] H := hP
  have hD : va_D A [(h0, .inr (4, [.int 1, .int 0, .ref q1, .ref q3, .ref q5, .null, .null])), (q1, .inl (cA2, 5, .inl (fun _ => 0))), (q3, .inl (cA4, 200, .inl (fun _ => 0))), (q5, .inl (cA6, 5, .inl (fun _ => 0)))] := hD
  refine lv_aload_n hx hb dX4_init_37 rfl (lv_at hl 0 rfl) ?_
  refine lv_iconst (v := 5) hx hb dX4_init_38 (by decide) ?_
  refine va_newa (atype := .int) (ty := .int) (a0 := (5, .inl (fun _ => 0))) (N' := 5) hx hb (hts (.arrayClass .int) (by decide +kernel)) rfl hK hP hD hS hA (fun _ => rfl) (by decide) (by decide) (by decide) (Nat.le_of_ble_eq_true rfl) (Nat.le_of_ble_eq_true rfl) dX4_init_39 (fun q7 cA8 H hK hP hD hS => ?_)
  have hP : va_P (dC, dI) vwCl [(h0, .inr (4, [.int 1, .int 0, .ref q1, .ref q3, .ref q5, .null, .null])), (q1, .inl (cA2, 5, .inl (fun _ => 0))), (q3, .inl (cA4, 200, .inl (fun _ => 0))), (q5, .inl (cA6, 5, .inl (fun _ => 0))), (q7, .inl (cA8, 5, .inl (fun _ => 0)))] H := hP
  have hD : va_D A [(h0, .inr (4, [.int 1, .int 0, .ref q1, .ref q3, .ref q5, .null, .null])), (q1, .inl (cA2, 5, .inl (fun _ => 0))), (q3, .inl (cA4, 200, .inl (fun _ => 0))), (q5, .inl (cA6, 5, .inl (fun _ => 0))), (q7, .inl (cA8, 5, .inl (fun _ => 0)))] := hD
  have hK : va_K (dC, dI) vwCl [(cA2, .int), (cA4, .int), (cA6, .int), (cA8, .int)] s := hK
  refine W.widen (k := 4) (n := 215) (Nat.le_of_ble_eq_true rfl) (Nat.le_of_ble_eq_true rfl) ?_
  refine va_putF (D := (dC, dI)) (ci := 4) (v := .ref q7) (ty := .array .int) (C := RX4) (T := TX4) (N := 7) hx hb hts hi4 tyX4 tyX4_ok nmX4 hown hK hP hD hS 0 rfl rfl 5 (by decide) (hts (.fieldLink RX4 28 "CrateHelpers$Team" "idle" "[I") (by decide +kernel)) (fun _ h9 => h9) rfl hin rfl (by decide +kernel) rfl rfl (Nat.le_of_ble_eq_true rfl) dX4_init_41 (fun H locs hP hD hS => ?_)
  have hP : va_P (dC, dI) vwCl [(h0, .inr (4, [.int 1, .int 0, .ref q1, .ref q3, .ref q5, .ref q7, .null])), (q1, .inl (cA2, 5, .inl (fun _ => 0))), (q3, .inl (cA4, 200, .inl (fun _ => 0))), (q5, .inl (cA6, 5, .inl (fun _ => 0))), (q7, .inl (cA8, 5, .inl (fun _ => 0)))] H := hP
  have hD : va_D A [(h0, .inr (4, [.int 1, .int 0, .ref q1, .ref q3, .ref q5, .ref q7, .null])), (q1, .inl (cA2, 5, .inl (fun _ => 0))), (q3, .inl (cA4, 200, .inl (fun _ => 0))), (q5, .inl (cA6, 5, .inl (fun _ => 0))), (q7, .inl (cA8, 5, .inl (fun _ => 0)))] := hD
  refine lv_aload_n hx hb dX4_init_44 rfl (lv_at hl 0 rfl) ?_
  refine lv_iconst (v := 5) hx hb dX4_init_45 (by decide) ?_
  refine va_newa (atype := .int) (ty := .int) (a0 := (5, .inl (fun _ => 0))) (N' := 5) hx hb (hts (.arrayClass .int) (by decide +kernel)) rfl hK hP hD hS hA (fun _ => rfl) (by decide) (by decide) (by decide) (Nat.le_of_ble_eq_true rfl) (Nat.le_of_ble_eq_true rfl) dX4_init_46 (fun q9 cA10 H hK hP hD hS => ?_)
  have hP : va_P (dC, dI) vwCl [(h0, .inr (4, [.int 1, .int 0, .ref q1, .ref q3, .ref q5, .ref q7, .null])), (q1, .inl (cA2, 5, .inl (fun _ => 0))), (q3, .inl (cA4, 200, .inl (fun _ => 0))), (q5, .inl (cA6, 5, .inl (fun _ => 0))), (q7, .inl (cA8, 5, .inl (fun _ => 0))), (q9, .inl (cA10, 5, .inl (fun _ => 0)))] H := hP
  have hD : va_D A [(h0, .inr (4, [.int 1, .int 0, .ref q1, .ref q3, .ref q5, .ref q7, .null])), (q1, .inl (cA2, 5, .inl (fun _ => 0))), (q3, .inl (cA4, 200, .inl (fun _ => 0))), (q5, .inl (cA6, 5, .inl (fun _ => 0))), (q7, .inl (cA8, 5, .inl (fun _ => 0))), (q9, .inl (cA10, 5, .inl (fun _ => 0)))] := hD
  have hK : va_K (dC, dI) vwCl [(cA2, .int), (cA4, .int), (cA6, .int), (cA8, .int), (cA10, .int)] s := hK
  refine W.widen (k := 5) (n := 220) (Nat.le_of_ble_eq_true rfl) (Nat.le_of_ble_eq_true rfl) ?_
  refine va_putF (D := (dC, dI)) (ci := 4) (v := .ref q9) (ty := .array .int) (C := RX4) (T := TX4) (N := 7) hx hb hts hi4 tyX4 tyX4_ok nmX4 hown hK hP hD hS 0 rfl rfl 6 (by decide) (hts (.fieldLink RX4 31 "CrateHelpers$Team" "replaced" "[I") (by decide +kernel)) (fun _ h9 => h9) rfl hin rfl (by decide +kernel) rfl rfl (Nat.le_of_ble_eq_true rfl) dX4_init_48 (fun H locs hP hD hS => ?_)
  have hP : va_P (dC, dI) vwCl [(h0, .inr (4, [.int 1, .int 0, .ref q1, .ref q3, .ref q5, .ref q7, .ref q9])), (q1, .inl (cA2, 5, .inl (fun _ => 0))), (q3, .inl (cA4, 200, .inl (fun _ => 0))), (q5, .inl (cA6, 5, .inl (fun _ => 0))), (q7, .inl (cA8, 5, .inl (fun _ => 0))), (q9, .inl (cA10, 5, .inl (fun _ => 0)))] H := hP
  have hD : va_D A [(h0, .inr (4, [.int 1, .int 0, .ref q1, .ref q3, .ref q5, .ref q7, .ref q9])), (q1, .inl (cA2, 5, .inl (fun _ => 0))), (q3, .inl (cA4, 200, .inl (fun _ => 0))), (q5, .inl (cA6, 5, .inl (fun _ => 0))), (q7, .inl (cA8, 5, .inl (fun _ => 0))), (q9, .inl (cA10, 5, .inl (fun _ => 0)))] := hD
  have hP9 := hP.sub (ws' := [(h0, .inr (4, [.int 1, .int 0, .ref q1, .ref q3, .ref q5, .ref q7, .ref q9])), (q1, .inl (cA2, 5, .inl (fun _ => 0))), (q3, .inl (cA4, 200, .inl (fun _ => 0))), (q5, .inl (cA6, 5, .inl (fun _ => 0))), (q7, .inl (cA8, 5, .inl (fun _ => 0))), (q9, .inl (cA10, 5, .inl (fun _ => 0)))]) [0, 1, 2, 3, 4, 5] rfl
  have hD9 := hD.sub (ws' := [(h0, .inr (4, [.int 1, .int 0, .ref q1, .ref q3, .ref q5, .ref q7, .ref q9])), (q1, .inl (cA2, 5, .inl (fun _ => 0))), (q3, .inl (cA4, 200, .inl (fun _ => 0))), (q5, .inl (cA6, 5, .inl (fun _ => 0))), (q7, .inl (cA8, 5, .inl (fun _ => 0))), (q9, .inl (cA10, 5, .inl (fun _ => 0)))]) [0, 1, 2, 3, 4, 5] (by decide) rfl
  have hK9 := hK.sub (tys' := [(cA2, .int), (cA4, .int), (cA6, .int), (cA8, .int), (cA10, .int)]) [0, 1, 2, 3, 4] rfl
  exact W.vret hx hb hr (fun t ht hW => ⟨⟨(), rfl, trivial, q1, q3, q5, q7, q9, cA2, cA4, cA6, cA8, cA10, by rw [ht]; exact hP9, va_K.moved hW.alike hK9, hD9⟩, hS.F ht⟩) hS.2.2 dX4_init_51
