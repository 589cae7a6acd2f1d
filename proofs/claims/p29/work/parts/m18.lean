/-! part a1.made -/
set_option maxHeartbeats 4000000 in
set_option maxRecDepth 100000 in
/-- Judge() -/
theorem z_X0_init (l : Launch) (dC : Nat → ClassId) (dI : Nat → Nat → Nat) (sz : Nat) (K : Nat → ClassId) (h0 : Nat) : Met l yX0_init wsX0_init ({ frames := 1, cells := 0, slots := 0, locals := 24 }) (va_Pc [.ref h0] (fun U => U.heap.size = sz ∧ va_P (dC, dI) vwCl [(h0, .inr (0, [.int 0, .int 0, .int 0]))] U.heap ∧ va_K (dC, dI) vwCl [(K 0, .int), (K 1, .byte), (K 2, .short), (K 3, .boolean), (K 4, .long), (K 5, .object RX1), (K 6, .object RX2), (K 7, .array .int)] U ∧ va_D (fun _ => True) [(h0, .inr (0, [.int 0, .int 0, .int 0]))])) (va_Qv (fun (_ : Unit) => True) (fun (_ : Unit) (t : State) => va_P (dC, dI) vwCl [(h0, .inr (0, [.int 0, .int (-9), .int (-1000000)]))] t.heap ∧ va_K (dC, dI) vwCl [(K 0, .int), (K 1, .byte), (K 2, .short), (K 3, .boolean), (K 4, .long), (K 5, .object RX1), (K 6, .object RX2), (K 7, .array .int)] t ∧ va_D (va_A [(h0, .inr (0, [.int 0, .int 0, .int 0]))] sz) [(h0, .inr (0, [.int 0, .int (-9), .int (-1000000)]))]) (va_A [(h0, .inr (0, [.int 0, .int 0, .int 0]))] sz)) 0 0 (va_A [(h0, .inr (0, [.int 0, .int 0, .int 0]))] sz) := by
  refine Met.ofW (cc := cX0_init) (maxL := 1) (ret := none) (by decide) rfl ?_
  intro p e s m args below meth c s₁ B hml hv
  obtain ⟨rfl, hsz, hP, hK, hD0⟩ := hv
  have hx := B.exec
  have hb := B.bytes
  have hr := B.returns
  have hts := atoms_spec (ws := wsX0_init) B.pre
  have hown : s.vm.findClass RX0 = some m.cls := findClass_of_methodNamed B.named
  have hlocks := B.notSynchronized
  have hin : meth.name = "<init>" := (name_of_methodNamed B.named B.method).1
  have hi0 : ∀ w ∈ u_ws RX0 TX0 3, w ∈ wsX0_init := fun w h => List.mem_cons_of_mem _ (List.mem_append_right _ h)
  subst hsz
  replace hD := hD0.self (sz := s.heap.size)
  generalize hAe : va_A [(h0, .inr (0, [.int 0, .int 0, .int 0]))] s.heap.size = A at hD ⊢
  have hA : ∀ q : Nat, s.heap.size ≤ q → A q := fun q h => by rw [← hAe]; exact Or.inr h
  have hS : va_S A s.heap s.heap [] := va_S.rf
  replace hP : va_P (dC, dI) vwCl [(h0, .inr (0, [.int 0, .int 0, .int 0]))] s.heap := hP
  have hl := lv_entry ([.ref h0]) (n := 1) (Nat.le_of_ble_eq_true rfl)
  rw [lg_entry_eq]
  generalize (lg_sl ([.ref h0]) ++ List.replicate (1 - (lg_sl ([.ref h0])).length) Slot.unset).toArray = ls at hl ⊢
  have hl : lv_has ls 1 [(0, .ref h0)] := hl
  obtain ⟨ta0, eta0⟩ : ∃ t : va_W, t = [] := ⟨_, rfl⟩
  obtain ⟨tb0, etb0⟩ : ∃ t : va_W, t = [] := ⟨_, rfl⟩
  have fta0 : ta0 = [] := eta0
  replace hP : va_P (dC, dI) vwCl ([(h0, .inr (0, [.int 0, .int 0, .int 0]))] ++ (ta0 ++ tb0)) s.heap := by rw [eta0, etb0]; exact hP
  replace hD : va_D A ([(h0, .inr (0, [.int 0, .int 0, .int 0]))] ++ (ta0 ++ tb0)) := by rw [eta0, etb0]; exact hD
  refine lv_aload_n hx hb dX0_init_0 rfl (lv_at hl 0 rfl) ?_
  refine W.objInit hx hb hown (hts (.methodLink RX0 3 objectInit) (by decide +kernel)) (hts (.instanceMethod objectInit) (by decide +kernel)) (hts _ (List.mem_of_getElem? (i := 3) rfl)) rfl (by rw [hml]; exact hl.1) rfl dX0_init_1 (Nat.le_of_ble_eq_true rfl) (Nat.le_of_ble_eq_true rfl) ?_
  refine W.eq (g2 := F0 m 4 ls []) rfl ?_
  refine lv_aload_n hx hb dX0_init_4 rfl (lv_at hl 0 rfl) ?_
  refine lv_iconst (v := 0) hx hb dX0_init_5 (by decide) ?_
  refine va_put (D := (dC, dI)) (ci := 0) (v := .int 0) (ty := .int) (C := RX0) (T := TX0) (N := 3) hx hb hts hi0 tyX0 tyX0_ok nmX0 hown hK hP hD hS 0 rfl rfl 0 (by decide) (hts (.fieldLink RX0 9 "CrateHelpers$Judge" "what" "I") (by decide +kernel)) (fun _ h9 => h9) rfl (by decide +kernel) rfl rfl (Nat.le_of_ble_eq_true rfl) dX0_init_6 (fun H locs hP9 hD9 hS9 => ?_)
  clear hP hD hS
  have hP := hP9; have hD := hD9; have hS := hS9
  clear hP9 hD9 hS9
  replace hP : va_P (dC, dI) vwCl ([(h0, .inr (0, [.int 0, .int 0, .int 0]))] ++ (ta0 ++ tb0)) H := hP
  replace hD : va_D A ([(h0, .inr (0, [.int 0, .int 0, .int 0]))] ++ (ta0 ++ tb0)) := hD
  refine lv_aload_n hx hb dX0_init_9 rfl (lv_at hl 0 rfl) ?_
  refine lv_bipush (v := (-9)) hx hb dX0_init_10 (by decide) ?_
  refine va_put (D := (dC, dI)) (ci := 0) (v := .int (-9)) (ty := .int) (C := RX0) (T := TX0) (N := 3) hx hb hts hi0 tyX0 tyX0_ok nmX0 hown hK hP hD hS 0 rfl rfl 1 (by decide) (hts (.fieldLink RX0 15 "CrateHelpers$Judge" "why" "I") (by decide +kernel)) (fun _ h9 => h9) rfl (by decide +kernel) rfl rfl (Nat.le_of_ble_eq_true rfl) dX0_init_12 (fun H locs hP9 hD9 hS9 => ?_)
  clear hP hD hS
  have hP := hP9; have hD := hD9; have hS := hS9
  clear hP9 hD9 hS9
  replace hP : va_P (dC, dI) vwCl ([(h0, .inr (0, [.int 0, .int (-9), .int 0]))] ++ (ta0 ++ tb0)) H := hP
  replace hD : va_D A ([(h0, .inr (0, [.int 0, .int (-9), .int 0]))] ++ (ta0 ++ tb0)) := hD
  refine lv_aload_n hx hb dX0_init_15 rfl (lv_at hl 0 rfl) ?_
  refine lv_ldc (v := (-1000000)) hx hb hown (hts (.constant RX0 18 (-1000000)) (by decide +kernel)) dX0_init_16 ?_
  refine va_put (D := (dC, dI)) (ci := 0) (v := .int (-1000000)) (ty := .int) (C := RX0) (T := TX0) (N := 3) hx hb hts hi0 tyX0 tyX0_ok nmX0 hown hK hP hD hS 0 rfl rfl 2 (by decide) (hts (.fieldLink RX0 19 "CrateHelpers$Judge" "bound" "I") (by decide +kernel)) (fun _ h9 => h9) rfl (by decide +kernel) rfl rfl (Nat.le_of_ble_eq_true rfl) dX0_init_18 (fun H locs hP9 hD9 hS9 => ?_)
  clear hP hD hS
  have hP := hP9; have hD := hD9; have hS := hS9
  clear hP9 hD9 hS9
  replace hP : va_P (dC, dI) vwCl ([(h0, .inr (0, [.int 0, .int (-9), .int (-1000000)]))] ++ (ta0 ++ tb0)) H := hP
  replace hD : va_D A ([(h0, .inr (0, [.int 0, .int (-9), .int (-1000000)]))] ++ (ta0 ++ tb0)) := hD
  rw [fta0] at hP hD
  rw [etb0] at hP hD
  have hP9 := hP.sub (ws' := [(h0, .inr (0, [.int 0, .int (-9), .int (-1000000)]))]) [0] rfl
  have hD9 := hD.sub (ws' := [(h0, .inr (0, [.int 0, .int (-9), .int (-1000000)]))]) [0] (by decide) rfl
  exact W.vret hx hb hr (fun t ht hW => ⟨⟨(), rfl, trivial, by rw [ht]; exact hP9, va_K.moved hW.alike hK, hD9⟩, hS.F ht⟩) hS.2.2 dX0_init_21
set_option maxHeartbeats 4000000 in
set_option maxRecDepth 100000 in
/-- Rule() -/
theorem z_X2_init (l : Launch) (dC : Nat → ClassId) (dI : Nat → Nat → Nat) (sz : Nat) (K : Nat → ClassId) (h0 : Nat) : Met l yX2_init wsX2_init ({ frames := 1, cells := 4, slots := 24, locals := 24 }) (va_Pc [.ref h0] (fun U => U.heap.size = sz ∧ va_P (dC, dI) vwCl [(h0, .inr (2, [.int 0, .int 0, .int 0, .null, .null, .null, .null]))] U.heap ∧ va_K (dC, dI) vwCl [(K 0, .int), (K 1, .byte), (K 2, .short), (K 3, .boolean), (K 4, .long), (K 5, .object RX1), (K 6, .object RX2), (K 7, .array .int)] U ∧ va_D (fun _ => True) [(h0, .inr (2, [.int 0, .int 0, .int 0, .null, .null, .null, .null]))])) (va_Qv (fun (_ : Unit) => True) (fun (_ : Unit) (t : State) => ∃ (a1 : Nat) (a2 : Nat) (a3 : Nat) (a4 : Nat), va_P (dC, dI) vwCl [(h0, .inr (2, [.int 0, .int 0, .int 0, .ref a1, .ref a2, .ref a3, .ref a4])), (a1, .inl (K 0, 6, .inl (fun _ => 0))), (a2, .inl (K 0, 6, .inl (fun _ => 0))), (a3, .inl (K 3, 6, .inl (fun _ => 0))), (a4, .inl (K 0, 6, .inl (fun _ => 0)))] t.heap ∧ va_K (dC, dI) vwCl [(K 0, .int), (K 1, .byte), (K 2, .short), (K 3, .boolean), (K 4, .long), (K 5, .object RX1), (K 6, .object RX2), (K 7, .array .int)] t ∧ va_D (va_A [(h0, .inr (2, [.int 0, .int 0, .int 0, .null, .null, .null, .null]))] sz) [(h0, .inr (2, [.int 0, .int 0, .int 0, .ref a1, .ref a2, .ref a3, .ref a4])), (a1, .inl (K 0, 6, .inl (fun _ => 0))), (a2, .inl (K 0, 6, .inl (fun _ => 0))), (a3, .inl (K 3, 6, .inl (fun _ => 0))), (a4, .inl (K 0, 6, .inl (fun _ => 0)))]) (va_A [(h0, .inr (2, [.int 0, .int 0, .int 0, .null, .null, .null, .null]))] sz)) 4 24 (va_A [(h0, .inr (2, [.int 0, .int 0, .int 0, .null, .null, .null, .null]))] sz) := by
  refine Met.ofW (cc := cX2_init) (maxL := 1) (ret := none) (by decide) rfl ?_
  intro p e s m args below meth c s₁ B hml hv
  obtain ⟨rfl, hsz, hP, hK, hD0⟩ := hv
  have hx := B.exec
  have hb := B.bytes
  have hr := B.returns
  have hts := atoms_spec (ws := wsX2_init) B.pre
  have hown : s.vm.findClass RX2 = some m.cls := findClass_of_methodNamed B.named
  have hlocks := B.notSynchronized
  have hin : meth.name = "<init>" := (name_of_methodNamed B.named B.method).1
  have hi2 : ∀ w ∈ u_ws RX2 TX2 7, w ∈ wsX2_init := fun w h => List.mem_cons_of_mem _ (List.mem_append_right _ h)
  subst hsz
  replace hD := hD0.self (sz := s.heap.size)
  generalize hAe : va_A [(h0, .inr (2, [.int 0, .int 0, .int 0, .null, .null, .null, .null]))] s.heap.size = A at hD ⊢
  have hA : ∀ q : Nat, s.heap.size ≤ q → A q := fun q h => by rw [← hAe]; exact Or.inr h
  have hS : va_S A s.heap s.heap [] := va_S.rf
  replace hP : va_P (dC, dI) vwCl [(h0, .inr (2, [.int 0, .int 0, .int 0, .null, .null, .null, .null]))] s.heap := hP
  have hl := lv_entry ([.ref h0]) (n := 1) (Nat.le_of_ble_eq_true rfl)
  rw [lg_entry_eq]
  generalize (lg_sl ([.ref h0]) ++ List.replicate (1 - (lg_sl ([.ref h0])).length) Slot.unset).toArray = ls at hl ⊢
  have hl : lv_has ls 1 [(0, .ref h0)] := hl
  obtain ⟨ta0, eta0⟩ : ∃ t : va_W, t = [] := ⟨_, rfl⟩
  obtain ⟨tb0, etb0⟩ : ∃ t : va_W, t = [] := ⟨_, rfl⟩
  have fta0 : ta0 = [] := eta0
  replace hP : va_P (dC, dI) vwCl ([(h0, .inr (2, [.int 0, .int 0, .int 0, .null, .null, .null, .null]))] ++ (ta0 ++ tb0)) s.heap := by rw [eta0, etb0]; exact hP
  replace hD : va_D A ([(h0, .inr (2, [.int 0, .int 0, .int 0, .null, .null, .null, .null]))] ++ (ta0 ++ tb0)) := by rw [eta0, etb0]; exact hD
  refine lv_aload_n hx hb dX2_init_0 rfl (lv_at hl 0 rfl) ?_
  refine W.objInit hx hb hown (hts (.methodLink RX2 3 objectInit) (by decide +kernel)) (hts (.instanceMethod objectInit) (by decide +kernel)) (hts _ (List.mem_of_getElem? (i := 3) rfl)) rfl (by rw [hml]; exact hl.1) rfl dX2_init_1 (Nat.le_of_ble_eq_true rfl) (Nat.le_of_ble_eq_true rfl) ?_
  refine W.eq (g2 := F0 m 4 ls []) rfl ?_
  refine lv_aload_n hx hb dX2_init_4 rfl (lv_at hl 0 rfl) ?_
  refine lv_iconst (v := 0) hx hb dX2_init_5 (by decide) ?_
  refine va_put (D := (dC, dI)) (ci := 2) (v := .int 0) (ty := .int) (C := RX2) (T := TX2) (N := 7) hx hb hts hi2 tyX2 tyX2_ok nmX2 hown hK hP hD hS 0 rfl rfl 0 (by decide) (hts (.fieldLink RX2 9 "CrateHelpers$Rule" "kind" "I") (by decide +kernel)) (fun _ h9 => h9) rfl (by decide +kernel) rfl rfl (Nat.le_of_ble_eq_true rfl) dX2_init_6 (fun H locs hP9 hD9 hS9 => ?_)
  clear hP hD hS
  have hP := hP9; have hD := hD9; have hS := hS9
  clear hP9 hD9 hS9
  replace hP : va_P (dC, dI) vwCl ([(h0, .inr (2, [.int 0, .int 0, .int 0, .null, .null, .null, .null]))] ++ (ta0 ++ tb0)) H := hP
  replace hD : va_D A ([(h0, .inr (2, [.int 0, .int 0, .int 0, .null, .null, .null, .null]))] ++ (ta0 ++ tb0)) := hD
  refine lv_aload_n hx hb dX2_init_9 rfl (lv_at hl 0 rfl) ?_
  refine lv_iconst (v := 0) hx hb dX2_init_10 (by decide) ?_
  refine va_put (D := (dC, dI)) (ci := 2) (v := .int 0) (ty := .int) (C := RX2) (T := TX2) (N := 7) hx hb hts hi2 tyX2 tyX2_ok nmX2 hown hK hP hD hS 0 rfl rfl 1 (by decide) (hts (.fieldLink RX2 15 "CrateHelpers$Rule" "c" "I") (by decide +kernel)) (fun _ h9 => h9) rfl (by decide +kernel) rfl rfl (Nat.le_of_ble_eq_true rfl) dX2_init_11 (fun H locs hP9 hD9 hS9 => ?_)
  clear hP hD hS
  have hP := hP9; have hD := hD9; have hS := hS9
  clear hP9 hD9 hS9
  replace hP : va_P (dC, dI) vwCl ([(h0, .inr (2, [.int 0, .int 0, .int 0, .null, .null, .null, .null]))] ++ (ta0 ++ tb0)) H := hP
  replace hD : va_D A ([(h0, .inr (2, [.int 0, .int 0, .int 0, .null, .null, .null, .null]))] ++ (ta0 ++ tb0)) := hD
  refine lv_aload_n hx hb dX2_init_14 rfl (lv_at hl 0 rfl) ?_
  refine lv_iconst (v := 0) hx hb dX2_init_15 (by decide) ?_
  refine va_put (D := (dC, dI)) (ci := 2) (v := .int 0) (ty := .int) (C := RX2) (T := TX2) (N := 7) hx hb hts hi2 tyX2 tyX2_ok nmX2 hown hK hP hD hS 0 rfl rfl 2 (by decide) (hts (.fieldLink RX2 18 "CrateHelpers$Rule" "parts" "I") (by decide +kernel)) (fun _ h9 => h9) rfl (by decide +kernel) rfl rfl (Nat.le_of_ble_eq_true rfl) dX2_init_16 (fun H locs hP9 hD9 hS9 => ?_)
  clear hP hD hS
  have hP := hP9; have hD := hD9; have hS := hS9
  clear hP9 hD9 hS9
  replace hP : va_P (dC, dI) vwCl ([(h0, .inr (2, [.int 0, .int 0, .int 0, .null, .null, .null, .null]))] ++ (ta0 ++ tb0)) H := hP
  replace hD : va_D A ([(h0, .inr (2, [.int 0, .int 0, .int 0, .null, .null, .null, .null]))] ++ (ta0 ++ tb0)) := hD
  refine lv_aload_n hx hb dX2_init_19 rfl (lv_at hl 0 rfl) ?_
  refine lv_bipush (v := 6) hx hb dX2_init_20 (by decide) ?_
  refine va_newa (atype := .int) (ty := .int) (a0 := (6, .inl (fun _ => 0))) (N' := 6) hx hb (hts (.arrayClass .int) (by decide +kernel)) rfl hK hP hD hS hA (fun _ => rfl) (by decide) (by decide) (by decide) (Nat.le_of_ble_eq_true rfl) (Nat.le_of_ble_eq_true rfl) dX2_init_22 (fun q1 cA2 H hK9 hP9 hD9 hS9 => ?_)
  clear hP hD hS hK
  have hP := hP9; have hD := hD9; have hS := hS9; have hK := hK9
  clear hP9 hD9 hS9 hK9
  obtain rfl : K 0 = cA2 := ty_u hK 0 8 rfl rfl
  replace hK := hK.sub (tys' := [(K 0, .int), (K 1, .byte), (K 2, .short), (K 3, .boolean), (K 4, .long), (K 5, .object RX1), (K 6, .object RX2), (K 7, .array .int)]) [0, 1, 2, 3, 4, 5, 6, 7] rfl
  replace hP := tl_P tl_rot hP
  replace hD := tl_D tl_rot hD
  replace hP : va_P (dC, dI) vwCl ([(h0, .inr (2, [.int 0, .int 0, .int 0, .null, .null, .null, .null])), (q1, .inl (K 0, 6, .inl (fun _ => 0)))] ++ (ta0 ++ tb0)) H := hP
  replace hD : va_D A ([(h0, .inr (2, [.int 0, .int 0, .int 0, .null, .null, .null, .null])), (q1, .inl (K 0, 6, .inl (fun _ => 0)))] ++ (ta0 ++ tb0)) := hD
  refine W.widen (k := 1) (n := 6) (Nat.le_of_ble_eq_true rfl) (Nat.le_of_ble_eq_true rfl) ?_
  obtain ⟨ta3, eta3⟩ : ∃ t : va_W, t = ta0 ++ [(q1, .inl (K 0, 6, .inl (fun _ => 0)))] := ⟨_, rfl⟩
  have fta3 : ta3 = [(q1, .inl (K 0, 6, .inl (fun _ => 0)))] := by rw [eta3, fta0]; rfl
  clear fta0
  replace hP : va_P (dC, dI) vwCl ([(h0, .inr (2, [.int 0, .int 0, .int 0, .null, .null, .null, .null]))] ++ (ta3 ++ tb0)) H := by rw [eta3]; exact tl_P (tl_park (k := [(h0, .inr (2, [.int 0, .int 0, .int 0, .null, .null, .null, .null]))]) (x := [(q1, .inl (K 0, 6, .inl (fun _ => 0)))])) hP
  replace hD : va_D A ([(h0, .inr (2, [.int 0, .int 0, .int 0, .null, .null, .null, .null]))] ++ (ta3 ++ tb0)) := by rw [eta3]; exact tl_D (tl_park (k := [(h0, .inr (2, [.int 0, .int 0, .int 0, .null, .null, .null, .null]))]) (x := [(q1, .inl (K 0, 6, .inl (fun _ => 0)))])) hD
  refine va_putF (D := (dC, dI)) (ci := 2) (v := .ref q1) (ty := .array .int) (C := RX2) (T := TX2) (N := 7) hx hb hts hi2 tyX2 tyX2_ok nmX2 hown hK hP hD hS 0 rfl rfl 3 (by decide) (hts (.fieldLink RX2 21 "CrateHelpers$Rule" "variables" "[I") (by decide +kernel)) (fun _ h9 => h9) rfl hin rfl (by decide +kernel) rfl rfl (Nat.le_of_ble_eq_true rfl) dX2_init_24 (fun H locs hP9 hD9 hS9 => ?_)
  clear hP hD hS
  have hP := hP9; have hD := hD9; have hS := hS9
  clear hP9 hD9 hS9
  replace hP : va_P (dC, dI) vwCl ([(h0, .inr (2, [.int 0, .int 0, .int 0, .ref q1, .null, .null, .null]))] ++ (ta3 ++ tb0)) H := hP
  replace hD : va_D A ([(h0, .inr (2, [.int 0, .int 0, .int 0, .ref q1, .null, .null, .null]))] ++ (ta3 ++ tb0)) := hD
  refine lv_aload_n hx hb dX2_init_27 rfl (lv_at hl 0 rfl) ?_
  refine lv_bipush (v := 6) hx hb dX2_init_28 (by decide) ?_
  refine va_newa (atype := .int) (ty := .int) (a0 := (6, .inl (fun _ => 0))) (N' := 6) hx hb (hts (.arrayClass .int) (by decide +kernel)) rfl hK hP hD hS hA (fun _ => rfl) (by decide) (by decide) (by decide) (Nat.le_of_ble_eq_true rfl) (Nat.le_of_ble_eq_true rfl) dX2_init_30 (fun q4 cA5 H hK9 hP9 hD9 hS9 => ?_)
  clear hP hD hS hK
  have hP := hP9; have hD := hD9; have hS := hS9; have hK := hK9
  clear hP9 hD9 hS9 hK9
  obtain rfl : K 0 = cA5 := ty_u hK 0 8 rfl rfl
  replace hK := hK.sub (tys' := [(K 0, .int), (K 1, .byte), (K 2, .short), (K 3, .boolean), (K 4, .long), (K 5, .object RX1), (K 6, .object RX2), (K 7, .array .int)]) [0, 1, 2, 3, 4, 5, 6, 7] rfl
  replace hP := tl_P tl_rot hP
  replace hD := tl_D tl_rot hD
  replace hP : va_P (dC, dI) vwCl ([(h0, .inr (2, [.int 0, .int 0, .int 0, .ref q1, .null, .null, .null])), (q4, .inl (K 0, 6, .inl (fun _ => 0)))] ++ (ta3 ++ tb0)) H := hP
  replace hD : va_D A ([(h0, .inr (2, [.int 0, .int 0, .int 0, .ref q1, .null, .null, .null])), (q4, .inl (K 0, 6, .inl (fun _ => 0)))] ++ (ta3 ++ tb0)) := hD
  refine W.widen (k := 2) (n := 12) (Nat.le_of_ble_eq_true rfl) (Nat.le_of_ble_eq_true rfl) ?_
  obtain ⟨ta6, eta6⟩ : ∃ t : va_W, t = ta3 ++ [(q4, .inl (K 0, 6, .inl (fun _ => 0)))] := ⟨_, rfl⟩
  have fta6 : ta6 = [(q1, .inl (K 0, 6, .inl (fun _ => 0))), (q4, .inl (K 0, 6, .inl (fun _ => 0)))] := by rw [eta6, fta3]; rfl
  clear fta3
  replace hP : va_P (dC, dI) vwCl ([(h0, .inr (2, [.int 0, .int 0, .int 0, .ref q1, .null, .null, .null]))] ++ (ta6 ++ tb0)) H := by rw [eta6]; exact tl_P (tl_park (k := [(h0, .inr (2, [.int 0, .int 0, .int 0, .ref q1, .null, .null, .null]))]) (x := [(q4, .inl (K 0, 6, .inl (fun _ => 0)))])) hP
  replace hD : va_D A ([(h0, .inr (2, [.int 0, .int 0, .int 0, .ref q1, .null, .null, .null]))] ++ (ta6 ++ tb0)) := by rw [eta6]; exact tl_D (tl_park (k := [(h0, .inr (2, [.int 0, .int 0, .int 0, .ref q1, .null, .null, .null]))]) (x := [(q4, .inl (K 0, 6, .inl (fun _ => 0)))])) hD
  refine va_putF (D := (dC, dI)) (ci := 2) (v := .ref q4) (ty := .array .int) (C := RX2) (T := TX2) (N := 7) hx hb hts hi2 tyX2 tyX2_ok nmX2 hown hK hP hD hS 0 rfl rfl 4 (by decide) (hts (.fieldLink RX2 25 "CrateHelpers$Rule" "weights" "[I") (by decide +kernel)) (fun _ h9 => h9) rfl hin rfl (by decide +kernel) rfl rfl (Nat.le_of_ble_eq_true rfl) dX2_init_32 (fun H locs hP9 hD9 hS9 => ?_)
  clear hP hD hS
  have hP := hP9; have hD := hD9; have hS := hS9
  clear hP9 hD9 hS9
  replace hP : va_P (dC, dI) vwCl ([(h0, .inr (2, [.int 0, .int 0, .int 0, .ref q1, .ref q4, .null, .null]))] ++ (ta6 ++ tb0)) H := hP
  replace hD : va_D A ([(h0, .inr (2, [.int 0, .int 0, .int 0, .ref q1, .ref q4, .null, .null]))] ++ (ta6 ++ tb0)) := hD
  refine lv_aload_n hx hb dX2_init_35 rfl (lv_at hl 0 rfl) ?_
  refine lv_bipush (v := 6) hx hb dX2_init_36 (by decide) ?_
  refine va_newa (atype := .boolean) (ty := .boolean) (a0 := (6, .inl (fun _ => 0))) (N' := 6) hx hb (hts (.arrayClass .boolean) (by decide +kernel)) rfl hK hP hD hS hA (fun _ => rfl) (by decide) (by decide) (by decide) (Nat.le_of_ble_eq_true rfl) (Nat.le_of_ble_eq_true rfl) dX2_init_38 (fun q7 cA8 H hK9 hP9 hD9 hS9 => ?_)
  clear hP hD hS hK
  have hP := hP9; have hD := hD9; have hS := hS9; have hK := hK9
  clear hP9 hD9 hS9 hK9
  obtain rfl : K 3 = cA8 := ty_u hK 3 8 rfl rfl
  replace hK := hK.sub (tys' := [(K 0, .int), (K 1, .byte), (K 2, .short), (K 3, .boolean), (K 4, .long), (K 5, .object RX1), (K 6, .object RX2), (K 7, .array .int)]) [0, 1, 2, 3, 4, 5, 6, 7] rfl
  replace hP := tl_P tl_rot hP
  replace hD := tl_D tl_rot hD
  replace hP : va_P (dC, dI) vwCl ([(h0, .inr (2, [.int 0, .int 0, .int 0, .ref q1, .ref q4, .null, .null])), (q7, .inl (K 3, 6, .inl (fun _ => 0)))] ++ (ta6 ++ tb0)) H := hP
  replace hD : va_D A ([(h0, .inr (2, [.int 0, .int 0, .int 0, .ref q1, .ref q4, .null, .null])), (q7, .inl (K 3, 6, .inl (fun _ => 0)))] ++ (ta6 ++ tb0)) := hD
  refine W.widen (k := 3) (n := 18) (Nat.le_of_ble_eq_true rfl) (Nat.le_of_ble_eq_true rfl) ?_
  obtain ⟨ta9, eta9⟩ : ∃ t : va_W, t = ta6 ++ [(q7, .inl (K 3, 6, .inl (fun _ => 0)))] := ⟨_, rfl⟩
  have fta9 : ta9 = [(q1, .inl (K 0, 6, .inl (fun _ => 0))), (q4, .inl (K 0, 6, .inl (fun _ => 0))), (q7, .inl (K 3, 6, .inl (fun _ => 0)))] := by rw [eta9, fta6]; rfl
  clear fta6
  replace hP : va_P (dC, dI) vwCl ([(h0, .inr (2, [.int 0, .int 0, .int 0, .ref q1, .ref q4, .null, .null]))] ++ (ta9 ++ tb0)) H := by rw [eta9]; exact tl_P (tl_park (k := [(h0, .inr (2, [.int 0, .int 0, .int 0, .ref q1, .ref q4, .null, .null]))]) (x := [(q7, .inl (K 3, 6, .inl (fun _ => 0)))])) hP
  replace hD : va_D A ([(h0, .inr (2, [.int 0, .int 0, .int 0, .ref q1, .ref q4, .null, .null]))] ++ (ta9 ++ tb0)) := by rw [eta9]; exact tl_D (tl_park (k := [(h0, .inr (2, [.int 0, .int 0, .int 0, .ref q1, .ref q4, .null, .null]))]) (x := [(q7, .inl (K 3, 6, .inl (fun _ => 0)))])) hD
  refine va_putF (D := (dC, dI)) (ci := 2) (v := .ref q7) (ty := .array .boolean) (C := RX2) (T := TX2) (N := 7) hx hb hts hi2 tyX2 tyX2_ok nmX2 hown hK hP hD hS 0 rfl rfl 5 (by decide) (hts (.fieldLink RX2 28 "CrateHelpers$Rule" "isPart" "[Z") (by decide +kernel)) (fun _ h9 => h9) rfl hin rfl (by decide +kernel) rfl rfl (Nat.le_of_ble_eq_true rfl) dX2_init_40 (fun H locs hP9 hD9 hS9 => ?_)
  clear hP hD hS
  have hP := hP9; have hD := hD9; have hS := hS9
  clear hP9 hD9 hS9
  replace hP : va_P (dC, dI) vwCl ([(h0, .inr (2, [.int 0, .int 0, .int 0, .ref q1, .ref q4, .ref q7, .null]))] ++ (ta9 ++ tb0)) H := hP
  replace hD : va_D A ([(h0, .inr (2, [.int 0, .int 0, .int 0, .ref q1, .ref q4, .ref q7, .null]))] ++ (ta9 ++ tb0)) := hD
  refine lv_aload_n hx hb dX2_init_43 rfl (lv_at hl 0 rfl) ?_
  refine lv_bipush (v := 6) hx hb dX2_init_44 (by decide) ?_
  refine va_newa (atype := .int) (ty := .int) (a0 := (6, .inl (fun _ => 0))) (N' := 6) hx hb (hts (.arrayClass .int) (by decide +kernel)) rfl hK hP hD hS hA (fun _ => rfl) (by decide) (by decide) (by decide) (Nat.le_of_ble_eq_true rfl) (Nat.le_of_ble_eq_true rfl) dX2_init_46 (fun q10 cA11 H hK9 hP9 hD9 hS9 => ?_)
  clear hP hD hS hK
  have hP := hP9; have hD := hD9; have hS := hS9; have hK := hK9
  clear hP9 hD9 hS9 hK9
  obtain rfl : K 0 = cA11 := ty_u hK 0 8 rfl rfl
  replace hK := hK.sub (tys' := [(K 0, .int), (K 1, .byte), (K 2, .short), (K 3, .boolean), (K 4, .long), (K 5, .object RX1), (K 6, .object RX2), (K 7, .array .int)]) [0, 1, 2, 3, 4, 5, 6, 7] rfl
  replace hP := tl_P tl_rot hP
  replace hD := tl_D tl_rot hD
  replace hP : va_P (dC, dI) vwCl ([(h0, .inr (2, [.int 0, .int 0, .int 0, .ref q1, .ref q4, .ref q7, .null])), (q10, .inl (K 0, 6, .inl (fun _ => 0)))] ++ (ta9 ++ tb0)) H := hP
  replace hD : va_D A ([(h0, .inr (2, [.int 0, .int 0, .int 0, .ref q1, .ref q4, .ref q7, .null])), (q10, .inl (K 0, 6, .inl (fun _ => 0)))] ++ (ta9 ++ tb0)) := hD
  refine W.widen (k := 4) (n := 24) (Nat.le_of_ble_eq_true rfl) (Nat.le_of_ble_eq_true rfl) ?_
  obtain ⟨ta12, eta12⟩ : ∃ t : va_W, t = ta9 ++ [(q10, .inl (K 0, 6, .inl (fun _ => 0)))] := ⟨_, rfl⟩
  have fta12 : ta12 = [(q1, .inl (K 0, 6, .inl (fun _ => 0))), (q4, .inl (K 0, 6, .inl (fun _ => 0))), (q7, .inl (K 3, 6, .inl (fun _ => 0))), (q10, .inl (K 0, 6, .inl (fun _ => 0)))] := by rw [eta12, fta9]; rfl
  clear fta9
  replace hP : va_P (dC, dI) vwCl ([(h0, .inr (2, [.int 0, .int 0, .int 0, .ref q1, .ref q4, .ref q7, .null]))] ++ (ta12 ++ tb0)) H := by rw [eta12]; exact tl_P (tl_park (k := [(h0, .inr (2, [.int 0, .int 0, .int 0, .ref q1, .ref q4, .ref q7, .null]))]) (x := [(q10, .inl (K 0, 6, .inl (fun _ => 0)))])) hP
  replace hD : va_D A ([(h0, .inr (2, [.int 0, .int 0, .int 0, .ref q1, .ref q4, .ref q7, .null]))] ++ (ta12 ++ tb0)) := by rw [eta12]; exact tl_D (tl_park (k := [(h0, .inr (2, [.int 0, .int 0, .int 0, .ref q1, .ref q4, .ref q7, .null]))]) (x := [(q10, .inl (K 0, 6, .inl (fun _ => 0)))])) hD
  refine va_putF (D := (dC, dI)) (ci := 2) (v := .ref q10) (ty := .array .int) (C := RX2) (T := TX2) (N := 7) hx hb hts hi2 tyX2 tyX2_ok nmX2 hown hK hP hD hS 0 rfl rfl 6 (by decide) (hts (.fieldLink RX2 32 "CrateHelpers$Rule" "weightOf" "[I") (by decide +kernel)) (fun _ h9 => h9) rfl hin rfl (by decide +kernel) rfl rfl (Nat.le_of_ble_eq_true rfl) dX2_init_48 (fun H locs hP9 hD9 hS9 => ?_)
  clear hP hD hS
  have hP := hP9; have hD := hD9; have hS := hS9
  clear hP9 hD9 hS9
  replace hP : va_P (dC, dI) vwCl ([(h0, .inr (2, [.int 0, .int 0, .int 0, .ref q1, .ref q4, .ref q7, .ref q10]))] ++ (ta12 ++ tb0)) H := hP
  replace hD : va_D A ([(h0, .inr (2, [.int 0, .int 0, .int 0, .ref q1, .ref q4, .ref q7, .ref q10]))] ++ (ta12 ++ tb0)) := hD
  rw [fta12] at hP hD
  rw [etb0] at hP hD
  have hP9 := hP.sub (ws' := [(h0, .inr (2, [.int 0, .int 0, .int 0, .ref q1, .ref q4, .ref q7, .ref q10])), (q1, .inl (K 0, 6, .inl (fun _ => 0))), (q4, .inl (K 0, 6, .inl (fun _ => 0))), (q7, .inl (K 3, 6, .inl (fun _ => 0))), (q10, .inl (K 0, 6, .inl (fun _ => 0)))]) [0, 1, 2, 3, 4] rfl
  have hD9 := hD.sub (ws' := [(h0, .inr (2, [.int 0, .int 0, .int 0, .ref q1, .ref q4, .ref q7, .ref q10])), (q1, .inl (K 0, 6, .inl (fun _ => 0))), (q4, .inl (K 0, 6, .inl (fun _ => 0))), (q7, .inl (K 3, 6, .inl (fun _ => 0))), (q10, .inl (K 0, 6, .inl (fun _ => 0)))]) [0, 1, 2, 3, 4] (by decide) rfl
  exact W.vret hx hb hr (fun t ht hW => ⟨⟨(), rfl, trivial, q1, q4, q7, q10, by rw [ht]; exact hP9, va_K.moved hW.alike hK, hD9⟩, hS.F ht⟩) hS.2.2 dX2_init_51
set_option maxHeartbeats 4000000 in
set_option maxRecDepth 100000 in
/-- Team() -/
theorem z_X4_init (l : Launch) (dC : Nat → ClassId) (dI : Nat → Nat → Nat) (sz : Nat) (K : Nat → ClassId) (h0 : Nat) : Met l yX4_init wsX4_init ({ frames := 1, cells := 5, slots := 220, locals := 24 }) (va_Pc [.ref h0] (fun U => U.heap.size = sz ∧ va_P (dC, dI) vwCl [(h0, .inr (4, [.int 0, .int 0, .null, .null, .null, .null, .null]))] U.heap ∧ va_K (dC, dI) vwCl [(K 0, .int), (K 1, .byte), (K 2, .short), (K 3, .boolean), (K 4, .long), (K 5, .object RX1), (K 6, .object RX2), (K 7, .array .int)] U ∧ va_D (fun _ => True) [(h0, .inr (4, [.int 0, .int 0, .null, .null, .null, .null, .null]))])) (va_Qv (fun (_ : Unit) => True) (fun (_ : Unit) (t : State) => ∃ (a1 : Nat) (a2 : Nat) (a3 : Nat) (a4 : Nat) (a5 : Nat), va_P (dC, dI) vwCl [(h0, .inr (4, [.int 1, .int 0, .ref a1, .ref a2, .ref a3, .ref a4, .ref a5])), (a1, .inl (K 0, 5, .inl (fun _ => 0))), (a2, .inl (K 0, 200, .inl (fun _ => 0))), (a3, .inl (K 0, 5, .inl (fun _ => 0))), (a4, .inl (K 0, 5, .inl (fun _ => 0))), (a5, .inl (K 0, 5, .inl (fun _ => 0)))] t.heap ∧ va_K (dC, dI) vwCl [(K 0, .int), (K 1, .byte), (K 2, .short), (K 3, .boolean), (K 4, .long), (K 5, .object RX1), (K 6, .object RX2), (K 7, .array .int)] t ∧ va_D (va_A [(h0, .inr (4, [.int 0, .int 0, .null, .null, .null, .null, .null]))] sz) [(h0, .inr (4, [.int 1, .int 0, .ref a1, .ref a2, .ref a3, .ref a4, .ref a5])), (a1, .inl (K 0, 5, .inl (fun _ => 0))), (a2, .inl (K 0, 200, .inl (fun _ => 0))), (a3, .inl (K 0, 5, .inl (fun _ => 0))), (a4, .inl (K 0, 5, .inl (fun _ => 0))), (a5, .inl (K 0, 5, .inl (fun _ => 0)))]) (va_A [(h0, .inr (4, [.int 0, .int 0, .null, .null, .null, .null, .null]))] sz)) 5 220 (va_A [(h0, .inr (4, [.int 0, .int 0, .null, .null, .null, .null, .null]))] sz) := by
  refine Met.ofW (cc := cX4_init) (maxL := 1) (ret := none) (by decide) rfl ?_
  intro p e s m args below meth c s₁ B hml hv
  obtain ⟨rfl, hsz, hP, hK, hD0⟩ := hv
  have hx := B.exec
  have hb := B.bytes
  have hr := B.returns
  have hts := atoms_spec (ws := wsX4_init) B.pre
  have hown : s.vm.findClass RX4 = some m.cls := findClass_of_methodNamed B.named
  have hlocks := B.notSynchronized
  have hin : meth.name = "<init>" := (name_of_methodNamed B.named B.method).1
  have hi4 : ∀ w ∈ u_ws RX4 TX4 7, w ∈ wsX4_init := fun w h => List.mem_cons_of_mem _ (List.mem_append_right _ h)
  subst hsz
  replace hD := hD0.self (sz := s.heap.size)
  generalize hAe : va_A [(h0, .inr (4, [.int 0, .int 0, .null, .null, .null, .null, .null]))] s.heap.size = A at hD ⊢
  have hA : ∀ q : Nat, s.heap.size ≤ q → A q := fun q h => by rw [← hAe]; exact Or.inr h
  have hS : va_S A s.heap s.heap [] := va_S.rf
  replace hP : va_P (dC, dI) vwCl [(h0, .inr (4, [.int 0, .int 0, .null, .null, .null, .null, .null]))] s.heap := hP
  have hl := lv_entry ([.ref h0]) (n := 1) (Nat.le_of_ble_eq_true rfl)
  rw [lg_entry_eq]
  generalize (lg_sl ([.ref h0]) ++ List.replicate (1 - (lg_sl ([.ref h0])).length) Slot.unset).toArray = ls at hl ⊢
  have hl : lv_has ls 1 [(0, .ref h0)] := hl
  obtain ⟨ta0, eta0⟩ : ∃ t : va_W, t = [] := ⟨_, rfl⟩
  obtain ⟨tb0, etb0⟩ : ∃ t : va_W, t = [] := ⟨_, rfl⟩
  have fta0 : ta0 = [] := eta0
  replace hP : va_P (dC, dI) vwCl ([(h0, .inr (4, [.int 0, .int 0, .null, .null, .null, .null, .null]))] ++ (ta0 ++ tb0)) s.heap := by rw [eta0, etb0]; exact hP
  replace hD : va_D A ([(h0, .inr (4, [.int 0, .int 0, .null, .null, .null, .null, .null]))] ++ (ta0 ++ tb0)) := by rw [eta0, etb0]; exact hD
  refine lv_aload_n hx hb dX4_init_0 rfl (lv_at hl 0 rfl) ?_
  refine W.objInit hx hb hown (hts (.methodLink RX4 3 objectInit) (by decide +kernel)) (hts (.instanceMethod objectInit) (by decide +kernel)) (hts _ (List.mem_of_getElem? (i := 3) rfl)) rfl (by rw [hml]; exact hl.1) rfl dX4_init_1 (Nat.le_of_ble_eq_true rfl) (Nat.le_of_ble_eq_true rfl) ?_
  refine W.eq (g2 := F0 m 4 ls []) rfl ?_
  refine lv_aload_n hx hb dX4_init_4 rfl (lv_at hl 0 rfl) ?_
  refine lv_iconst (v := 1) hx hb dX4_init_5 (by decide) ?_
  refine va_put (D := (dC, dI)) (ci := 4) (v := .int 1) (ty := .int) (C := RX4) (T := TX4) (N := 7) hx hb hts hi4 tyX4 tyX4_ok nmX4 hown hK hP hD hS 0 rfl rfl 0 (by decide) (hts (.fieldLink RX4 9 "CrateHelpers$Team" "size" "I") (by decide +kernel)) (fun _ h9 => h9) rfl (by decide +kernel) rfl rfl (Nat.le_of_ble_eq_true rfl) dX4_init_6 (fun H locs hP9 hD9 hS9 => ?_)
  clear hP hD hS
  have hP := hP9; have hD := hD9; have hS := hS9
  clear hP9 hD9 hS9
  replace hP : va_P (dC, dI) vwCl ([(h0, .inr (4, [.int 1, .int 0, .null, .null, .null, .null, .null]))] ++ (ta0 ++ tb0)) H := hP
  replace hD : va_D A ([(h0, .inr (4, [.int 1, .int 0, .null, .null, .null, .null, .null]))] ++ (ta0 ++ tb0)) := hD
  refine lv_aload_n hx hb dX4_init_9 rfl (lv_at hl 0 rfl) ?_
  refine lv_iconst (v := 0) hx hb dX4_init_10 (by decide) ?_
  refine va_put (D := (dC, dI)) (ci := 4) (v := .int 0) (ty := .int) (C := RX4) (T := TX4) (N := 7) hx hb hts hi4 tyX4 tyX4_ok nmX4 hown hK hP hD hS 0 rfl rfl 1 (by decide) (hts (.fieldLink RX4 15 "CrateHelpers$Team" "scheduled" "I") (by decide +kernel)) (fun _ h9 => h9) rfl (by decide +kernel) rfl rfl (Nat.le_of_ble_eq_true rfl) dX4_init_11 (fun H locs hP9 hD9 hS9 => ?_)
  clear hP hD hS
  have hP := hP9; have hD := hD9; have hS := hS9
  clear hP9 hD9 hS9
  replace hP : va_P (dC, dI) vwCl ([(h0, .inr (4, [.int 1, .int 0, .null, .null, .null, .null, .null]))] ++ (ta0 ++ tb0)) H := hP
  replace hD : va_D A ([(h0, .inr (4, [.int 1, .int 0, .null, .null, .null, .null, .null]))] ++ (ta0 ++ tb0)) := hD
  refine lv_aload_n hx hb dX4_init_14 rfl (lv_at hl 0 rfl) ?_
  refine lv_iconst (v := 5) hx hb dX4_init_15 (by decide) ?_
  refine va_newa (atype := .int) (ty := .int) (a0 := (5, .inl (fun _ => 0))) (N' := 5) hx hb (hts (.arrayClass .int) (by decide +kernel)) rfl hK hP hD hS hA (fun _ => rfl) (by decide) (by decide) (by decide) (Nat.le_of_ble_eq_true rfl) (Nat.le_of_ble_eq_true rfl) dX4_init_16 (fun q1 cA2 H hK9 hP9 hD9 hS9 => ?_)
  clear hP hD hS hK
  have hP := hP9; have hD := hD9; have hS := hS9; have hK := hK9
  clear hP9 hD9 hS9 hK9
  obtain rfl : K 0 = cA2 := ty_u hK 0 8 rfl rfl
  replace hK := hK.sub (tys' := [(K 0, .int), (K 1, .byte), (K 2, .short), (K 3, .boolean), (K 4, .long), (K 5, .object RX1), (K 6, .object RX2), (K 7, .array .int)]) [0, 1, 2, 3, 4, 5, 6, 7] rfl
  replace hP := tl_P tl_rot hP
  replace hD := tl_D tl_rot hD
  replace hP : va_P (dC, dI) vwCl ([(h0, .inr (4, [.int 1, .int 0, .null, .null, .null, .null, .null])), (q1, .inl (K 0, 5, .inl (fun _ => 0)))] ++ (ta0 ++ tb0)) H := hP
  replace hD : va_D A ([(h0, .inr (4, [.int 1, .int 0, .null, .null, .null, .null, .null])), (q1, .inl (K 0, 5, .inl (fun _ => 0)))] ++ (ta0 ++ tb0)) := hD
  refine W.widen (k := 1) (n := 5) (Nat.le_of_ble_eq_true rfl) (Nat.le_of_ble_eq_true rfl) ?_
  obtain ⟨ta3, eta3⟩ : ∃ t : va_W, t = ta0 ++ [(q1, .inl (K 0, 5, .inl (fun _ => 0)))] := ⟨_, rfl⟩
  have fta3 : ta3 = [(q1, .inl (K 0, 5, .inl (fun _ => 0)))] := by rw [eta3, fta0]; rfl
  clear fta0
  replace hP : va_P (dC, dI) vwCl ([(h0, .inr (4, [.int 1, .int 0, .null, .null, .null, .null, .null]))] ++ (ta3 ++ tb0)) H := by rw [eta3]; exact tl_P (tl_park (k := [(h0, .inr (4, [.int 1, .int 0, .null, .null, .null, .null, .null]))]) (x := [(q1, .inl (K 0, 5, .inl (fun _ => 0)))])) hP
  replace hD : va_D A ([(h0, .inr (4, [.int 1, .int 0, .null, .null, .null, .null, .null]))] ++ (ta3 ++ tb0)) := by rw [eta3]; exact tl_D (tl_park (k := [(h0, .inr (4, [.int 1, .int 0, .null, .null, .null, .null, .null]))]) (x := [(q1, .inl (K 0, 5, .inl (fun _ => 0)))])) hD
  refine va_putF (D := (dC, dI)) (ci := 4) (v := .ref q1) (ty := .array .int) (C := RX4) (T := TX4) (N := 7) hx hb hts hi4 tyX4 tyX4_ok nmX4 hown hK hP hD hS 0 rfl rfl 2 (by decide) (hts (.fieldLink RX4 18 "CrateHelpers$Team" "failAt" "[I") (by decide +kernel)) (fun _ h9 => h9) rfl hin rfl (by decide +kernel) rfl rfl (Nat.le_of_ble_eq_true rfl) dX4_init_18 (fun H locs hP9 hD9 hS9 => ?_)
  clear hP hD hS
  have hP := hP9; have hD := hD9; have hS := hS9
  clear hP9 hD9 hS9
  replace hP : va_P (dC, dI) vwCl ([(h0, .inr (4, [.int 1, .int 0, .ref q1, .null, .null, .null, .null]))] ++ (ta3 ++ tb0)) H := hP
  replace hD : va_D A ([(h0, .inr (4, [.int 1, .int 0, .ref q1, .null, .null, .null, .null]))] ++ (ta3 ++ tb0)) := hD
  refine lv_aload_n hx hb dX4_init_21 rfl (lv_at hl 0 rfl) ?_
  refine lv_sipush (v := 200) hx hb dX4_init_22 (by decide) ?_
  refine va_newa (atype := .int) (ty := .int) (a0 := (200, .inl (fun _ => 0))) (N' := 200) hx hb (hts (.arrayClass .int) (by decide +kernel)) rfl hK hP hD hS hA (fun _ => rfl) (by decide) (by decide) (by decide) (Nat.le_of_ble_eq_true rfl) (Nat.le_of_ble_eq_true rfl) dX4_init_25 (fun q4 cA5 H hK9 hP9 hD9 hS9 => ?_)
  clear hP hD hS hK
  have hP := hP9; have hD := hD9; have hS := hS9; have hK := hK9
  clear hP9 hD9 hS9 hK9
  obtain rfl : K 0 = cA5 := ty_u hK 0 8 rfl rfl
  replace hK := hK.sub (tys' := [(K 0, .int), (K 1, .byte), (K 2, .short), (K 3, .boolean), (K 4, .long), (K 5, .object RX1), (K 6, .object RX2), (K 7, .array .int)]) [0, 1, 2, 3, 4, 5, 6, 7] rfl
  replace hP := tl_P tl_rot hP
  replace hD := tl_D tl_rot hD
  replace hP : va_P (dC, dI) vwCl ([(h0, .inr (4, [.int 1, .int 0, .ref q1, .null, .null, .null, .null])), (q4, .inl (K 0, 200, .inl (fun _ => 0)))] ++ (ta3 ++ tb0)) H := hP
  replace hD : va_D A ([(h0, .inr (4, [.int 1, .int 0, .ref q1, .null, .null, .null, .null])), (q4, .inl (K 0, 200, .inl (fun _ => 0)))] ++ (ta3 ++ tb0)) := hD
  refine W.widen (k := 2) (n := 205) (Nat.le_of_ble_eq_true rfl) (Nat.le_of_ble_eq_true rfl) ?_
  obtain ⟨ta6, eta6⟩ : ∃ t : va_W, t = ta3 ++ [(q4, .inl (K 0, 200, .inl (fun _ => 0)))] := ⟨_, rfl⟩
  have fta6 : ta6 = [(q1, .inl (K 0, 5, .inl (fun _ => 0))), (q4, .inl (K 0, 200, .inl (fun _ => 0)))] := by rw [eta6, fta3]; rfl
  clear fta3
  replace hP : va_P (dC, dI) vwCl ([(h0, .inr (4, [.int 1, .int 0, .ref q1, .null, .null, .null, .null]))] ++ (ta6 ++ tb0)) H := by rw [eta6]; exact tl_P (tl_park (k := [(h0, .inr (4, [.int 1, .int 0, .ref q1, .null, .null, .null, .null]))]) (x := [(q4, .inl (K 0, 200, .inl (fun _ => 0)))])) hP
  replace hD : va_D A ([(h0, .inr (4, [.int 1, .int 0, .ref q1, .null, .null, .null, .null]))] ++ (ta6 ++ tb0)) := by rw [eta6]; exact tl_D (tl_park (k := [(h0, .inr (4, [.int 1, .int 0, .ref q1, .null, .null, .null, .null]))]) (x := [(q4, .inl (K 0, 200, .inl (fun _ => 0)))])) hD
  refine va_putF (D := (dC, dI)) (ci := 4) (v := .ref q4) (ty := .array .int) (C := RX4) (T := TX4) (N := 7) hx hb hts hi4 tyX4 tyX4_ok nmX4 hown hK hP hD hS 0 rfl rfl 3 (by decide) (hts (.fieldLink RX4 22 "CrateHelpers$Team" "schedule" "[I") (by decide +kernel)) (fun _ h9 => h9) rfl hin rfl (by decide +kernel) rfl rfl (Nat.le_of_ble_eq_true rfl) dX4_init_27 (fun H locs hP9 hD9 hS9 => ?_)
  clear hP hD hS
  have hP := hP9; have hD := hD9; have hS := hS9
  clear hP9 hD9 hS9
  replace hP : va_P (dC, dI) vwCl ([(h0, .inr (4, [.int 1, .int 0, .ref q1, .ref q4, .null, .null, .null]))] ++ (ta6 ++ tb0)) H := hP
  replace hD : va_D A ([(h0, .inr (4, [.int 1, .int 0, .ref q1, .ref q4, .null, .null, .null]))] ++ (ta6 ++ tb0)) := hD
  refine lv_aload_n hx hb dX4_init_30 rfl (lv_at hl 0 rfl) ?_
  refine lv_iconst (v := 5) hx hb dX4_init_31 (by decide) ?_
  refine va_newa (atype := .int) (ty := .int) (a0 := (5, .inl (fun _ => 0))) (N' := 5) hx hb (hts (.arrayClass .int) (by decide +kernel)) rfl hK hP hD hS hA (fun _ => rfl) (by decide) (by decide) (by decide) (Nat.le_of_ble_eq_true rfl) (Nat.le_of_ble_eq_true rfl) dX4_init_32 (fun q7 cA8 H hK9 hP9 hD9 hS9 => ?_)
  clear hP hD hS hK
  have hP := hP9; have hD := hD9; have hS := hS9; have hK := hK9
  clear hP9 hD9 hS9 hK9
  obtain rfl : K 0 = cA8 := ty_u hK 0 8 rfl rfl
  replace hK := hK.sub (tys' := [(K 0, .int), (K 1, .byte), (K 2, .short), (K 3, .boolean), (K 4, .long), (K 5, .object RX1), (K 6, .object RX2), (K 7, .array .int)]) [0, 1, 2, 3, 4, 5, 6, 7] rfl
  replace hP := tl_P tl_rot hP
  replace hD := tl_D tl_rot hD
  replace hP : va_P (dC, dI) vwCl ([(h0, .inr (4, [.int 1, .int 0, .ref q1, .ref q4, .null, .null, .null])), (q7, .inl (K 0, 5, .inl (fun _ => 0)))] ++ (ta6 ++ tb0)) H := hP
  replace hD : va_D A ([(h0, .inr (4, [.int 1, .int 0, .ref q1, .ref q4, .null, .null, .null])), (q7, .inl (K 0, 5, .inl (fun _ => 0)))] ++ (ta6 ++ tb0)) := hD
  refine W.widen (k := 3) (n := 210) (Nat.le_of_ble_eq_true rfl) (Nat.le_of_ble_eq_true rfl) ?_
  obtain ⟨ta9, eta9⟩ : ∃ t : va_W, t = ta6 ++ [(q7, .inl (K 0, 5, .inl (fun _ => 0)))] := ⟨_, rfl⟩
  have fta9 : ta9 = [(q1, .inl (K 0, 5, .inl (fun _ => 0))), (q4, .inl (K 0, 200, .inl (fun _ => 0))), (q7, .inl (K 0, 5, .inl (fun _ => 0)))] := by rw [eta9, fta6]; rfl
  clear fta6
  replace hP : va_P (dC, dI) vwCl ([(h0, .inr (4, [.int 1, .int 0, .ref q1, .ref q4, .null, .null, .null]))] ++ (ta9 ++ tb0)) H := by rw [eta9]; exact tl_P (tl_park (k := [(h0, .inr (4, [.int 1, .int 0, .ref q1, .ref q4, .null, .null, .null]))]) (x := [(q7, .inl (K 0, 5, .inl (fun _ => 0)))])) hP
  replace hD : va_D A ([(h0, .inr (4, [.int 1, .int 0, .ref q1, .ref q4, .null, .null, .null]))] ++ (ta9 ++ tb0)) := by rw [eta9]; exact tl_D (tl_park (k := [(h0, .inr (4, [.int 1, .int 0, .ref q1, .ref q4, .null, .null, .null]))]) (x := [(q7, .inl (K 0, 5, .inl (fun _ => 0)))])) hD
  refine va_putF (D := (dC, dI)) (ci := 4) (v := .ref q7) (ty := .array .int) (C := RX4) (T := TX4) (N := 7) hx hb hts hi4 tyX4 tyX4_ok nmX4 hown hK hP hD hS 0 rfl rfl 4 (by decide) (hts (.fieldLink RX4 25 "CrateHelpers$Team" "done" "[I") (by decide +kernel)) (fun _ h9 => h9) rfl hin rfl (by decide +kernel) rfl rfl (Nat.le_of_ble_eq_true rfl) dX4_init_34 (fun H locs hP9 hD9 hS9 => ?_)
  clear hP hD hS
  have hP := hP9; have hD := hD9; have hS := hS9
  clear hP9 hD9 hS9
  replace hP : va_P (dC, dI) vwCl ([(h0, .inr (4, [.int 1, .int 0, .ref q1, .ref q4, .ref q7, .null, .null]))] ++ (ta9 ++ tb0)) H := hP
  replace hD : va_D A ([(h0, .inr (4, [.int 1, .int 0, .ref q1, .ref q4, .ref q7, .null, .null]))] ++ (ta9 ++ tb0)) := hD
  refine lv_aload_n hx hb dX4_init_37 rfl (lv_at hl 0 rfl) ?_
  refine lv_iconst (v := 5) hx hb dX4_init_38 (by decide) ?_
  refine va_newa (atype := .int) (ty := .int) (a0 := (5, .inl (fun _ => 0))) (N' := 5) hx hb (hts (.arrayClass .int) (by decide +kernel)) rfl hK hP hD hS hA (fun _ => rfl) (by decide) (by decide) (by decide) (Nat.le_of_ble_eq_true rfl) (Nat.le_of_ble_eq_true rfl) dX4_init_39 (fun q10 cA11 H hK9 hP9 hD9 hS9 => ?_)
  clear hP hD hS hK
  have hP := hP9; have hD := hD9; have hS := hS9; have hK := hK9
  clear hP9 hD9 hS9 hK9
  obtain rfl : K 0 = cA11 := ty_u hK 0 8 rfl rfl
  replace hK := hK.sub (tys' := [(K 0, .int), (K 1, .byte), (K 2, .short), (K 3, .boolean), (K 4, .long), (K 5, .object RX1), (K 6, .object RX2), (K 7, .array .int)]) [0, 1, 2, 3, 4, 5, 6, 7] rfl
  replace hP := tl_P tl_rot hP
  replace hD := tl_D tl_rot hD
  replace hP : va_P (dC, dI) vwCl ([(h0, .inr (4, [.int 1, .int 0, .ref q1, .ref q4, .ref q7, .null, .null])), (q10, .inl (K 0, 5, .inl (fun _ => 0)))] ++ (ta9 ++ tb0)) H := hP
  replace hD : va_D A ([(h0, .inr (4, [.int 1, .int 0, .ref q1, .ref q4, .ref q7, .null, .null])), (q10, .inl (K 0, 5, .inl (fun _ => 0)))] ++ (ta9 ++ tb0)) := hD
  refine W.widen (k := 4) (n := 215) (Nat.le_of_ble_eq_true rfl) (Nat.le_of_ble_eq_true rfl) ?_
  obtain ⟨ta12, eta12⟩ : ∃ t : va_W, t = ta9 ++ [(q10, .inl (K 0, 5, .inl (fun _ => 0)))] := ⟨_, rfl⟩
  have fta12 : ta12 = [(q1, .inl (K 0, 5, .inl (fun _ => 0))), (q4, .inl (K 0, 200, .inl (fun _ => 0))), (q7, .inl (K 0, 5, .inl (fun _ => 0))), (q10, .inl (K 0, 5, .inl (fun _ => 0)))] := by rw [eta12, fta9]; rfl
  clear fta9
  replace hP : va_P (dC, dI) vwCl ([(h0, .inr (4, [.int 1, .int 0, .ref q1, .ref q4, .ref q7, .null, .null]))] ++ (ta12 ++ tb0)) H := by rw [eta12]; exact tl_P (tl_park (k := [(h0, .inr (4, [.int 1, .int 0, .ref q1, .ref q4, .ref q7, .null, .null]))]) (x := [(q10, .inl (K 0, 5, .inl (fun _ => 0)))])) hP
  replace hD : va_D A ([(h0, .inr (4, [.int 1, .int 0, .ref q1, .ref q4, .ref q7, .null, .null]))] ++ (ta12 ++ tb0)) := by rw [eta12]; exact tl_D (tl_park (k := [(h0, .inr (4, [.int 1, .int 0, .ref q1, .ref q4, .ref q7, .null, .null]))]) (x := [(q10, .inl (K 0, 5, .inl (fun _ => 0)))])) hD
  refine va_putF (D := (dC, dI)) (ci := 4) (v := .ref q10) (ty := .array .int) (C := RX4) (T := TX4) (N := 7) hx hb hts hi4 tyX4 tyX4_ok nmX4 hown hK hP hD hS 0 rfl rfl 5 (by decide) (hts (.fieldLink RX4 28 "CrateHelpers$Team" "idle" "[I") (by decide +kernel)) (fun _ h9 => h9) rfl hin rfl (by decide +kernel) rfl rfl (Nat.le_of_ble_eq_true rfl) dX4_init_41 (fun H locs hP9 hD9 hS9 => ?_)
  clear hP hD hS
  have hP := hP9; have hD := hD9; have hS := hS9
  clear hP9 hD9 hS9
  replace hP : va_P (dC, dI) vwCl ([(h0, .inr (4, [.int 1, .int 0, .ref q1, .ref q4, .ref q7, .ref q10, .null]))] ++ (ta12 ++ tb0)) H := hP
  replace hD : va_D A ([(h0, .inr (4, [.int 1, .int 0, .ref q1, .ref q4, .ref q7, .ref q10, .null]))] ++ (ta12 ++ tb0)) := hD
  refine lv_aload_n hx hb dX4_init_44 rfl (lv_at hl 0 rfl) ?_
  refine lv_iconst (v := 5) hx hb dX4_init_45 (by decide) ?_
  refine va_newa (atype := .int) (ty := .int) (a0 := (5, .inl (fun _ => 0))) (N' := 5) hx hb (hts (.arrayClass .int) (by decide +kernel)) rfl hK hP hD hS hA (fun _ => rfl) (by decide) (by decide) (by decide) (Nat.le_of_ble_eq_true rfl) (Nat.le_of_ble_eq_true rfl) dX4_init_46 (fun q13 cA14 H hK9 hP9 hD9 hS9 => ?_)
  clear hP hD hS hK
  have hP := hP9; have hD := hD9; have hS := hS9; have hK := hK9
  clear hP9 hD9 hS9 hK9
  obtain rfl : K 0 = cA14 := ty_u hK 0 8 rfl rfl
  replace hK := hK.sub (tys' := [(K 0, .int), (K 1, .byte), (K 2, .short), (K 3, .boolean), (K 4, .long), (K 5, .object RX1), (K 6, .object RX2), (K 7, .array .int)]) [0, 1, 2, 3, 4, 5, 6, 7] rfl
  replace hP := tl_P tl_rot hP
  replace hD := tl_D tl_rot hD
  replace hP : va_P (dC, dI) vwCl ([(h0, .inr (4, [.int 1, .int 0, .ref q1, .ref q4, .ref q7, .ref q10, .null])), (q13, .inl (K 0, 5, .inl (fun _ => 0)))] ++ (ta12 ++ tb0)) H := hP
  replace hD : va_D A ([(h0, .inr (4, [.int 1, .int 0, .ref q1, .ref q4, .ref q7, .ref q10, .null])), (q13, .inl (K 0, 5, .inl (fun _ => 0)))] ++ (ta12 ++ tb0)) := hD
  refine W.widen (k := 5) (n := 220) (Nat.le_of_ble_eq_true rfl) (Nat.le_of_ble_eq_true rfl) ?_
  obtain ⟨ta15, eta15⟩ : ∃ t : va_W, t = ta12 ++ [(q13, .inl (K 0, 5, .inl (fun _ => 0)))] := ⟨_, rfl⟩
  have fta15 : ta15 = [(q1, .inl (K 0, 5, .inl (fun _ => 0))), (q4, .inl (K 0, 200, .inl (fun _ => 0))), (q7, .inl (K 0, 5, .inl (fun _ => 0))), (q10, .inl (K 0, 5, .inl (fun _ => 0))), (q13, .inl (K 0, 5, .inl (fun _ => 0)))] := by rw [eta15, fta12]; rfl
  clear fta12
  replace hP : va_P (dC, dI) vwCl ([(h0, .inr (4, [.int 1, .int 0, .ref q1, .ref q4, .ref q7, .ref q10, .null]))] ++ (ta15 ++ tb0)) H := by rw [eta15]; exact tl_P (tl_park (k := [(h0, .inr (4, [.int 1, .int 0, .ref q1, .ref q4, .ref q7, .ref q10, .null]))]) (x := [(q13, .inl (K 0, 5, .inl (fun _ => 0)))])) hP
  replace hD : va_D A ([(h0, .inr (4, [.int 1, .int 0, .ref q1, .ref q4, .ref q7, .ref q10, .null]))] ++ (ta15 ++ tb0)) := by rw [eta15]; exact tl_D (tl_park (k := [(h0, .inr (4, [.int 1, .int 0, .ref q1, .ref q4, .ref q7, .ref q10, .null]))]) (x := [(q13, .inl (K 0, 5, .inl (fun _ => 0)))])) hD
  refine va_putF (D := (dC, dI)) (ci := 4) (v := .ref q13) (ty := .array .int) (C := RX4) (T := TX4) (N := 7) hx hb hts hi4 tyX4 tyX4_ok nmX4 hown hK hP hD hS 0 rfl rfl 6 (by decide) (hts (.fieldLink RX4 31 "CrateHelpers$Team" "replaced" "[I") (by decide +kernel)) (fun _ h9 => h9) rfl hin rfl (by decide +kernel) rfl rfl (Nat.le_of_ble_eq_true rfl) dX4_init_48 (fun H locs hP9 hD9 hS9 => ?_)
  clear hP hD hS
  have hP := hP9; have hD := hD9; have hS := hS9
  clear hP9 hD9 hS9
  replace hP : va_P (dC, dI) vwCl ([(h0, .inr (4, [.int 1, .int 0, .ref q1, .ref q4, .ref q7, .ref q10, .ref q13]))] ++ (ta15 ++ tb0)) H := hP
  replace hD : va_D A ([(h0, .inr (4, [.int 1, .int 0, .ref q1, .ref q4, .ref q7, .ref q10, .ref q13]))] ++ (ta15 ++ tb0)) := hD
  rw [fta15] at hP hD
  rw [etb0] at hP hD
  have hP9 := hP.sub (ws' := [(h0, .inr (4, [.int 1, .int 0, .ref q1, .ref q4, .ref q7, .ref q10, .ref q13])), (q1, .inl (K 0, 5, .inl (fun _ => 0))), (q4, .inl (K 0, 200, .inl (fun _ => 0))), (q7, .inl (K 0, 5, .inl (fun _ => 0))), (q10, .inl (K 0, 5, .inl (fun _ => 0))), (q13, .inl (K 0, 5, .inl (fun _ => 0)))]) [0, 1, 2, 3, 4, 5] rfl
  have hD9 := hD.sub (ws' := [(h0, .inr (4, [.int 1, .int 0, .ref q1, .ref q4, .ref q7, .ref q10, .ref q13])), (q1, .inl (K 0, 5, .inl (fun _ => 0))), (q4, .inl (K 0, 200, .inl (fun _ => 0))), (q7, .inl (K 0, 5, .inl (fun _ => 0))), (q10, .inl (K 0, 5, .inl (fun _ => 0))), (q13, .inl (K 0, 5, .inl (fun _ => 0)))]) [0, 1, 2, 3, 4, 5] (by decide) rfl
  exact W.vret hx hb hr (fun t ht hW => ⟨⟨(), rfl, trivial, q1, q4, q7, q10, q13, by rw [ht]; exact hP9, va_K.moved hW.alike hK, hD9⟩, hS.F ht⟩) hS.2.2 dX4_init_51
set_option maxHeartbeats 4000000 in
set_option maxRecDepth 100000 in
/-- Tree(any, 285) -/
theorem z_X5_init_285 (l : Launch) (dC : Nat → ClassId) (dI : Nat → Nat → Nat) (sz : Nat) (K : Nat → ClassId) (h0 : Nat) (p0 : Nat) : Met l yX5_init wsX5_init ({ frames := 2, cells := 11, slots := 13947, locals := 60 }) (va_Pc [.ref h0, .ref p0, .int 285] (fun U => U.heap.size = sz ∧ va_P (dC, dI) vwCl [(h0, .inr (5, [.null, .null, .null, .null, .null, .null, .null, .null, .null, .int 0, .int 0, .int 0, .null, .null, .null, .int 0]))] U.heap ∧ va_K (dC, dI) vwCl [(K 0, .int), (K 1, .byte), (K 2, .short), (K 3, .boolean), (K 4, .long), (K 5, .object RX1), (K 6, .object RX2), (K 7, .array .int)] U ∧ va_D (fun _ => True) [(h0, .inr (5, [.null, .null, .null, .null, .null, .null, .null, .null, .null, .int 0, .int 0, .int 0, .null, .null, .null, .int 0]))] ∧ nwX U)) (va_Qv (fun (_ : Unit) => True) (fun (_ : Unit) (t : State) => ∃ (a1 : Nat) (a2 : Nat) (a3 : Nat) (a4 : Nat) (a5 : Nat) (a6 : Nat) (a7 : Nat) (a8 : Nat) (a9 : Nat) (a10 : Nat) (a11 : Nat), va_P (dC, dI) vwCl [(h0, .inr (5, [.ref a1, .ref a2, .ref a3, .ref a4, .ref a5, .ref a6, .ref a7, .ref a8, .ref a9, .int 0, .int 0, .int 0, .ref a10, .ref a11, .ref p0, .int 1])), (a1, .inl (K 4, 1711, .inr (.inl (fun _ => 0)))), (a2, .inl (K 1, 1711, .inl (fun _ => 0))), (a3, .inl (K 1, 1711, .inl (fun _ => 0))), (a4, .inl (K 1, 1711, .inl (fun _ => 0))), (a5, .inl (K 1, 1711, .inl (fun _ => 0))), (a6, .inl (K 1, 1711, .inl (fun _ => 0))), (a7, .inl (K 2, 1711, .inl (fun _ => 0))), (a8, .inl (K 3, 1711, .inl (fun _ => 0))), (a9, .inl (K 0, 250, .inl (fun _ => 0))), (a10, .inl (K 0, 6, .inl (fun _ => 0))), (a11, .inr (0, [.int 0, .int (-9), .int (-1000000)]))] t.heap ∧ va_K (dC, dI) vwCl [(K 0, .int), (K 1, .byte), (K 2, .short), (K 3, .boolean), (K 4, .long), (K 5, .object RX1), (K 6, .object RX2), (K 7, .array .int)] t ∧ va_D (va_A [(h0, .inr (5, [.null, .null, .null, .null, .null, .null, .null, .null, .null, .int 0, .int 0, .int 0, .null, .null, .null, .int 0]))] sz) [(h0, .inr (5, [.ref a1, .ref a2, .ref a3, .ref a4, .ref a5, .ref a6, .ref a7, .ref a8, .ref a9, .int 0, .int 0, .int 0, .ref a10, .ref a11, .ref p0, .int 1])), (a1, .inl (K 4, 1711, .inr (.inl (fun _ => 0)))), (a2, .inl (K 1, 1711, .inl (fun _ => 0))), (a3, .inl (K 1, 1711, .inl (fun _ => 0))), (a4, .inl (K 1, 1711, .inl (fun _ => 0))), (a5, .inl (K 1, 1711, .inl (fun _ => 0))), (a6, .inl (K 1, 1711, .inl (fun _ => 0))), (a7, .inl (K 2, 1711, .inl (fun _ => 0))), (a8, .inl (K 3, 1711, .inl (fun _ => 0))), (a9, .inl (K 0, 250, .inl (fun _ => 0))), (a10, .inl (K 0, 6, .inl (fun _ => 0))), (a11, .inr (0, [.int 0, .int (-9), .int (-1000000)]))]) (va_A [(h0, .inr (5, [.null, .null, .null, .null, .null, .null, .null, .null, .null, .int 0, .int 0, .int 0, .null, .null, .null, .int 0]))] sz)) 11 13947 (va_A [(h0, .inr (5, [.null, .null, .null, .null, .null, .null, .null, .null, .null, .int 0, .int 0, .int 0, .null, .null, .null, .int 0]))] sz) := by
  refine Met.ofW (cc := cX5_init) (maxL := 4) (ret := none) (by decide) rfl ?_
  intro p e s m args below meth c s₁ B hml hv
  obtain ⟨rfl, hsz, hP, hK, hD0, hN⟩ := hv
  have hx := B.exec
  have hb := B.bytes
  have hr := B.returns
  have hts := atoms_spec (ws := wsX5_init) B.pre
  have hown : s.vm.findClass RX5 = some m.cls := findClass_of_methodNamed B.named
  have hlocks := B.notSynchronized
  have hin : meth.name = "<init>" := (name_of_methodNamed B.named B.method).1
  have hi5 : ∀ w ∈ u_ws RX5 TX5 16, w ∈ wsX5_init := fun w h => List.mem_cons_of_mem _ (List.mem_append_left _ (List.mem_append_right _ h))
  have hi0 : ∀ w ∈ u_ws RX0 TX0 3, w ∈ wsX5_init := fun w h => List.mem_cons_of_mem _ (List.mem_append_right _ h)
  subst hsz
  replace hD := hD0.self (sz := s.heap.size)
  generalize hAe : va_A [(h0, .inr (5, [.null, .null, .null, .null, .null, .null, .null, .null, .null, .int 0, .int 0, .int 0, .null, .null, .null, .int 0]))] s.heap.size = A at hD ⊢
  have hA : ∀ q : Nat, s.heap.size ≤ q → A q := fun q h => by rw [← hAe]; exact Or.inr h
  have hS : va_S A s.heap s.heap [] := va_S.rf
  replace hP : va_P (dC, dI) vwCl [(h0, .inr (5, [.null, .null, .null, .null, .null, .null, .null, .null, .null, .int 0, .int 0, .int 0, .null, .null, .null, .int 0]))] s.heap := hP
  have hl := lv_entry ([.ref h0, .ref p0, .int 285]) (n := 4) (Nat.le_of_ble_eq_true rfl)
  rw [lg_entry_eq]
  generalize (lg_sl ([.ref h0, .ref p0, .int 285]) ++ List.replicate (4 - (lg_sl ([.ref h0, .ref p0, .int 285])).length) Slot.unset).toArray = ls at hl ⊢
  have hl : lv_has ls 4 [(0, .ref h0), (1, .ref p0), (2, .int 285)] := hl
  obtain ⟨ta0, eta0⟩ : ∃ t : va_W, t = [] := ⟨_, rfl⟩
  obtain ⟨tb0, etb0⟩ : ∃ t : va_W, t = [] := ⟨_, rfl⟩
  have fta0 : ta0 = [] := eta0
  replace hP : va_P (dC, dI) vwCl ([(h0, .inr (5, [.null, .null, .null, .null, .null, .null, .null, .null, .null, .int 0, .int 0, .int 0, .null, .null, .null, .int 0]))] ++ (ta0 ++ tb0)) s.heap := by rw [eta0, etb0]; exact hP
  replace hD : va_D A ([(h0, .inr (5, [.null, .null, .null, .null, .null, .null, .null, .null, .null, .int 0, .int 0, .int 0, .null, .null, .null, .int 0]))] ++ (ta0 ++ tb0)) := by rw [eta0, etb0]; exact hD
  have hAO_RX1 : va_AO RX1 s := hN.2.2.2.2.1
  have hAO_RX2 : va_AO RX2 s := hN.2.2.2.2.2.1
  refine lv_aload_n hx hb dX5_init_0 rfl (lv_at hl 0 rfl) ?_
  refine W.objInit hx hb hown (hts (.methodLink RX5 5 objectInit) (by decide +kernel)) (hts (.instanceMethod objectInit) (by decide +kernel)) (hts _ (List.mem_of_getElem? (i := 3) rfl)) rfl (by rw [hml]; exact hl.1) rfl dX5_init_1 (Nat.le_of_ble_eq_true rfl) (Nat.le_of_ble_eq_true rfl) ?_
  refine W.eq (g2 := F0 m 4 ls []) rfl ?_
  refine lv_aload_n hx hb dX5_init_4 rfl (lv_at hl 0 rfl) ?_
  refine lv_sipush (v := 250) hx hb dX5_init_5 (by decide) ?_
  refine va_newa (atype := .int) (ty := .int) (a0 := (250, .inl (fun _ => 0))) (N' := 250) hx hb (hts (.arrayClass .int) (by decide +kernel)) rfl hK hP hD hS hA (fun _ => rfl) (by decide) (by decide) (by decide) (Nat.le_of_ble_eq_true rfl) (Nat.le_of_ble_eq_true rfl) dX5_init_8 (fun q1 cA2 H hK9 hP9 hD9 hS9 => ?_)
  clear hP hD hS hK
  have hP := hP9; have hD := hD9; have hS := hS9; have hK := hK9
  clear hP9 hD9 hS9 hK9
  obtain rfl : K 0 = cA2 := ty_u hK 0 8 rfl rfl
  replace hK := hK.sub (tys' := [(K 0, .int), (K 1, .byte), (K 2, .short), (K 3, .boolean), (K 4, .long), (K 5, .object RX1), (K 6, .object RX2), (K 7, .array .int)]) [0, 1, 2, 3, 4, 5, 6, 7] rfl
  replace hP := tl_P tl_rot hP
  replace hD := tl_D tl_rot hD
  replace hP : va_P (dC, dI) vwCl ([(h0, .inr (5, [.null, .null, .null, .null, .null, .null, .null, .null, .null, .int 0, .int 0, .int 0, .null, .null, .null, .int 0])), (q1, .inl (K 0, 250, .inl (fun _ => 0)))] ++ (ta0 ++ tb0)) H := hP
  replace hD : va_D A ([(h0, .inr (5, [.null, .null, .null, .null, .null, .null, .null, .null, .null, .int 0, .int 0, .int 0, .null, .null, .null, .int 0])), (q1, .inl (K 0, 250, .inl (fun _ => 0)))] ++ (ta0 ++ tb0)) := hD
  refine W.widen (k := 1) (n := 250) (Nat.le_of_ble_eq_true rfl) (Nat.le_of_ble_eq_true rfl) ?_
  obtain ⟨ta3, eta3⟩ : ∃ t : va_W, t = ta0 ++ [(q1, .inl (K 0, 250, .inl (fun _ => 0)))] := ⟨_, rfl⟩
  have fta3 : ta3 = [(q1, .inl (K 0, 250, .inl (fun _ => 0)))] := by rw [eta3, fta0]; rfl
  clear fta0
  replace hP : va_P (dC, dI) vwCl ([(h0, .inr (5, [.null, .null, .null, .null, .null, .null, .null, .null, .null, .int 0, .int 0, .int 0, .null, .null, .null, .int 0]))] ++ (ta3 ++ tb0)) H := by rw [eta3]; exact tl_P (tl_park (k := [(h0, .inr (5, [.null, .null, .null, .null, .null, .null, .null, .null, .null, .int 0, .int 0, .int 0, .null, .null, .null, .int 0]))]) (x := [(q1, .inl (K 0, 250, .inl (fun _ => 0)))])) hP
  replace hD : va_D A ([(h0, .inr (5, [.null, .null, .null, .null, .null, .null, .null, .null, .null, .int 0, .int 0, .int 0, .null, .null, .null, .int 0]))] ++ (ta3 ++ tb0)) := by rw [eta3]; exact tl_D (tl_park (k := [(h0, .inr (5, [.null, .null, .null, .null, .null, .null, .null, .null, .null, .int 0, .int 0, .int 0, .null, .null, .null, .int 0]))]) (x := [(q1, .inl (K 0, 250, .inl (fun _ => 0)))])) hD
  refine va_putF (D := (dC, dI)) (ci := 5) (v := .ref q1) (ty := .array .int) (C := RX5) (T := TX5) (N := 16) hx hb hts hi5 tyX5 tyX5_ok nmX5 hown hK hP hD hS 0 rfl rfl 8 (by decide) (hts (.fieldLink RX5 11 "CrateHelpers$Tree" "walk" "[I") (by decide +kernel)) (fun _ h9 => h9) rfl hin rfl (by decide +kernel) rfl rfl (Nat.le_of_ble_eq_true rfl) dX5_init_10 (fun H locs hP9 hD9 hS9 => ?_)
  clear hP hD hS
  have hP := hP9; have hD := hD9; have hS := hS9
  clear hP9 hD9 hS9
  replace hP : va_P (dC, dI) vwCl ([(h0, .inr (5, [.null, .null, .null, .null, .null, .null, .null, .null, .ref q1, .int 0, .int 0, .int 0, .null, .null, .null, .int 0]))] ++ (ta3 ++ tb0)) H := hP
  replace hD : va_D A ([(h0, .inr (5, [.null, .null, .null, .null, .null, .null, .null, .null, .ref q1, .int 0, .int 0, .int 0, .null, .null, .null, .int 0]))] ++ (ta3 ++ tb0)) := hD
  refine lv_aload_n hx hb dX5_init_13 rfl (lv_at hl 0 rfl) ?_
  refine lv_iconst (v := 0) hx hb dX5_init_14 (by decide) ?_
  refine va_put (D := (dC, dI)) (ci := 5) (v := .int 0) (ty := .int) (C := RX5) (T := TX5) (N := 16) hx hb hts hi5 tyX5 tyX5_ok nmX5 hown hK hP hD hS 0 rfl rfl 9 (by decide) (hts (.fieldLink RX5 15 "CrateHelpers$Tree" "known" "I") (by decide +kernel)) (fun _ h9 => h9) rfl (by decide +kernel) rfl rfl (Nat.le_of_ble_eq_true rfl) dX5_init_15 (fun H locs hP9 hD9 hS9 => ?_)
  clear hP hD hS
  have hP := hP9; have hD := hD9; have hS := hS9
  clear hP9 hD9 hS9
  replace hP : va_P (dC, dI) vwCl ([(h0, .inr (5, [.null, .null, .null, .null, .null, .null, .null, .null, .ref q1, .int 0, .int 0, .int 0, .null, .null, .null, .int 0]))] ++ (ta3 ++ tb0)) H := hP
  replace hD : va_D A ([(h0, .inr (5, [.null, .null, .null, .null, .null, .null, .null, .null, .ref q1, .int 0, .int 0, .int 0, .null, .null, .null, .int 0]))] ++ (ta3 ++ tb0)) := hD
  refine lv_aload_n hx hb dX5_init_18 rfl (lv_at hl 0 rfl) ?_
  refine lv_iconst (v := 0) hx hb dX5_init_19 (by decide) ?_
  refine va_put (D := (dC, dI)) (ci := 5) (v := .int 0) (ty := .int) (C := RX5) (T := TX5) (N := 16) hx hb hts hi5 tyX5 tyX5_ok nmX5 hown hK hP hD hS 0 rfl rfl 10 (by decide) (hts (.fieldLink RX5 19 "CrateHelpers$Tree" "done" "I") (by decide +kernel)) (fun _ h9 => h9) rfl (by decide +kernel) rfl rfl (Nat.le_of_ble_eq_true rfl) dX5_init_20 (fun H locs hP9 hD9 hS9 => ?_)
  clear hP hD hS
  have hP := hP9; have hD := hD9; have hS := hS9
  clear hP9 hD9 hS9
  replace hP : va_P (dC, dI) vwCl ([(h0, .inr (5, [.null, .null, .null, .null, .null, .null, .null, .null, .ref q1, .int 0, .int 0, .int 0, .null, .null, .null, .int 0]))] ++ (ta3 ++ tb0)) H := hP
  replace hD : va_D A ([(h0, .inr (5, [.null, .null, .null, .null, .null, .null, .null, .null, .ref q1, .int 0, .int 0, .int 0, .null, .null, .null, .int 0]))] ++ (ta3 ++ tb0)) := hD
  refine lv_aload_n hx hb dX5_init_23 rfl (lv_at hl 0 rfl) ?_
  refine lv_iconst (v := 0) hx hb dX5_init_24 (by decide) ?_
  refine va_put (D := (dC, dI)) (ci := 5) (v := .int 0) (ty := .int) (C := RX5) (T := TX5) (N := 16) hx hb hts hi5 tyX5 tyX5_ok nmX5 hown hK hP hD hS 0 rfl rfl 11 (by decide) (hts (.fieldLink RX5 22 "CrateHelpers$Tree" "taken" "I") (by decide +kernel)) (fun _ h9 => h9) rfl (by decide +kernel) rfl rfl (Nat.le_of_ble_eq_true rfl) dX5_init_25 (fun H locs hP9 hD9 hS9 => ?_)
  clear hP hD hS
  have hP := hP9; have hD := hD9; have hS := hS9
  clear hP9 hD9 hS9
  replace hP : va_P (dC, dI) vwCl ([(h0, .inr (5, [.null, .null, .null, .null, .null, .null, .null, .null, .ref q1, .int 0, .int 0, .int 0, .null, .null, .null, .int 0]))] ++ (ta3 ++ tb0)) H := hP
  replace hD : va_D A ([(h0, .inr (5, [.null, .null, .null, .null, .null, .null, .null, .null, .ref q1, .int 0, .int 0, .int 0, .null, .null, .null, .int 0]))] ++ (ta3 ++ tb0)) := hD
  refine lv_aload_n hx hb dX5_init_28 rfl (lv_at hl 0 rfl) ?_
  refine lv_bipush (v := 6) hx hb dX5_init_29 (by decide) ?_
  refine va_newa (atype := .int) (ty := .int) (a0 := (6, .inl (fun _ => 0))) (N' := 6) hx hb (hts (.arrayClass .int) (by decide +kernel)) rfl hK hP hD hS hA (fun _ => rfl) (by decide) (by decide) (by decide) (Nat.le_of_ble_eq_true rfl) (Nat.le_of_ble_eq_true rfl) dX5_init_31 (fun q4 cA5 H hK9 hP9 hD9 hS9 => ?_)
  clear hP hD hS hK
  have hP := hP9; have hD := hD9; have hS := hS9; have hK := hK9
  clear hP9 hD9 hS9 hK9
  obtain rfl : K 0 = cA5 := ty_u hK 0 8 rfl rfl
  replace hK := hK.sub (tys' := [(K 0, .int), (K 1, .byte), (K 2, .short), (K 3, .boolean), (K 4, .long), (K 5, .object RX1), (K 6, .object RX2), (K 7, .array .int)]) [0, 1, 2, 3, 4, 5, 6, 7] rfl
  replace hP := tl_P tl_rot hP
  replace hD := tl_D tl_rot hD
  replace hP : va_P (dC, dI) vwCl ([(h0, .inr (5, [.null, .null, .null, .null, .null, .null, .null, .null, .ref q1, .int 0, .int 0, .int 0, .null, .null, .null, .int 0])), (q4, .inl (K 0, 6, .inl (fun _ => 0)))] ++ (ta3 ++ tb0)) H := hP
  replace hD : va_D A ([(h0, .inr (5, [.null, .null, .null, .null, .null, .null, .null, .null, .ref q1, .int 0, .int 0, .int 0, .null, .null, .null, .int 0])), (q4, .inl (K 0, 6, .inl (fun _ => 0)))] ++ (ta3 ++ tb0)) := hD
  refine W.widen (k := 2) (n := 256) (Nat.le_of_ble_eq_true rfl) (Nat.le_of_ble_eq_true rfl) ?_
  obtain ⟨ta6, eta6⟩ : ∃ t : va_W, t = ta3 ++ [(q4, .inl (K 0, 6, .inl (fun _ => 0)))] := ⟨_, rfl⟩
  have fta6 : ta6 = [(q1, .inl (K 0, 250, .inl (fun _ => 0))), (q4, .inl (K 0, 6, .inl (fun _ => 0)))] := by rw [eta6, fta3]; rfl
  clear fta3
  replace hP : va_P (dC, dI) vwCl ([(h0, .inr (5, [.null, .null, .null, .null, .null, .null, .null, .null, .ref q1, .int 0, .int 0, .int 0, .null, .null, .null, .int 0]))] ++ (ta6 ++ tb0)) H := by rw [eta6]; exact tl_P (tl_park (k := [(h0, .inr (5, [.null, .null, .null, .null, .null, .null, .null, .null, .ref q1, .int 0, .int 0, .int 0, .null, .null, .null, .int 0]))]) (x := [(q4, .inl (K 0, 6, .inl (fun _ => 0)))])) hP
  replace hD : va_D A ([(h0, .inr (5, [.null, .null, .null, .null, .null, .null, .null, .null, .ref q1, .int 0, .int 0, .int 0, .null, .null, .null, .int 0]))] ++ (ta6 ++ tb0)) := by rw [eta6]; exact tl_D (tl_park (k := [(h0, .inr (5, [.null, .null, .null, .null, .null, .null, .null, .null, .ref q1, .int 0, .int 0, .int 0, .null, .null, .null, .int 0]))]) (x := [(q4, .inl (K 0, 6, .inl (fun _ => 0)))])) hD
  refine va_putF (D := (dC, dI)) (ci := 5) (v := .ref q4) (ty := .array .int) (C := RX5) (T := TX5) (N := 16) hx hb hts hi5 tyX5 tyX5_ok nmX5 hown hK hP hD hS 0 rfl rfl 12 (by decide) (hts (.fieldLink RX5 25 "CrateHelpers$Tree" "values" "[I") (by decide +kernel)) (fun _ h9 => h9) rfl hin rfl (by decide +kernel) rfl rfl (Nat.le_of_ble_eq_true rfl) dX5_init_33 (fun H locs hP9 hD9 hS9 => ?_)
  clear hP hD hS
  have hP := hP9; have hD := hD9; have hS := hS9
  clear hP9 hD9 hS9
  replace hP : va_P (dC, dI) vwCl ([(h0, .inr (5, [.null, .null, .null, .null, .null, .null, .null, .null, .ref q1, .int 0, .int 0, .int 0, .ref q4, .null, .null, .int 0]))] ++ (ta6 ++ tb0)) H := hP
  replace hD : va_D A ([(h0, .inr (5, [.null, .null, .null, .null, .null, .null, .null, .null, .ref q1, .int 0, .int 0, .int 0, .ref q4, .null, .null, .int 0]))] ++ (ta6 ++ tb0)) := hD
  refine lv_aload_n hx hb dX5_init_36 rfl (lv_at hl 0 rfl) ?_
  refine va_new (ci := 0) (fs := [.int 0, .int 0, .int 0]) (C := RX0) (T := TX0) (N := 3) hx hb hts hi0 tyX0 tyX0_ok hown (hts (.classLink RX5 28 RX0) (by decide +kernel)) (hts (.instantiable RX0 3) (by decide +kernel)) (hts (.initialized RX0) (by decide +kernel)) hK hP hD hS hA rfl (by decide +kernel) (Nat.le_of_ble_eq_true rfl) (Nat.le_of_ble_eq_true rfl) dX5_init_37 (fun q7 H hP9 hD9 hS9 => ?_)
  clear hP hD hS
  have hP := hP9; have hD := hD9; have hS := hS9
  clear hP9 hD9 hS9
  replace hP := tl_P tl_rot hP
  replace hD := tl_D tl_rot hD
  replace hP : va_P (dC, dI) vwCl ([(h0, .inr (5, [.null, .null, .null, .null, .null, .null, .null, .null, .ref q1, .int 0, .int 0, .int 0, .ref q4, .null, .null, .int 0])), (q7, .inr (0, [.int 0, .int 0, .int 0]))] ++ (ta6 ++ tb0)) H := hP
  replace hD : va_D A ([(h0, .inr (5, [.null, .null, .null, .null, .null, .null, .null, .null, .ref q1, .int 0, .int 0, .int 0, .ref q4, .null, .null, .int 0])), (q7, .inr (0, [.int 0, .int 0, .int 0]))] ++ (ta6 ++ tb0)) := hD
  refine W.widen (k := 3) (n := 259) (Nat.le_of_ble_eq_true rfl) (Nat.le_of_ble_eq_true rfl) ?_
  refine lv_dup hx hb dX5_init_40 rfl ?_
  have hPc := hP.sub (ws' := [(q7, .inr (0, [.int 0, .int 0, .int 0]))]) [1] rfl
  have hDc := hD.sub (ws' := [(q7, .inr (0, [.int 0, .int 0, .int 0]))]) [1] (by decide) rfl
  have hKc := hK.sub (tys' := [(K 0, .int), (K 1, .byte), (K 2, .short), (K 3, .boolean), (K 4, .long), (K 5, .object RX1), (K 6, .object RX2), (K 7, .array .int)]) [0, 1, 2, 3, 4, 5, 6, 7] rfl
  have hFc := va_free (wc := [(q7, .inr (0, [.int 0, .int 0, .int 0]))]) hD hS hA [1] rfl
  refine va_callv (va_runIN (As := []) (rest := [.ref q7, .ref h0]) ⟨hx, hb, hml, hown, hts⟩ (z_X0_init l dC dI H.size K q7) (⟨va_cnB 0 hts gX5_init_X0_init_n30 rfl rfl rfl hN.2.2.2.1 (hts (.initialized RX0) (by decide +kernel)) (by decide +kernel) ⟨Nat.le_of_ble_eq_true rfl, Nat.le_of_ble_eq_true rfl⟩, rfl, hts (.instanceMethod yX0_init) (by decide +kernel)⟩) ⟨fun a U g mk q => by obtain ⟨q0, q1, qP, qK, qD⟩ := q; exact ⟨q0, q1, qP, va_K.moved (u := U) (U := U.calling g mk a) (Vm.Alike.refl U.vm) qK, qD⟩, fun U hU hW => ⟨rfl, by rw [hU], by rw [hU]; exact hPc, va_K.moved hW.alike hKc, hDc.weaken (fun _ _ _ _ => trivial)⟩⟩ rfl rfl hl.1 rfl (lv_room (Nat.le_of_ble_eq_true rfl)) dX5_init_41 ⟨Nat.le_of_ble_eq_true rfl, Nat.le_of_ble_eq_true rfl⟩) hS (fun q _ h => hFc q h) hFc (fun u8 t H1 locs ht hvm hw hB hz1 hk1 hS => ?_)
  obtain ⟨hP1, hK1, hD1⟩ := hB
  rw [ht] at hP1
  try dsimp only at hw
  obtain ⟨hP9, hD9⟩ := tl_join (lits := [(h0, .inr (5, [.null, .null, .null, .null, .null, .null, .null, .null, .ref q1, .int 0, .int 0, .int 0, .ref q4, .null, .null, .int 0])), (q7, .inr (0, [.int 0, .int 0, .int 0]))]) (tl := ta6 ++ tb0) (wr := [(h0, .inr (5, [.null, .null, .null, .null, .null, .null, .null, .null, .ref q1, .int 0, .int 0, .int 0, .ref q4, .null, .null, .int 0]))]) (w1 := [(q7, .inr (0, [.int 0, .int (-9), .int (-1000000)]))]) hP hD [1] [0] rfl rfl (by decide) (by decide) 2 rfl (by decide) (by decide) hk1 hFc hP1 hD1
  clear hP hD hPc hDc hKc hFc hP1 hK1 hD1 hk1
  have hP := hP9; have hD := hD9
  clear hP9 hD9
  generalize H1 = H at hP hS ⊢
  replace hP := tl_P tl_rot hP
  replace hD := tl_D tl_rot hD
  replace hP : va_P (dC, dI) vwCl ([(h0, .inr (5, [.null, .null, .null, .null, .null, .null, .null, .null, .ref q1, .int 0, .int 0, .int 0, .ref q4, .null, .null, .int 0])), (q7, .inr (0, [.int 0, .int (-9), .int (-1000000)]))] ++ (ta6 ++ tb0)) H := hP
  replace hD : va_D A ([(h0, .inr (5, [.null, .null, .null, .null, .null, .null, .null, .null, .ref q1, .int 0, .int 0, .int 0, .ref q4, .null, .null, .int 0])), (q7, .inr (0, [.int 0, .int (-9), .int (-1000000)]))] ++ (ta6 ++ tb0)) := hD
  obtain ⟨ta9, eta9⟩ : ∃ t : va_W, t = ta6 ++ [(q7, .inr (0, [.int 0, .int (-9), .int (-1000000)]))] := ⟨_, rfl⟩
  have fta9 : ta9 = [(q1, .inl (K 0, 250, .inl (fun _ => 0))), (q4, .inl (K 0, 6, .inl (fun _ => 0))), (q7, .inr (0, [.int 0, .int (-9), .int (-1000000)]))] := by rw [eta9, fta6]; rfl
  clear fta6
  replace hP : va_P (dC, dI) vwCl ([(h0, .inr (5, [.null, .null, .null, .null, .null, .null, .null, .null, .ref q1, .int 0, .int 0, .int 0, .ref q4, .null, .null, .int 0]))] ++ (ta9 ++ tb0)) H := by rw [eta9]; exact tl_P (tl_park (k := [(h0, .inr (5, [.null, .null, .null, .null, .null, .null, .null, .null, .ref q1, .int 0, .int 0, .int 0, .ref q4, .null, .null, .int 0]))]) (x := [(q7, .inr (0, [.int 0, .int (-9), .int (-1000000)]))])) hP
  replace hD : va_D A ([(h0, .inr (5, [.null, .null, .null, .null, .null, .null, .null, .null, .ref q1, .int 0, .int 0, .int 0, .ref q4, .null, .null, .int 0]))] ++ (ta9 ++ tb0)) := by rw [eta9]; exact tl_D (tl_park (k := [(h0, .inr (5, [.null, .null, .null, .null, .null, .null, .null, .null, .ref q1, .int 0, .int 0, .int 0, .ref q4, .null, .null, .int 0]))]) (x := [(q7, .inr (0, [.int 0, .int (-9), .int (-1000000)]))])) hD
  refine va_putF (D := (dC, dI)) (ci := 5) (v := .ref q7) (ty := .object "CrateHelpers$Judge") (C := RX5) (T := TX5) (N := 16) hx hb hts hi5 tyX5 tyX5_ok nmX5 hown hK hP hD hS 0 rfl rfl 13 (by decide) (hts (.fieldLink RX5 31 "CrateHelpers$Tree" "judge" "LCrateHelpers$Judge;") (by decide +kernel)) (fun _ h9 => h9) rfl hin rfl (by decide +kernel) rfl rfl (Nat.le_of_ble_eq_true rfl) dX5_init_44 (fun H locs hP9 hD9 hS9 => ?_)
  clear hP hD hS
  have hP := hP9; have hD := hD9; have hS := hS9
  clear hP9 hD9 hS9
  replace hP : va_P (dC, dI) vwCl ([(h0, .inr (5, [.null, .null, .null, .null, .null, .null, .null, .null, .ref q1, .int 0, .int 0, .int 0, .ref q4, .ref q7, .null, .int 0]))] ++ (ta9 ++ tb0)) H := hP
  replace hD : va_D A ([(h0, .inr (5, [.null, .null, .null, .null, .null, .null, .null, .null, .ref q1, .int 0, .int 0, .int 0, .ref q4, .ref q7, .null, .int 0]))] ++ (ta9 ++ tb0)) := hD
  refine lv_aload_n hx hb dX5_init_47 rfl (lv_at hl 0 rfl) ?_
  refine lv_iconst (v := 1) hx hb dX5_init_48 (by decide) ?_
  refine va_put (D := (dC, dI)) (ci := 5) (v := .int 1) (ty := .boolean) (C := RX5) (T := TX5) (N := 16) hx hb hts hi5 tyX5 tyX5_ok nmX5 hown hK hP hD hS 0 rfl rfl 15 (by decide) (hts (.fieldLink RX5 35 "CrateHelpers$Tree" "mindsTwins" "Z") (by decide +kernel)) (fun _ h9 => h9) rfl (by decide +kernel) rfl rfl (Nat.le_of_ble_eq_true rfl) dX5_init_49 (fun H locs hP9 hD9 hS9 => ?_)
  clear hP hD hS
  have hP := hP9; have hD := hD9; have hS := hS9
  clear hP9 hD9 hS9
  replace hP : va_P (dC, dI) vwCl ([(h0, .inr (5, [.null, .null, .null, .null, .null, .null, .null, .null, .ref q1, .int 0, .int 0, .int 0, .ref q4, .ref q7, .null, .int 1]))] ++ (ta9 ++ tb0)) H := hP
  replace hD : va_D A ([(h0, .inr (5, [.null, .null, .null, .null, .null, .null, .null, .null, .ref q1, .int 0, .int 0, .int 0, .ref q4, .ref q7, .null, .int 1]))] ++ (ta9 ++ tb0)) := hD
  refine lv_iconst (v := 1) hx hb dX5_init_52 (by decide) ?_
  refine lv_iconst (v := 0) hx hb dX5_init_53 (by decide) ?_
  refine lv_iload_n hx hb dX5_init_54 rfl (lv_at hl 2 rfl) ?_
  refine va_mmax hx hb (by rw [hml]; exact hl.1.symm) hown (hts (.methodLink RX5 39 Lib.Math.max.name) (by decide +kernel)) (hts (.static Lib.Math.max.name) (by decide +kernel)) (hts (.initialized "java/lang/Math") (by decide +kernel)) (hts (.code Lib.Math.max.name Lib.Math.max.code 2 (some .int)) (List.mem_of_getElem? (i := 18) rfl)) (Nat.le_of_ble_eq_true rfl) (Nat.le_of_ble_eq_true rfl) (Nat.le_of_ble_eq_true rfl) (Nat.le_of_ble_eq_true rfl) dX5_init_55 ?_
  refine lv_topi (fun z10 ez10 => ?_)
  obtain rfl : z10 = 285 := ez10.trans (by decide)
  refine lv_bipush (v := 6) hx hb dX5_init_58 (by decide) ?_
  refine lv_imul hx hb dX5_init_60 ?_
  refine lv_topi (fun z11 ez11 => ?_)
  obtain rfl : z11 = 1710 := ez11.trans (by decide)
  refine lv_iadd hx hb dX5_init_61 ?_
  refine lv_topi (fun z12 ez12 => ?_)
  obtain rfl : z12 = 1711 := ez12.trans (by decide)
  refine lv_istore_n (lv' := [(3, .int 1711), (0, .ref h0), (1, .ref p0), (2, .int 285)]) hx hb dX5_init_62 rfl hl (by decide) rfl (fun ls hl => ?_)
  refine lv_aload_n hx hb dX5_init_63 rfl (lv_at hl 1 rfl) ?_
  refine lv_aload_n hx hb dX5_init_64 rfl (lv_at hl 2 rfl) ?_
  refine va_put (D := (dC, dI)) (ci := 5) (v := .ref p0) (ty := .object "CrateHelpers$Problem") (C := RX5) (T := TX5) (N := 16) hx hb hts hi5 tyX5 tyX5_ok nmX5 hown hK hP hD hS 0 rfl rfl 14 (by decide) (hts (.fieldLink RX5 45 "CrateHelpers$Tree" "problem" "LCrateHelpers$Problem;") (by decide +kernel)) (fun _ h9 => h9) rfl (by decide +kernel) rfl rfl (Nat.le_of_ble_eq_true rfl) dX5_init_65 (fun H locs hP9 hD9 hS9 => ?_)
  clear hP hD hS
  have hP := hP9; have hD := hD9; have hS := hS9
  clear hP9 hD9 hS9
  replace hP : va_P (dC, dI) vwCl ([(h0, .inr (5, [.null, .null, .null, .null, .null, .null, .null, .null, .ref q1, .int 0, .int 0, .int 0, .ref q4, .ref q7, .ref p0, .int 1]))] ++ (ta9 ++ tb0)) H := hP
  replace hD : va_D A ([(h0, .inr (5, [.null, .null, .null, .null, .null, .null, .null, .null, .ref q1, .int 0, .int 0, .int 0, .ref q4, .ref q7, .ref p0, .int 1]))] ++ (ta9 ++ tb0)) := hD
  refine lv_aload_n hx hb dX5_init_68 rfl (lv_at hl 1 rfl) ?_
  refine lv_iload_n hx hb dX5_init_69 rfl (lv_at hl 0 rfl) ?_
  refine va_newa (atype := .long) (ty := .long) (a0 := (1711, .inr (.inl (fun _ => 0)))) (N' := 1711) hx hb (hts (.arrayClass .long) (by decide +kernel)) rfl hK hP hD hS hA (fun _ => rfl) (by decide) (by decide) (by decide) (Nat.le_of_ble_eq_true rfl) (Nat.le_of_ble_eq_true rfl) dX5_init_70 (fun q13 cA14 H hK9 hP9 hD9 hS9 => ?_)
  clear hP hD hS hK
  have hP := hP9; have hD := hD9; have hS := hS9; have hK := hK9
  clear hP9 hD9 hS9 hK9
  obtain rfl : K 4 = cA14 := ty_u hK 4 8 rfl rfl
  replace hK := hK.sub (tys' := [(K 0, .int), (K 1, .byte), (K 2, .short), (K 3, .boolean), (K 4, .long), (K 5, .object RX1), (K 6, .object RX2), (K 7, .array .int)]) [0, 1, 2, 3, 4, 5, 6, 7] rfl
  replace hP := tl_P tl_rot hP
  replace hD := tl_D tl_rot hD
  replace hP : va_P (dC, dI) vwCl ([(h0, .inr (5, [.null, .null, .null, .null, .null, .null, .null, .null, .ref q1, .int 0, .int 0, .int 0, .ref q4, .ref q7, .ref p0, .int 1])), (q13, .inl (K 4, 1711, .inr (.inl (fun _ => 0))))] ++ (ta9 ++ tb0)) H := hP
  replace hD : va_D A ([(h0, .inr (5, [.null, .null, .null, .null, .null, .null, .null, .null, .ref q1, .int 0, .int 0, .int 0, .ref q4, .ref q7, .ref p0, .int 1])), (q13, .inl (K 4, 1711, .inr (.inl (fun _ => 0))))] ++ (ta9 ++ tb0)) := hD
  refine W.widen (k := 4) (n := 1970) (Nat.le_of_ble_eq_true rfl) (Nat.le_of_ble_eq_true rfl) ?_
  obtain ⟨ta15, eta15⟩ : ∃ t : va_W, t = ta9 ++ [(q13, .inl (K 4, 1711, .inr (.inl (fun _ => 0))))] := ⟨_, rfl⟩
  have fta15 : ta15 = [(q1, .inl (K 0, 250, .inl (fun _ => 0))), (q4, .inl (K 0, 6, .inl (fun _ => 0))), (q7, .inr (0, [.int 0, .int (-9), .int (-1000000)])), (q13, .inl (K 4, 1711, .inr (.inl (fun _ => 0))))] := by rw [eta15, fta9]; rfl
  clear fta9
  replace hP : va_P (dC, dI) vwCl ([(h0, .inr (5, [.null, .null, .null, .null, .null, .null, .null, .null, .ref q1, .int 0, .int 0, .int 0, .ref q4, .ref q7, .ref p0, .int 1]))] ++ (ta15 ++ tb0)) H := by rw [eta15]; exact tl_P (tl_park (k := [(h0, .inr (5, [.null, .null, .null, .null, .null, .null, .null, .null, .ref q1, .int 0, .int 0, .int 0, .ref q4, .ref q7, .ref p0, .int 1]))]) (x := [(q13, .inl (K 4, 1711, .inr (.inl (fun _ => 0))))])) hP
  replace hD : va_D A ([(h0, .inr (5, [.null, .null, .null, .null, .null, .null, .null, .null, .ref q1, .int 0, .int 0, .int 0, .ref q4, .ref q7, .ref p0, .int 1]))] ++ (ta15 ++ tb0)) := by rw [eta15]; exact tl_D (tl_park (k := [(h0, .inr (5, [.null, .null, .null, .null, .null, .null, .null, .null, .ref q1, .int 0, .int 0, .int 0, .ref q4, .ref q7, .ref p0, .int 1]))]) (x := [(q13, .inl (K 4, 1711, .inr (.inl (fun _ => 0))))])) hD
  refine va_putF (D := (dC, dI)) (ci := 5) (v := .ref q13) (ty := .array .long) (C := RX5) (T := TX5) (N := 16) hx hb hts hi5 tyX5 tyX5_ok nmX5 hown hK hP hD hS 0 rfl rfl 0 (by decide) (hts (.fieldLink RX5 49 "CrateHelpers$Tree" "place" "[J") (by decide +kernel)) (fun _ h9 => h9) rfl hin rfl (by decide +kernel) rfl rfl (Nat.le_of_ble_eq_true rfl) dX5_init_72 (fun H locs hP9 hD9 hS9 => ?_)
  clear hP hD hS
  have hP := hP9; have hD := hD9; have hS := hS9
  clear hP9 hD9 hS9
  replace hP : va_P (dC, dI) vwCl ([(h0, .inr (5, [.ref q13, .null, .null, .null, .null, .null, .null, .null, .ref q1, .int 0, .int 0, .int 0, .ref q4, .ref q7, .ref p0, .int 1]))] ++ (ta15 ++ tb0)) H := hP
  replace hD : va_D A ([(h0, .inr (5, [.ref q13, .null, .null, .null, .null, .null, .null, .null, .ref q1, .int 0, .int 0, .int 0, .ref q4, .ref q7, .ref p0, .int 1]))] ++ (ta15 ++ tb0)) := hD
  refine lv_aload_n hx hb dX5_init_75 rfl (lv_at hl 1 rfl) ?_
  refine lv_iload_n hx hb dX5_init_76 rfl (lv_at hl 0 rfl) ?_
  refine va_newa (atype := .byte) (ty := .byte) (a0 := (1711, .inl (fun _ => 0))) (N' := 1711) hx hb (hts (.arrayClass .byte) (by decide +kernel)) rfl hK hP hD hS hA (fun _ => rfl) (by decide) (by decide) (by decide) (Nat.le_of_ble_eq_true rfl) (Nat.le_of_ble_eq_true rfl) dX5_init_77 (fun q16 cA17 H hK9 hP9 hD9 hS9 => ?_)
  clear hP hD hS hK
  have hP := hP9; have hD := hD9; have hS := hS9; have hK := hK9
  clear hP9 hD9 hS9 hK9
  obtain rfl : K 1 = cA17 := ty_u hK 1 8 rfl rfl
  replace hK := hK.sub (tys' := [(K 0, .int), (K 1, .byte), (K 2, .short), (K 3, .boolean), (K 4, .long), (K 5, .object RX1), (K 6, .object RX2), (K 7, .array .int)]) [0, 1, 2, 3, 4, 5, 6, 7] rfl
  replace hP := tl_P tl_rot hP
  replace hD := tl_D tl_rot hD
  replace hP : va_P (dC, dI) vwCl ([(h0, .inr (5, [.ref q13, .null, .null, .null, .null, .null, .null, .null, .ref q1, .int 0, .int 0, .int 0, .ref q4, .ref q7, .ref p0, .int 1])), (q16, .inl (K 1, 1711, .inl (fun _ => 0)))] ++ (ta15 ++ tb0)) H := hP
  replace hD : va_D A ([(h0, .inr (5, [.ref q13, .null, .null, .null, .null, .null, .null, .null, .ref q1, .int 0, .int 0, .int 0, .ref q4, .ref q7, .ref p0, .int 1])), (q16, .inl (K 1, 1711, .inl (fun _ => 0)))] ++ (ta15 ++ tb0)) := hD
  refine W.widen (k := 5) (n := 3681) (Nat.le_of_ble_eq_true rfl) (Nat.le_of_ble_eq_true rfl) ?_
  obtain ⟨ta18, eta18⟩ : ∃ t : va_W, t = ta15 ++ [(q16, .inl (K 1, 1711, .inl (fun _ => 0)))] := ⟨_, rfl⟩
  have fta18 : ta18 = [(q1, .inl (K 0, 250, .inl (fun _ => 0))), (q4, .inl (K 0, 6, .inl (fun _ => 0))), (q7, .inr (0, [.int 0, .int (-9), .int (-1000000)])), (q13, .inl (K 4, 1711, .inr (.inl (fun _ => 0)))), (q16, .inl (K 1, 1711, .inl (fun _ => 0)))] := by rw [eta18, fta15]; rfl
  clear fta15
  replace hP : va_P (dC, dI) vwCl ([(h0, .inr (5, [.ref q13, .null, .null, .null, .null, .null, .null, .null, .ref q1, .int 0, .int 0, .int 0, .ref q4, .ref q7, .ref p0, .int 1]))] ++ (ta18 ++ tb0)) H := by rw [eta18]; exact tl_P (tl_park (k := [(h0, .inr (5, [.ref q13, .null, .null, .null, .null, .null, .null, .null, .ref q1, .int 0, .int 0, .int 0, .ref q4, .ref q7, .ref p0, .int 1]))]) (x := [(q16, .inl (K 1, 1711, .inl (fun _ => 0)))])) hP
  replace hD : va_D A ([(h0, .inr (5, [.ref q13, .null, .null, .null, .null, .null, .null, .null, .ref q1, .int 0, .int 0, .int 0, .ref q4, .ref q7, .ref p0, .int 1]))] ++ (ta18 ++ tb0)) := by rw [eta18]; exact tl_D (tl_park (k := [(h0, .inr (5, [.ref q13, .null, .null, .null, .null, .null, .null, .null, .ref q1, .int 0, .int 0, .int 0, .ref q4, .ref q7, .ref p0, .int 1]))]) (x := [(q16, .inl (K 1, 1711, .inl (fun _ => 0)))])) hD
  refine va_putF (D := (dC, dI)) (ci := 5) (v := .ref q16) (ty := .array .byte) (C := RX5) (T := TX5) (N := 16) hx hb hts hi5 tyX5 tyX5_ok nmX5 hown hK hP hD hS 0 rfl rfl 1 (by decide) (hts (.fieldLink RX5 53 "CrateHelpers$Tree" "depth" "[B") (by decide +kernel)) (fun _ h9 => h9) rfl hin rfl (by decide +kernel) rfl rfl (Nat.le_of_ble_eq_true rfl) dX5_init_79 (fun H locs hP9 hD9 hS9 => ?_)
  clear hP hD hS
  have hP := hP9; have hD := hD9; have hS := hS9
  clear hP9 hD9 hS9
  replace hP : va_P (dC, dI) vwCl ([(h0, .inr (5, [.ref q13, .ref q16, .null, .null, .null, .null, .null, .null, .ref q1, .int 0, .int 0, .int 0, .ref q4, .ref q7, .ref p0, .int 1]))] ++ (ta18 ++ tb0)) H := hP
  replace hD : va_D A ([(h0, .inr (5, [.ref q13, .ref q16, .null, .null, .null, .null, .null, .null, .ref q1, .int 0, .int 0, .int 0, .ref q4, .ref q7, .ref p0, .int 1]))] ++ (ta18 ++ tb0)) := hD
  refine lv_aload_n hx hb dX5_init_82 rfl (lv_at hl 1 rfl) ?_
  refine lv_iload_n hx hb dX5_init_83 rfl (lv_at hl 0 rfl) ?_
  refine va_newa (atype := .byte) (ty := .byte) (a0 := (1711, .inl (fun _ => 0))) (N' := 1711) hx hb (hts (.arrayClass .byte) (by decide +kernel)) rfl hK hP hD hS hA (fun _ => rfl) (by decide) (by decide) (by decide) (Nat.le_of_ble_eq_true rfl) (Nat.le_of_ble_eq_true rfl) dX5_init_84 (fun q19 cA20 H hK9 hP9 hD9 hS9 => ?_)
  clear hP hD hS hK
  have hP := hP9; have hD := hD9; have hS := hS9; have hK := hK9
  clear hP9 hD9 hS9 hK9
  obtain rfl : K 1 = cA20 := ty_u hK 1 8 rfl rfl
  replace hK := hK.sub (tys' := [(K 0, .int), (K 1, .byte), (K 2, .short), (K 3, .boolean), (K 4, .long), (K 5, .object RX1), (K 6, .object RX2), (K 7, .array .int)]) [0, 1, 2, 3, 4, 5, 6, 7] rfl
  replace hP := tl_P tl_rot hP
  replace hD := tl_D tl_rot hD
  replace hP : va_P (dC, dI) vwCl ([(h0, .inr (5, [.ref q13, .ref q16, .null, .null, .null, .null, .null, .null, .ref q1, .int 0, .int 0, .int 0, .ref q4, .ref q7, .ref p0, .int 1])), (q19, .inl (K 1, 1711, .inl (fun _ => 0)))] ++ (ta18 ++ tb0)) H := hP
  replace hD : va_D A ([(h0, .inr (5, [.ref q13, .ref q16, .null, .null, .null, .null, .null, .null, .ref q1, .int 0, .int 0, .int 0, .ref q4, .ref q7, .ref p0, .int 1])), (q19, .inl (K 1, 1711, .inl (fun _ => 0)))] ++ (ta18 ++ tb0)) := hD
  refine W.widen (k := 6) (n := 5392) (Nat.le_of_ble_eq_true rfl) (Nat.le_of_ble_eq_true rfl) ?_
  obtain ⟨ta21, eta21⟩ : ∃ t : va_W, t = ta18 ++ [(q19, .inl (K 1, 1711, .inl (fun _ => 0)))] := ⟨_, rfl⟩
  have fta21 : ta21 = [(q1, .inl (K 0, 250, .inl (fun _ => 0))), (q4, .inl (K 0, 6, .inl (fun _ => 0))), (q7, .inr (0, [.int 0, .int (-9), .int (-1000000)])), (q13, .inl (K 4, 1711, .inr (.inl (fun _ => 0)))), (q16, .inl (K 1, 1711, .inl (fun _ => 0))), (q19, .inl (K 1, 1711, .inl (fun _ => 0)))] := by rw [eta21, fta18]; rfl
  clear fta18
  replace hP : va_P (dC, dI) vwCl ([(h0, .inr (5, [.ref q13, .ref q16, .null, .null, .null, .null, .null, .null, .ref q1, .int 0, .int 0, .int 0, .ref q4, .ref q7, .ref p0, .int 1]))] ++ (ta21 ++ tb0)) H := by rw [eta21]; exact tl_P (tl_park (k := [(h0, .inr (5, [.ref q13, .ref q16, .null, .null, .null, .null, .null, .null, .ref q1, .int 0, .int 0, .int 0, .ref q4, .ref q7, .ref p0, .int 1]))]) (x := [(q19, .inl (K 1, 1711, .inl (fun _ => 0)))])) hP
  replace hD : va_D A ([(h0, .inr (5, [.ref q13, .ref q16, .null, .null, .null, .null, .null, .null, .ref q1, .int 0, .int 0, .int 0, .ref q4, .ref q7, .ref p0, .int 1]))] ++ (ta21 ++ tb0)) := by rw [eta21]; exact tl_D (tl_park (k := [(h0, .inr (5, [.ref q13, .ref q16, .null, .null, .null, .null, .null, .null, .ref q1, .int 0, .int 0, .int 0, .ref q4, .ref q7, .ref p0, .int 1]))]) (x := [(q19, .inl (K 1, 1711, .inl (fun _ => 0)))])) hD
  refine va_putF (D := (dC, dI)) (ci := 5) (v := .ref q19) (ty := .array .byte) (C := RX5) (T := TX5) (N := 16) hx hb hts hi5 tyX5 tyX5_ok nmX5 hown hK hP hD hS 0 rfl rfl 2 (by decide) (hts (.fieldLink RX5 57 "CrateHelpers$Tree" "what" "[B") (by decide +kernel)) (fun _ h9 => h9) rfl hin rfl (by decide +kernel) rfl rfl (Nat.le_of_ble_eq_true rfl) dX5_init_86 (fun H locs hP9 hD9 hS9 => ?_)
  clear hP hD hS
  have hP := hP9; have hD := hD9; have hS := hS9
  clear hP9 hD9 hS9
  replace hP : va_P (dC, dI) vwCl ([(h0, .inr (5, [.ref q13, .ref q16, .ref q19, .null, .null, .null, .null, .null, .ref q1, .int 0, .int 0, .int 0, .ref q4, .ref q7, .ref p0, .int 1]))] ++ (ta21 ++ tb0)) H := hP
  replace hD : va_D A ([(h0, .inr (5, [.ref q13, .ref q16, .ref q19, .null, .null, .null, .null, .null, .ref q1, .int 0, .int 0, .int 0, .ref q4, .ref q7, .ref p0, .int 1]))] ++ (ta21 ++ tb0)) := hD
  refine lv_aload_n hx hb dX5_init_89 rfl (lv_at hl 1 rfl) ?_
  refine lv_iload_n hx hb dX5_init_90 rfl (lv_at hl 0 rfl) ?_
  refine va_newa (atype := .byte) (ty := .byte) (a0 := (1711, .inl (fun _ => 0))) (N' := 1711) hx hb (hts (.arrayClass .byte) (by decide +kernel)) rfl hK hP hD hS hA (fun _ => rfl) (by decide) (by decide) (by decide) (Nat.le_of_ble_eq_true rfl) (Nat.le_of_ble_eq_true rfl) dX5_init_91 (fun q22 cA23 H hK9 hP9 hD9 hS9 => ?_)
  clear hP hD hS hK
  have hP := hP9; have hD := hD9; have hS := hS9; have hK := hK9
  clear hP9 hD9 hS9 hK9
  obtain rfl : K 1 = cA23 := ty_u hK 1 8 rfl rfl
  replace hK := hK.sub (tys' := [(K 0, .int), (K 1, .byte), (K 2, .short), (K 3, .boolean), (K 4, .long), (K 5, .object RX1), (K 6, .object RX2), (K 7, .array .int)]) [0, 1, 2, 3, 4, 5, 6, 7] rfl
  replace hP := tl_P tl_rot hP
  replace hD := tl_D tl_rot hD
  replace hP : va_P (dC, dI) vwCl ([(h0, .inr (5, [.ref q13, .ref q16, .ref q19, .null, .null, .null, .null, .null, .ref q1, .int 0, .int 0, .int 0, .ref q4, .ref q7, .ref p0, .int 1])), (q22, .inl (K 1, 1711, .inl (fun _ => 0)))] ++ (ta21 ++ tb0)) H := hP
  replace hD : va_D A ([(h0, .inr (5, [.ref q13, .ref q16, .ref q19, .null, .null, .null, .null, .null, .ref q1, .int 0, .int 0, .int 0, .ref q4, .ref q7, .ref p0, .int 1])), (q22, .inl (K 1, 1711, .inl (fun _ => 0)))] ++ (ta21 ++ tb0)) := hD
  refine W.widen (k := 7) (n := 7103) (Nat.le_of_ble_eq_true rfl) (Nat.le_of_ble_eq_true rfl) ?_
  obtain ⟨ta24, eta24⟩ : ∃ t : va_W, t = ta21 ++ [(q22, .inl (K 1, 1711, .inl (fun _ => 0)))] := ⟨_, rfl⟩
  have fta24 : ta24 = [(q1, .inl (K 0, 250, .inl (fun _ => 0))), (q4, .inl (K 0, 6, .inl (fun _ => 0))), (q7, .inr (0, [.int 0, .int (-9), .int (-1000000)])), (q13, .inl (K 4, 1711, .inr (.inl (fun _ => 0)))), (q16, .inl (K 1, 1711, .inl (fun _ => 0))), (q19, .inl (K 1, 1711, .inl (fun _ => 0))), (q22, .inl (K 1, 1711, .inl (fun _ => 0)))] := by rw [eta24, fta21]; rfl
  clear fta21
  replace hP : va_P (dC, dI) vwCl ([(h0, .inr (5, [.ref q13, .ref q16, .ref q19, .null, .null, .null, .null, .null, .ref q1, .int 0, .int 0, .int 0, .ref q4, .ref q7, .ref p0, .int 1]))] ++ (ta24 ++ tb0)) H := by rw [eta24]; exact tl_P (tl_park (k := [(h0, .inr (5, [.ref q13, .ref q16, .ref q19, .null, .null, .null, .null, .null, .ref q1, .int 0, .int 0, .int 0, .ref q4, .ref q7, .ref p0, .int 1]))]) (x := [(q22, .inl (K 1, 1711, .inl (fun _ => 0)))])) hP
  replace hD : va_D A ([(h0, .inr (5, [.ref q13, .ref q16, .ref q19, .null, .null, .null, .null, .null, .ref q1, .int 0, .int 0, .int 0, .ref q4, .ref q7, .ref p0, .int 1]))] ++ (ta24 ++ tb0)) := by rw [eta24]; exact tl_D (tl_park (k := [(h0, .inr (5, [.ref q13, .ref q16, .ref q19, .null, .null, .null, .null, .null, .ref q1, .int 0, .int 0, .int 0, .ref q4, .ref q7, .ref p0, .int 1]))]) (x := [(q22, .inl (K 1, 1711, .inl (fun _ => 0)))])) hD
  refine va_putF (D := (dC, dI)) (ci := 5) (v := .ref q22) (ty := .array .byte) (C := RX5) (T := TX5) (N := 16) hx hb hts hi5 tyX5 tyX5_ok nmX5 hown hK hP hD hS 0 rfl rfl 3 (by decide) (hts (.fieldLink RX5 60 "CrateHelpers$Tree" "why" "[B") (by decide +kernel)) (fun _ h9 => h9) rfl hin rfl (by decide +kernel) rfl rfl (Nat.le_of_ble_eq_true rfl) dX5_init_93 (fun H locs hP9 hD9 hS9 => ?_)
  clear hP hD hS
  have hP := hP9; have hD := hD9; have hS := hS9
  clear hP9 hD9 hS9
  replace hP : va_P (dC, dI) vwCl ([(h0, .inr (5, [.ref q13, .ref q16, .ref q19, .ref q22, .null, .null, .null, .null, .ref q1, .int 0, .int 0, .int 0, .ref q4, .ref q7, .ref p0, .int 1]))] ++ (ta24 ++ tb0)) H := hP
  replace hD : va_D A ([(h0, .inr (5, [.ref q13, .ref q16, .ref q19, .ref q22, .null, .null, .null, .null, .ref q1, .int 0, .int 0, .int 0, .ref q4, .ref q7, .ref p0, .int 1]))] ++ (ta24 ++ tb0)) := hD
  refine lv_aload_n hx hb dX5_init_96 rfl (lv_at hl 1 rfl) ?_
  refine lv_iload_n hx hb dX5_init_97 rfl (lv_at hl 0 rfl) ?_
  refine va_newa (atype := .byte) (ty := .byte) (a0 := (1711, .inl (fun _ => 0))) (N' := 1711) hx hb (hts (.arrayClass .byte) (by decide +kernel)) rfl hK hP hD hS hA (fun _ => rfl) (by decide) (by decide) (by decide) (Nat.le_of_ble_eq_true rfl) (Nat.le_of_ble_eq_true rfl) dX5_init_98 (fun q25 cA26 H hK9 hP9 hD9 hS9 => ?_)
  clear hP hD hS hK
  have hP := hP9; have hD := hD9; have hS := hS9; have hK := hK9
  clear hP9 hD9 hS9 hK9
  obtain rfl : K 1 = cA26 := ty_u hK 1 8 rfl rfl
  replace hK := hK.sub (tys' := [(K 0, .int), (K 1, .byte), (K 2, .short), (K 3, .boolean), (K 4, .long), (K 5, .object RX1), (K 6, .object RX2), (K 7, .array .int)]) [0, 1, 2, 3, 4, 5, 6, 7] rfl
  replace hP := tl_P tl_rot hP
  replace hD := tl_D tl_rot hD
  replace hP : va_P (dC, dI) vwCl ([(h0, .inr (5, [.ref q13, .ref q16, .ref q19, .ref q22, .null, .null, .null, .null, .ref q1, .int 0, .int 0, .int 0, .ref q4, .ref q7, .ref p0, .int 1])), (q25, .inl (K 1, 1711, .inl (fun _ => 0)))] ++ (ta24 ++ tb0)) H := hP
  replace hD : va_D A ([(h0, .inr (5, [.ref q13, .ref q16, .ref q19, .ref q22, .null, .null, .null, .null, .ref q1, .int 0, .int 0, .int 0, .ref q4, .ref q7, .ref p0, .int 1])), (q25, .inl (K 1, 1711, .inl (fun _ => 0)))] ++ (ta24 ++ tb0)) := hD
  refine W.widen (k := 8) (n := 8814) (Nat.le_of_ble_eq_true rfl) (Nat.le_of_ble_eq_true rfl) ?_
  obtain ⟨ta27, eta27⟩ : ∃ t : va_W, t = ta24 ++ [(q25, .inl (K 1, 1711, .inl (fun _ => 0)))] := ⟨_, rfl⟩
  have fta27 : ta27 = [(q1, .inl (K 0, 250, .inl (fun _ => 0))), (q4, .inl (K 0, 6, .inl (fun _ => 0))), (q7, .inr (0, [.int 0, .int (-9), .int (-1000000)])), (q13, .inl (K 4, 1711, .inr (.inl (fun _ => 0)))), (q16, .inl (K 1, 1711, .inl (fun _ => 0))), (q19, .inl (K 1, 1711, .inl (fun _ => 0))), (q22, .inl (K 1, 1711, .inl (fun _ => 0))), (q25, .inl (K 1, 1711, .inl (fun _ => 0)))] := by rw [eta27, fta24]; rfl
  clear fta24
  replace hP : va_P (dC, dI) vwCl ([(h0, .inr (5, [.ref q13, .ref q16, .ref q19, .ref q22, .null, .null, .null, .null, .ref q1, .int 0, .int 0, .int 0, .ref q4, .ref q7, .ref p0, .int 1]))] ++ (ta27 ++ tb0)) H := by rw [eta27]; exact tl_P (tl_park (k := [(h0, .inr (5, [.ref q13, .ref q16, .ref q19, .ref q22, .null, .null, .null, .null, .ref q1, .int 0, .int 0, .int 0, .ref q4, .ref q7, .ref p0, .int 1]))]) (x := [(q25, .inl (K 1, 1711, .inl (fun _ => 0)))])) hP
  replace hD : va_D A ([(h0, .inr (5, [.ref q13, .ref q16, .ref q19, .ref q22, .null, .null, .null, .null, .ref q1, .int 0, .int 0, .int 0, .ref q4, .ref q7, .ref p0, .int 1]))] ++ (ta27 ++ tb0)) := by rw [eta27]; exact tl_D (tl_park (k := [(h0, .inr (5, [.ref q13, .ref q16, .ref q19, .ref q22, .null, .null, .null, .null, .ref q1, .int 0, .int 0, .int 0, .ref q4, .ref q7, .ref p0, .int 1]))]) (x := [(q25, .inl (K 1, 1711, .inl (fun _ => 0)))])) hD
  refine va_putF (D := (dC, dI)) (ci := 5) (v := .ref q25) (ty := .array .byte) (C := RX5) (T := TX5) (N := 16) hx hb hts hi5 tyX5 tyX5_ok nmX5 hown hK hP hD hS 0 rfl rfl 4 (by decide) (hts (.fieldLink RX5 63 "CrateHelpers$Tree" "stage" "[B") (by decide +kernel)) (fun _ h9 => h9) rfl hin rfl (by decide +kernel) rfl rfl (Nat.le_of_ble_eq_true rfl) dX5_init_100 (fun H locs hP9 hD9 hS9 => ?_)
  clear hP hD hS
  have hP := hP9; have hD := hD9; have hS := hS9
  clear hP9 hD9 hS9
  replace hP : va_P (dC, dI) vwCl ([(h0, .inr (5, [.ref q13, .ref q16, .ref q19, .ref q22, .ref q25, .null, .null, .null, .ref q1, .int 0, .int 0, .int 0, .ref q4, .ref q7, .ref p0, .int 1]))] ++ (ta27 ++ tb0)) H := hP
  replace hD : va_D A ([(h0, .inr (5, [.ref q13, .ref q16, .ref q19, .ref q22, .ref q25, .null, .null, .null, .ref q1, .int 0, .int 0, .int 0, .ref q4, .ref q7, .ref p0, .int 1]))] ++ (ta27 ++ tb0)) := hD
  refine lv_aload_n hx hb dX5_init_103 rfl (lv_at hl 1 rfl) ?_
  refine lv_iload_n hx hb dX5_init_104 rfl (lv_at hl 0 rfl) ?_
  refine va_newa (atype := .byte) (ty := .byte) (a0 := (1711, .inl (fun _ => 0))) (N' := 1711) hx hb (hts (.arrayClass .byte) (by decide +kernel)) rfl hK hP hD hS hA (fun _ => rfl) (by decide) (by decide) (by decide) (Nat.le_of_ble_eq_true rfl) (Nat.le_of_ble_eq_true rfl) dX5_init_105 (fun q28 cA29 H hK9 hP9 hD9 hS9 => ?_)
  clear hP hD hS hK
  have hP := hP9; have hD := hD9; have hS := hS9; have hK := hK9
  clear hP9 hD9 hS9 hK9
  obtain rfl : K 1 = cA29 := ty_u hK 1 8 rfl rfl
  replace hK := hK.sub (tys' := [(K 0, .int), (K 1, .byte), (K 2, .short), (K 3, .boolean), (K 4, .long), (K 5, .object RX1), (K 6, .object RX2), (K 7, .array .int)]) [0, 1, 2, 3, 4, 5, 6, 7] rfl
  replace hP := tl_P tl_rot hP
  replace hD := tl_D tl_rot hD
  replace hP : va_P (dC, dI) vwCl ([(h0, .inr (5, [.ref q13, .ref q16, .ref q19, .ref q22, .ref q25, .null, .null, .null, .ref q1, .int 0, .int 0, .int 0, .ref q4, .ref q7, .ref p0, .int 1])), (q28, .inl (K 1, 1711, .inl (fun _ => 0)))] ++ (ta27 ++ tb0)) H := hP
  replace hD : va_D A ([(h0, .inr (5, [.ref q13, .ref q16, .ref q19, .ref q22, .ref q25, .null, .null, .null, .ref q1, .int 0, .int 0, .int 0, .ref q4, .ref q7, .ref p0, .int 1])), (q28, .inl (K 1, 1711, .inl (fun _ => 0)))] ++ (ta27 ++ tb0)) := hD
  refine W.widen (k := 9) (n := 10525) (Nat.le_of_ble_eq_true rfl) (Nat.le_of_ble_eq_true rfl) ?_
  obtain ⟨ta30, eta30⟩ : ∃ t : va_W, t = ta27 ++ [(q28, .inl (K 1, 1711, .inl (fun _ => 0)))] := ⟨_, rfl⟩
  have fta30 : ta30 = [(q1, .inl (K 0, 250, .inl (fun _ => 0))), (q4, .inl (K 0, 6, .inl (fun _ => 0))), (q7, .inr (0, [.int 0, .int (-9), .int (-1000000)])), (q13, .inl (K 4, 1711, .inr (.inl (fun _ => 0)))), (q16, .inl (K 1, 1711, .inl (fun _ => 0))), (q19, .inl (K 1, 1711, .inl (fun _ => 0))), (q22, .inl (K 1, 1711, .inl (fun _ => 0))), (q25, .inl (K 1, 1711, .inl (fun _ => 0))), (q28, .inl (K 1, 1711, .inl (fun _ => 0)))] := by rw [eta30, fta27]; rfl
  clear fta27
  replace hP : va_P (dC, dI) vwCl ([(h0, .inr (5, [.ref q13, .ref q16, .ref q19, .ref q22, .ref q25, .null, .null, .null, .ref q1, .int 0, .int 0, .int 0, .ref q4, .ref q7, .ref p0, .int 1]))] ++ (ta30 ++ tb0)) H := by rw [eta30]; exact tl_P (tl_park (k := [(h0, .inr (5, [.ref q13, .ref q16, .ref q19, .ref q22, .ref q25, .null, .null, .null, .ref q1, .int 0, .int 0, .int 0, .ref q4, .ref q7, .ref p0, .int 1]))]) (x := [(q28, .inl (K 1, 1711, .inl (fun _ => 0)))])) hP
  replace hD : va_D A ([(h0, .inr (5, [.ref q13, .ref q16, .ref q19, .ref q22, .ref q25, .null, .null, .null, .ref q1, .int 0, .int 0, .int 0, .ref q4, .ref q7, .ref p0, .int 1]))] ++ (ta30 ++ tb0)) := by rw [eta30]; exact tl_D (tl_park (k := [(h0, .inr (5, [.ref q13, .ref q16, .ref q19, .ref q22, .ref q25, .null, .null, .null, .ref q1, .int 0, .int 0, .int 0, .ref q4, .ref q7, .ref p0, .int 1]))]) (x := [(q28, .inl (K 1, 1711, .inl (fun _ => 0)))])) hD
  refine va_putF (D := (dC, dI)) (ci := 5) (v := .ref q28) (ty := .array .byte) (C := RX5) (T := TX5) (N := 16) hx hb hts hi5 tyX5 tyX5_ok nmX5 hown hK hP hD hS 0 rfl rfl 5 (by decide) (hts (.fieldLink RX5 66 "CrateHelpers$Tree" "doneBy" "[B") (by decide +kernel)) (fun _ h9 => h9) rfl hin rfl (by decide +kernel) rfl rfl (Nat.le_of_ble_eq_true rfl) dX5_init_107 (fun H locs hP9 hD9 hS9 => ?_)
  clear hP hD hS
  have hP := hP9; have hD := hD9; have hS := hS9
  clear hP9 hD9 hS9
  replace hP : va_P (dC, dI) vwCl ([(h0, .inr (5, [.ref q13, .ref q16, .ref q19, .ref q22, .ref q25, .ref q28, .null, .null, .ref q1, .int 0, .int 0, .int 0, .ref q4, .ref q7, .ref p0, .int 1]))] ++ (ta30 ++ tb0)) H := hP
  replace hD : va_D A ([(h0, .inr (5, [.ref q13, .ref q16, .ref q19, .ref q22, .ref q25, .ref q28, .null, .null, .ref q1, .int 0, .int 0, .int 0, .ref q4, .ref q7, .ref p0, .int 1]))] ++ (ta30 ++ tb0)) := hD
  refine lv_aload_n hx hb dX5_init_110 rfl (lv_at hl 1 rfl) ?_
  refine lv_iload_n hx hb dX5_init_111 rfl (lv_at hl 0 rfl) ?_
  refine va_newa (atype := .short) (ty := .short) (a0 := (1711, .inl (fun _ => 0))) (N' := 1711) hx hb (hts (.arrayClass .short) (by decide +kernel)) rfl hK hP hD hS hA (fun _ => rfl) (by decide) (by decide) (by decide) (Nat.le_of_ble_eq_true rfl) (Nat.le_of_ble_eq_true rfl) dX5_init_112 (fun q31 cA32 H hK9 hP9 hD9 hS9 => ?_)
  clear hP hD hS hK
  have hP := hP9; have hD := hD9; have hS := hS9; have hK := hK9
  clear hP9 hD9 hS9 hK9
  obtain rfl : K 2 = cA32 := ty_u hK 2 8 rfl rfl
  replace hK := hK.sub (tys' := [(K 0, .int), (K 1, .byte), (K 2, .short), (K 3, .boolean), (K 4, .long), (K 5, .object RX1), (K 6, .object RX2), (K 7, .array .int)]) [0, 1, 2, 3, 4, 5, 6, 7] rfl
  replace hP := tl_P tl_rot hP
  replace hD := tl_D tl_rot hD
  replace hP : va_P (dC, dI) vwCl ([(h0, .inr (5, [.ref q13, .ref q16, .ref q19, .ref q22, .ref q25, .ref q28, .null, .null, .ref q1, .int 0, .int 0, .int 0, .ref q4, .ref q7, .ref p0, .int 1])), (q31, .inl (K 2, 1711, .inl (fun _ => 0)))] ++ (ta30 ++ tb0)) H := hP
  replace hD : va_D A ([(h0, .inr (5, [.ref q13, .ref q16, .ref q19, .ref q22, .ref q25, .ref q28, .null, .null, .ref q1, .int 0, .int 0, .int 0, .ref q4, .ref q7, .ref p0, .int 1])), (q31, .inl (K 2, 1711, .inl (fun _ => 0)))] ++ (ta30 ++ tb0)) := hD
  refine W.widen (k := 10) (n := 12236) (Nat.le_of_ble_eq_true rfl) (Nat.le_of_ble_eq_true rfl) ?_
  obtain ⟨ta33, eta33⟩ : ∃ t : va_W, t = ta30 ++ [(q31, .inl (K 2, 1711, .inl (fun _ => 0)))] := ⟨_, rfl⟩
  have fta33 : ta33 = [(q1, .inl (K 0, 250, .inl (fun _ => 0))), (q4, .inl (K 0, 6, .inl (fun _ => 0))), (q7, .inr (0, [.int 0, .int (-9), .int (-1000000)])), (q13, .inl (K 4, 1711, .inr (.inl (fun _ => 0)))), (q16, .inl (K 1, 1711, .inl (fun _ => 0))), (q19, .inl (K 1, 1711, .inl (fun _ => 0))), (q22, .inl (K 1, 1711, .inl (fun _ => 0))), (q25, .inl (K 1, 1711, .inl (fun _ => 0))), (q28, .inl (K 1, 1711, .inl (fun _ => 0))), (q31, .inl (K 2, 1711, .inl (fun _ => 0)))] := by rw [eta33, fta30]; rfl
  clear fta30
  replace hP : va_P (dC, dI) vwCl ([(h0, .inr (5, [.ref q13, .ref q16, .ref q19, .ref q22, .ref q25, .ref q28, .null, .null, .ref q1, .int 0, .int 0, .int 0, .ref q4, .ref q7, .ref p0, .int 1]))] ++ (ta33 ++ tb0)) H := by rw [eta33]; exact tl_P (tl_park (k := [(h0, .inr (5, [.ref q13, .ref q16, .ref q19, .ref q22, .ref q25, .ref q28, .null, .null, .ref q1, .int 0, .int 0, .int 0, .ref q4, .ref q7, .ref p0, .int 1]))]) (x := [(q31, .inl (K 2, 1711, .inl (fun _ => 0)))])) hP
  replace hD : va_D A ([(h0, .inr (5, [.ref q13, .ref q16, .ref q19, .ref q22, .ref q25, .ref q28, .null, .null, .ref q1, .int 0, .int 0, .int 0, .ref q4, .ref q7, .ref p0, .int 1]))] ++ (ta33 ++ tb0)) := by rw [eta33]; exact tl_D (tl_park (k := [(h0, .inr (5, [.ref q13, .ref q16, .ref q19, .ref q22, .ref q25, .ref q28, .null, .null, .ref q1, .int 0, .int 0, .int 0, .ref q4, .ref q7, .ref p0, .int 1]))]) (x := [(q31, .inl (K 2, 1711, .inl (fun _ => 0)))])) hD
  refine va_putF (D := (dC, dI)) (ci := 5) (v := .ref q31) (ty := .array .short) (C := RX5) (T := TX5) (N := 16) hx hb hts hi5 tyX5 tyX5_ok nmX5 hown hK hP hD hS 0 rfl rfl 6 (by decide) (hts (.fieldLink RX5 69 "CrateHelpers$Tree" "firstBelow" "[S") (by decide +kernel)) (fun _ h9 => h9) rfl hin rfl (by decide +kernel) rfl rfl (Nat.le_of_ble_eq_true rfl) dX5_init_114 (fun H locs hP9 hD9 hS9 => ?_)
  clear hP hD hS
  have hP := hP9; have hD := hD9; have hS := hS9
  clear hP9 hD9 hS9
  replace hP : va_P (dC, dI) vwCl ([(h0, .inr (5, [.ref q13, .ref q16, .ref q19, .ref q22, .ref q25, .ref q28, .ref q31, .null, .ref q1, .int 0, .int 0, .int 0, .ref q4, .ref q7, .ref p0, .int 1]))] ++ (ta33 ++ tb0)) H := hP
  replace hD : va_D A ([(h0, .inr (5, [.ref q13, .ref q16, .ref q19, .ref q22, .ref q25, .ref q28, .ref q31, .null, .ref q1, .int 0, .int 0, .int 0, .ref q4, .ref q7, .ref p0, .int 1]))] ++ (ta33 ++ tb0)) := hD
  refine lv_aload_n hx hb dX5_init_117 rfl (lv_at hl 1 rfl) ?_
  refine lv_iload_n hx hb dX5_init_118 rfl (lv_at hl 0 rfl) ?_
  refine va_newa (atype := .boolean) (ty := .boolean) (a0 := (1711, .inl (fun _ => 0))) (N' := 1711) hx hb (hts (.arrayClass .boolean) (by decide +kernel)) rfl hK hP hD hS hA (fun _ => rfl) (by decide) (by decide) (by decide) (Nat.le_of_ble_eq_true rfl) (Nat.le_of_ble_eq_true rfl) dX5_init_119 (fun q34 cA35 H hK9 hP9 hD9 hS9 => ?_)
  clear hP hD hS hK
  have hP := hP9; have hD := hD9; have hS := hS9; have hK := hK9
  clear hP9 hD9 hS9 hK9
  obtain rfl : K 3 = cA35 := ty_u hK 3 8 rfl rfl
  replace hK := hK.sub (tys' := [(K 0, .int), (K 1, .byte), (K 2, .short), (K 3, .boolean), (K 4, .long), (K 5, .object RX1), (K 6, .object RX2), (K 7, .array .int)]) [0, 1, 2, 3, 4, 5, 6, 7] rfl
  replace hP := tl_P tl_rot hP
  replace hD := tl_D tl_rot hD
  replace hP : va_P (dC, dI) vwCl ([(h0, .inr (5, [.ref q13, .ref q16, .ref q19, .ref q22, .ref q25, .ref q28, .ref q31, .null, .ref q1, .int 0, .int 0, .int 0, .ref q4, .ref q7, .ref p0, .int 1])), (q34, .inl (K 3, 1711, .inl (fun _ => 0)))] ++ (ta33 ++ tb0)) H := hP
  replace hD : va_D A ([(h0, .inr (5, [.ref q13, .ref q16, .ref q19, .ref q22, .ref q25, .ref q28, .ref q31, .null, .ref q1, .int 0, .int 0, .int 0, .ref q4, .ref q7, .ref p0, .int 1])), (q34, .inl (K 3, 1711, .inl (fun _ => 0)))] ++ (ta33 ++ tb0)) := hD
  refine W.widen (k := 11) (n := 13947) (Nat.le_of_ble_eq_true rfl) (Nat.le_of_ble_eq_true rfl) ?_
  obtain ⟨ta36, eta36⟩ : ∃ t : va_W, t = ta33 ++ [(q34, .inl (K 3, 1711, .inl (fun _ => 0)))] := ⟨_, rfl⟩
  have fta36 : ta36 = [(q1, .inl (K 0, 250, .inl (fun _ => 0))), (q4, .inl (K 0, 6, .inl (fun _ => 0))), (q7, .inr (0, [.int 0, .int (-9), .int (-1000000)])), (q13, .inl (K 4, 1711, .inr (.inl (fun _ => 0)))), (q16, .inl (K 1, 1711, .inl (fun _ => 0))), (q19, .inl (K 1, 1711, .inl (fun _ => 0))), (q22, .inl (K 1, 1711, .inl (fun _ => 0))), (q25, .inl (K 1, 1711, .inl (fun _ => 0))), (q28, .inl (K 1, 1711, .inl (fun _ => 0))), (q31, .inl (K 2, 1711, .inl (fun _ => 0))), (q34, .inl (K 3, 1711, .inl (fun _ => 0)))] := by rw [eta36, fta33]; rfl
  clear fta33
  replace hP : va_P (dC, dI) vwCl ([(h0, .inr (5, [.ref q13, .ref q16, .ref q19, .ref q22, .ref q25, .ref q28, .ref q31, .null, .ref q1, .int 0, .int 0, .int 0, .ref q4, .ref q7, .ref p0, .int 1]))] ++ (ta36 ++ tb0)) H := by rw [eta36]; exact tl_P (tl_park (k := [(h0, .inr (5, [.ref q13, .ref q16, .ref q19, .ref q22, .ref q25, .ref q28, .ref q31, .null, .ref q1, .int 0, .int 0, .int 0, .ref q4, .ref q7, .ref p0, .int 1]))]) (x := [(q34, .inl (K 3, 1711, .inl (fun _ => 0)))])) hP
  replace hD : va_D A ([(h0, .inr (5, [.ref q13, .ref q16, .ref q19, .ref q22, .ref q25, .ref q28, .ref q31, .null, .ref q1, .int 0, .int 0, .int 0, .ref q4, .ref q7, .ref p0, .int 1]))] ++ (ta36 ++ tb0)) := by rw [eta36]; exact tl_D (tl_park (k := [(h0, .inr (5, [.ref q13, .ref q16, .ref q19, .ref q22, .ref q25, .ref q28, .ref q31, .null, .ref q1, .int 0, .int 0, .int 0, .ref q4, .ref q7, .ref p0, .int 1]))]) (x := [(q34, .inl (K 3, 1711, .inl (fun _ => 0)))])) hD
  refine va_putF (D := (dC, dI)) (ci := 5) (v := .ref q34) (ty := .array .boolean) (C := RX5) (T := TX5) (N := 16) hx hb hts hi5 tyX5 tyX5_ok nmX5 hown hK hP hD hS 0 rfl rfl 7 (by decide) (hts (.fieldLink RX5 73 "CrateHelpers$Tree" "isReached" "[Z") (by decide +kernel)) (fun _ h9 => h9) rfl hin rfl (by decide +kernel) rfl rfl (Nat.le_of_ble_eq_true rfl) dX5_init_121 (fun H locs hP9 hD9 hS9 => ?_)
  clear hP hD hS
  have hP := hP9; have hD := hD9; have hS := hS9
  clear hP9 hD9 hS9
  replace hP : va_P (dC, dI) vwCl ([(h0, .inr (5, [.ref q13, .ref q16, .ref q19, .ref q22, .ref q25, .ref q28, .ref q31, .ref q34, .ref q1, .int 0, .int 0, .int 0, .ref q4, .ref q7, .ref p0, .int 1]))] ++ (ta36 ++ tb0)) H := hP
  replace hD : va_D A ([(h0, .inr (5, [.ref q13, .ref q16, .ref q19, .ref q22, .ref q25, .ref q28, .ref q31, .ref q34, .ref q1, .int 0, .int 0, .int 0, .ref q4, .ref q7, .ref p0, .int 1]))] ++ (ta36 ++ tb0)) := hD
  rw [fta36] at hP hD
  rw [etb0] at hP hD
  have hP9 := hP.sub (ws' := [(h0, .inr (5, [.ref q13, .ref q16, .ref q19, .ref q22, .ref q25, .ref q28, .ref q31, .ref q34, .ref q1, .int 0, .int 0, .int 0, .ref q4, .ref q7, .ref p0, .int 1])), (q13, .inl (K 4, 1711, .inr (.inl (fun _ => 0)))), (q16, .inl (K 1, 1711, .inl (fun _ => 0))), (q19, .inl (K 1, 1711, .inl (fun _ => 0))), (q22, .inl (K 1, 1711, .inl (fun _ => 0))), (q25, .inl (K 1, 1711, .inl (fun _ => 0))), (q28, .inl (K 1, 1711, .inl (fun _ => 0))), (q31, .inl (K 2, 1711, .inl (fun _ => 0))), (q34, .inl (K 3, 1711, .inl (fun _ => 0))), (q1, .inl (K 0, 250, .inl (fun _ => 0))), (q4, .inl (K 0, 6, .inl (fun _ => 0))), (q7, .inr (0, [.int 0, .int (-9), .int (-1000000)]))]) [0, 4, 5, 6, 7, 8, 9, 10, 11, 1, 2, 3] rfl
  have hD9 := hD.sub (ws' := [(h0, .inr (5, [.ref q13, .ref q16, .ref q19, .ref q22, .ref q25, .ref q28, .ref q31, .ref q34, .ref q1, .int 0, .int 0, .int 0, .ref q4, .ref q7, .ref p0, .int 1])), (q13, .inl (K 4, 1711, .inr (.inl (fun _ => 0)))), (q16, .inl (K 1, 1711, .inl (fun _ => 0))), (q19, .inl (K 1, 1711, .inl (fun _ => 0))), (q22, .inl (K 1, 1711, .inl (fun _ => 0))), (q25, .inl (K 1, 1711, .inl (fun _ => 0))), (q28, .inl (K 1, 1711, .inl (fun _ => 0))), (q31, .inl (K 2, 1711, .inl (fun _ => 0))), (q34, .inl (K 3, 1711, .inl (fun _ => 0))), (q1, .inl (K 0, 250, .inl (fun _ => 0))), (q4, .inl (K 0, 6, .inl (fun _ => 0))), (q7, .inr (0, [.int 0, .int (-9), .int (-1000000)]))]) [0, 4, 5, 6, 7, 8, 9, 10, 11, 1, 2, 3] (by decide) rfl
  exact W.vret hx hb hr (fun t ht hW => ⟨⟨(), rfl, trivial, q13, q16, q19, q22, q25, q28, q31, q34, q1, q4, q7, by rw [ht]; exact hP9, va_K.moved hW.alike hK, hD9⟩, hS.F ht⟩) hS.2.2 dX5_init_124
set_option maxHeartbeats 4000000 in
set_option maxRecDepth 100000 in
/-- Tree(any, 250) -/
theorem z_X5_init_250 (l : Launch) (dC : Nat → ClassId) (dI : Nat → Nat → Nat) (sz : Nat) (K : Nat → ClassId) (h0 : Nat) (p0 : Nat) : Met l yX5_init wsX5_init ({ frames := 2, cells := 11, slots := 12267, locals := 60 }) (va_Pc [.ref h0, .ref p0, .int 250] (fun U => U.heap.size = sz ∧ va_P (dC, dI) vwCl [(h0, .inr (5, [.null, .null, .null, .null, .null, .null, .null, .null, .null, .int 0, .int 0, .int 0, .null, .null, .null, .int 0]))] U.heap ∧ va_K (dC, dI) vwCl [(K 0, .int), (K 1, .byte), (K 2, .short), (K 3, .boolean), (K 4, .long), (K 5, .object RX1), (K 6, .object RX2), (K 7, .array .int)] U ∧ va_D (fun _ => True) [(h0, .inr (5, [.null, .null, .null, .null, .null, .null, .null, .null, .null, .int 0, .int 0, .int 0, .null, .null, .null, .int 0]))] ∧ nwX U)) (va_Qv (fun (_ : Unit) => True) (fun (_ : Unit) (t : State) => ∃ (a1 : Nat) (a2 : Nat) (a3 : Nat) (a4 : Nat) (a5 : Nat) (a6 : Nat) (a7 : Nat) (a8 : Nat) (a9 : Nat) (a10 : Nat) (a11 : Nat), va_P (dC, dI) vwCl [(h0, .inr (5, [.ref a1, .ref a2, .ref a3, .ref a4, .ref a5, .ref a6, .ref a7, .ref a8, .ref a9, .int 0, .int 0, .int 0, .ref a10, .ref a11, .ref p0, .int 1])), (a1, .inl (K 4, 1501, .inr (.inl (fun _ => 0)))), (a2, .inl (K 1, 1501, .inl (fun _ => 0))), (a3, .inl (K 1, 1501, .inl (fun _ => 0))), (a4, .inl (K 1, 1501, .inl (fun _ => 0))), (a5, .inl (K 1, 1501, .inl (fun _ => 0))), (a6, .inl (K 1, 1501, .inl (fun _ => 0))), (a7, .inl (K 2, 1501, .inl (fun _ => 0))), (a8, .inl (K 3, 1501, .inl (fun _ => 0))), (a9, .inl (K 0, 250, .inl (fun _ => 0))), (a10, .inl (K 0, 6, .inl (fun _ => 0))), (a11, .inr (0, [.int 0, .int (-9), .int (-1000000)]))] t.heap ∧ va_K (dC, dI) vwCl [(K 0, .int), (K 1, .byte), (K 2, .short), (K 3, .boolean), (K 4, .long), (K 5, .object RX1), (K 6, .object RX2), (K 7, .array .int)] t ∧ va_D (va_A [(h0, .inr (5, [.null, .null, .null, .null, .null, .null, .null, .null, .null, .int 0, .int 0, .int 0, .null, .null, .null, .int 0]))] sz) [(h0, .inr (5, [.ref a1, .ref a2, .ref a3, .ref a4, .ref a5, .ref a6, .ref a7, .ref a8, .ref a9, .int 0, .int 0, .int 0, .ref a10, .ref a11, .ref p0, .int 1])), (a1, .inl (K 4, 1501, .inr (.inl (fun _ => 0)))), (a2, .inl (K 1, 1501, .inl (fun _ => 0))), (a3, .inl (K 1, 1501, .inl (fun _ => 0))), (a4, .inl (K 1, 1501, .inl (fun _ => 0))), (a5, .inl (K 1, 1501, .inl (fun _ => 0))), (a6, .inl (K 1, 1501, .inl (fun _ => 0))), (a7, .inl (K 2, 1501, .inl (fun _ => 0))), (a8, .inl (K 3, 1501, .inl (fun _ => 0))), (a9, .inl (K 0, 250, .inl (fun _ => 0))), (a10, .inl (K 0, 6, .inl (fun _ => 0))), (a11, .inr (0, [.int 0, .int (-9), .int (-1000000)]))]) (va_A [(h0, .inr (5, [.null, .null, .null, .null, .null, .null, .null, .null, .null, .int 0, .int 0, .int 0, .null, .null, .null, .int 0]))] sz)) 11 12267 (va_A [(h0, .inr (5, [.null, .null, .null, .null, .null, .null, .null, .null, .null, .int 0, .int 0, .int 0, .null, .null, .null, .int 0]))] sz) := by
  refine Met.ofW (cc := cX5_init) (maxL := 4) (ret := none) (by decide) rfl ?_
  intro p e s m args below meth c s₁ B hml hv
  obtain ⟨rfl, hsz, hP, hK, hD0, hN⟩ := hv
  have hx := B.exec
  have hb := B.bytes
  have hr := B.returns
  have hts := atoms_spec (ws := wsX5_init) B.pre
  have hown : s.vm.findClass RX5 = some m.cls := findClass_of_methodNamed B.named
  have hlocks := B.notSynchronized
  have hin : meth.name = "<init>" := (name_of_methodNamed B.named B.method).1
  have hi5 : ∀ w ∈ u_ws RX5 TX5 16, w ∈ wsX5_init := fun w h => List.mem_cons_of_mem _ (List.mem_append_left _ (List.mem_append_right _ h))
  have hi0 : ∀ w ∈ u_ws RX0 TX0 3, w ∈ wsX5_init := fun w h => List.mem_cons_of_mem _ (List.mem_append_right _ h)
  subst hsz
  replace hD := hD0.self (sz := s.heap.size)
  generalize hAe : va_A [(h0, .inr (5, [.null, .null, .null, .null, .null, .null, .null, .null, .null, .int 0, .int 0, .int 0, .null, .null, .null, .int 0]))] s.heap.size = A at hD ⊢
  have hA : ∀ q : Nat, s.heap.size ≤ q → A q := fun q h => by rw [← hAe]; exact Or.inr h
  have hS : va_S A s.heap s.heap [] := va_S.rf
  replace hP : va_P (dC, dI) vwCl [(h0, .inr (5, [.null, .null, .null, .null, .null, .null, .null, .null, .null, .int 0, .int 0, .int 0, .null, .null, .null, .int 0]))] s.heap := hP
  have hl := lv_entry ([.ref h0, .ref p0, .int 250]) (n := 4) (Nat.le_of_ble_eq_true rfl)
  rw [lg_entry_eq]
  generalize (lg_sl ([.ref h0, .ref p0, .int 250]) ++ List.replicate (4 - (lg_sl ([.ref h0, .ref p0, .int 250])).length) Slot.unset).toArray = ls at hl ⊢
  have hl : lv_has ls 4 [(0, .ref h0), (1, .ref p0), (2, .int 250)] := hl
  obtain ⟨ta0, eta0⟩ : ∃ t : va_W, t = [] := ⟨_, rfl⟩
  obtain ⟨tb0, etb0⟩ : ∃ t : va_W, t = [] := ⟨_, rfl⟩
  have fta0 : ta0 = [] := eta0
  replace hP : va_P (dC, dI) vwCl ([(h0, .inr (5, [.null, .null, .null, .null, .null, .null, .null, .null, .null, .int 0, .int 0, .int 0, .null, .null, .null, .int 0]))] ++ (ta0 ++ tb0)) s.heap := by rw [eta0, etb0]; exact hP
  replace hD : va_D A ([(h0, .inr (5, [.null, .null, .null, .null, .null, .null, .null, .null, .null, .int 0, .int 0, .int 0, .null, .null, .null, .int 0]))] ++ (ta0 ++ tb0)) := by rw [eta0, etb0]; exact hD
  have hAO_RX1 : va_AO RX1 s := hN.2.2.2.2.1
  have hAO_RX2 : va_AO RX2 s := hN.2.2.2.2.2.1
  refine lv_aload_n hx hb dX5_init_0 rfl (lv_at hl 0 rfl) ?_
  refine W.objInit hx hb hown (hts (.methodLink RX5 5 objectInit) (by decide +kernel)) (hts (.instanceMethod objectInit) (by decide +kernel)) (hts _ (List.mem_of_getElem? (i := 3) rfl)) rfl (by rw [hml]; exact hl.1) rfl dX5_init_1 (Nat.le_of_ble_eq_true rfl) (Nat.le_of_ble_eq_true rfl) ?_
  refine W.eq (g2 := F0 m 4 ls []) rfl ?_
  refine lv_aload_n hx hb dX5_init_4 rfl (lv_at hl 0 rfl) ?_
  refine lv_sipush (v := 250) hx hb dX5_init_5 (by decide) ?_
  refine va_newa (atype := .int) (ty := .int) (a0 := (250, .inl (fun _ => 0))) (N' := 250) hx hb (hts (.arrayClass .int) (by decide +kernel)) rfl hK hP hD hS hA (fun _ => rfl) (by decide) (by decide) (by decide) (Nat.le_of_ble_eq_true rfl) (Nat.le_of_ble_eq_true rfl) dX5_init_8 (fun q1 cA2 H hK9 hP9 hD9 hS9 => ?_)
  clear hP hD hS hK
  have hP := hP9; have hD := hD9; have hS := hS9; have hK := hK9
  clear hP9 hD9 hS9 hK9
  obtain rfl : K 0 = cA2 := ty_u hK 0 8 rfl rfl
  replace hK := hK.sub (tys' := [(K 0, .int), (K 1, .byte), (K 2, .short), (K 3, .boolean), (K 4, .long), (K 5, .object RX1), (K 6, .object RX2), (K 7, .array .int)]) [0, 1, 2, 3, 4, 5, 6, 7] rfl
  replace hP := tl_P tl_rot hP
  replace hD := tl_D tl_rot hD
  replace hP : va_P (dC, dI) vwCl ([(h0, .inr (5, [.null, .null, .null, .null, .null, .null, .null, .null, .null, .int 0, .int 0, .int 0, .null, .null, .null, .int 0])), (q1, .inl (K 0, 250, .inl (fun _ => 0)))] ++ (ta0 ++ tb0)) H := hP
  replace hD : va_D A ([(h0, .inr (5, [.null, .null, .null, .null, .null, .null, .null, .null, .null, .int 0, .int 0, .int 0, .null, .null, .null, .int 0])), (q1, .inl (K 0, 250, .inl (fun _ => 0)))] ++ (ta0 ++ tb0)) := hD
  refine W.widen (k := 1) (n := 250) (Nat.le_of_ble_eq_true rfl) (Nat.le_of_ble_eq_true rfl) ?_
  obtain ⟨ta3, eta3⟩ : ∃ t : va_W, t = ta0 ++ [(q1, .inl (K 0, 250, .inl (fun _ => 0)))] := ⟨_, rfl⟩
  have fta3 : ta3 = [(q1, .inl (K 0, 250, .inl (fun _ => 0)))] := by rw [eta3, fta0]; rfl
  clear fta0
  replace hP : va_P (dC, dI) vwCl ([(h0, .inr (5, [.null, .null, .null, .null, .null, .null, .null, .null, .null, .int 0, .int 0, .int 0, .null, .null, .null, .int 0]))] ++ (ta3 ++ tb0)) H := by rw [eta3]; exact tl_P (tl_park (k := [(h0, .inr (5, [.null, .null, .null, .null, .null, .null, .null, .null, .null, .int 0, .int 0, .int 0, .null, .null, .null, .int 0]))]) (x := [(q1, .inl (K 0, 250, .inl (fun _ => 0)))])) hP
  replace hD : va_D A ([(h0, .inr (5, [.null, .null, .null, .null, .null, .null, .null, .null, .null, .int 0, .int 0, .int 0, .null, .null, .null, .int 0]))] ++ (ta3 ++ tb0)) := by rw [eta3]; exact tl_D (tl_park (k := [(h0, .inr (5, [.null, .null, .null, .null, .null, .null, .null, .null, .null, .int 0, .int 0, .int 0, .null, .null, .null, .int 0]))]) (x := [(q1, .inl (K 0, 250, .inl (fun _ => 0)))])) hD
  refine va_putF (D := (dC, dI)) (ci := 5) (v := .ref q1) (ty := .array .int) (C := RX5) (T := TX5) (N := 16) hx hb hts hi5 tyX5 tyX5_ok nmX5 hown hK hP hD hS 0 rfl rfl 8 (by decide) (hts (.fieldLink RX5 11 "CrateHelpers$Tree" "walk" "[I") (by decide +kernel)) (fun _ h9 => h9) rfl hin rfl (by decide +kernel) rfl rfl (Nat.le_of_ble_eq_true rfl) dX5_init_10 (fun H locs hP9 hD9 hS9 => ?_)
  clear hP hD hS
  have hP := hP9; have hD := hD9; have hS := hS9
  clear hP9 hD9 hS9
  replace hP : va_P (dC, dI) vwCl ([(h0, .inr (5, [.null, .null, .null, .null, .null, .null, .null, .null, .ref q1, .int 0, .int 0, .int 0, .null, .null, .null, .int 0]))] ++ (ta3 ++ tb0)) H := hP
  replace hD : va_D A ([(h0, .inr (5, [.null, .null, .null, .null, .null, .null, .null, .null, .ref q1, .int 0, .int 0, .int 0, .null, .null, .null, .int 0]))] ++ (ta3 ++ tb0)) := hD
  refine lv_aload_n hx hb dX5_init_13 rfl (lv_at hl 0 rfl) ?_
  refine lv_iconst (v := 0) hx hb dX5_init_14 (by decide) ?_
  refine va_put (D := (dC, dI)) (ci := 5) (v := .int 0) (ty := .int) (C := RX5) (T := TX5) (N := 16) hx hb hts hi5 tyX5 tyX5_ok nmX5 hown hK hP hD hS 0 rfl rfl 9 (by decide) (hts (.fieldLink RX5 15 "CrateHelpers$Tree" "known" "I") (by decide +kernel)) (fun _ h9 => h9) rfl (by decide +kernel) rfl rfl (Nat.le_of_ble_eq_true rfl) dX5_init_15 (fun H locs hP9 hD9 hS9 => ?_)
  clear hP hD hS
  have hP := hP9; have hD := hD9; have hS := hS9
  clear hP9 hD9 hS9
  replace hP : va_P (dC, dI) vwCl ([(h0, .inr (5, [.null, .null, .null, .null, .null, .null, .null, .null, .ref q1, .int 0, .int 0, .int 0, .null, .null, .null, .int 0]))] ++ (ta3 ++ tb0)) H := hP
  replace hD : va_D A ([(h0, .inr (5, [.null, .null, .null, .null, .null, .null, .null, .null, .ref q1, .int 0, .int 0, .int 0, .null, .null, .null, .int 0]))] ++ (ta3 ++ tb0)) := hD
  refine lv_aload_n hx hb dX5_init_18 rfl (lv_at hl 0 rfl) ?_
  refine lv_iconst (v := 0) hx hb dX5_init_19 (by decide) ?_
  refine va_put (D := (dC, dI)) (ci := 5) (v := .int 0) (ty := .int) (C := RX5) (T := TX5) (N := 16) hx hb hts hi5 tyX5 tyX5_ok nmX5 hown hK hP hD hS 0 rfl rfl 10 (by decide) (hts (.fieldLink RX5 19 "CrateHelpers$Tree" "done" "I") (by decide +kernel)) (fun _ h9 => h9) rfl (by decide +kernel) rfl rfl (Nat.le_of_ble_eq_true rfl) dX5_init_20 (fun H locs hP9 hD9 hS9 => ?_)
  clear hP hD hS
  have hP := hP9; have hD := hD9; have hS := hS9
  clear hP9 hD9 hS9
  replace hP : va_P (dC, dI) vwCl ([(h0, .inr (5, [.null, .null, .null, .null, .null, .null, .null, .null, .ref q1, .int 0, .int 0, .int 0, .null, .null, .null, .int 0]))] ++ (ta3 ++ tb0)) H := hP
  replace hD : va_D A ([(h0, .inr (5, [.null, .null, .null, .null, .null, .null, .null, .null, .ref q1, .int 0, .int 0, .int 0, .null, .null, .null, .int 0]))] ++ (ta3 ++ tb0)) := hD
  refine lv_aload_n hx hb dX5_init_23 rfl (lv_at hl 0 rfl) ?_
  refine lv_iconst (v := 0) hx hb dX5_init_24 (by decide) ?_
  refine va_put (D := (dC, dI)) (ci := 5) (v := .int 0) (ty := .int) (C := RX5) (T := TX5) (N := 16) hx hb hts hi5 tyX5 tyX5_ok nmX5 hown hK hP hD hS 0 rfl rfl 11 (by decide) (hts (.fieldLink RX5 22 "CrateHelpers$Tree" "taken" "I") (by decide +kernel)) (fun _ h9 => h9) rfl (by decide +kernel) rfl rfl (Nat.le_of_ble_eq_true rfl) dX5_init_25 (fun H locs hP9 hD9 hS9 => ?_)
  clear hP hD hS
  have hP := hP9; have hD := hD9; have hS := hS9
  clear hP9 hD9 hS9
  replace hP : va_P (dC, dI) vwCl ([(h0, .inr (5, [.null, .null, .null, .null, .null, .null, .null, .null, .ref q1, .int 0, .int 0, .int 0, .null, .null, .null, .int 0]))] ++ (ta3 ++ tb0)) H := hP
  replace hD : va_D A ([(h0, .inr (5, [.null, .null, .null, .null, .null, .null, .null, .null, .ref q1, .int 0, .int 0, .int 0, .null, .null, .null, .int 0]))] ++ (ta3 ++ tb0)) := hD
  refine lv_aload_n hx hb dX5_init_28 rfl (lv_at hl 0 rfl) ?_
  refine lv_bipush (v := 6) hx hb dX5_init_29 (by decide) ?_
  refine va_newa (atype := .int) (ty := .int) (a0 := (6, .inl (fun _ => 0))) (N' := 6) hx hb (hts (.arrayClass .int) (by decide +kernel)) rfl hK hP hD hS hA (fun _ => rfl) (by decide) (by decide) (by decide) (Nat.le_of_ble_eq_true rfl) (Nat.le_of_ble_eq_true rfl) dX5_init_31 (fun q4 cA5 H hK9 hP9 hD9 hS9 => ?_)
  clear hP hD hS hK
  have hP := hP9; have hD := hD9; have hS := hS9; have hK := hK9
  clear hP9 hD9 hS9 hK9
  obtain rfl : K 0 = cA5 := ty_u hK 0 8 rfl rfl
  replace hK := hK.sub (tys' := [(K 0, .int), (K 1, .byte), (K 2, .short), (K 3, .boolean), (K 4, .long), (K 5, .object RX1), (K 6, .object RX2), (K 7, .array .int)]) [0, 1, 2, 3, 4, 5, 6, 7] rfl
  replace hP := tl_P tl_rot hP
  replace hD := tl_D tl_rot hD
  replace hP : va_P (dC, dI) vwCl ([(h0, .inr (5, [.null, .null, .null, .null, .null, .null, .null, .null, .ref q1, .int 0, .int 0, .int 0, .null, .null, .null, .int 0])), (q4, .inl (K 0, 6, .inl (fun _ => 0)))] ++ (ta3 ++ tb0)) H := hP
  replace hD : va_D A ([(h0, .inr (5, [.null, .null, .null, .null, .null, .null, .null, .null, .ref q1, .int 0, .int 0, .int 0, .null, .null, .null, .int 0])), (q4, .inl (K 0, 6, .inl (fun _ => 0)))] ++ (ta3 ++ tb0)) := hD
  refine W.widen (k := 2) (n := 256) (Nat.le_of_ble_eq_true rfl) (Nat.le_of_ble_eq_true rfl) ?_
  obtain ⟨ta6, eta6⟩ : ∃ t : va_W, t = ta3 ++ [(q4, .inl (K 0, 6, .inl (fun _ => 0)))] := ⟨_, rfl⟩
  have fta6 : ta6 = [(q1, .inl (K 0, 250, .inl (fun _ => 0))), (q4, .inl (K 0, 6, .inl (fun _ => 0)))] := by rw [eta6, fta3]; rfl
  clear fta3
  replace hP : va_P (dC, dI) vwCl ([(h0, .inr (5, [.null, .null, .null, .null, .null, .null, .null, .null, .ref q1, .int 0, .int 0, .int 0, .null, .null, .null, .int 0]))] ++ (ta6 ++ tb0)) H := by rw [eta6]; exact tl_P (tl_park (k := [(h0, .inr (5, [.null, .null, .null, .null, .null, .null, .null, .null, .ref q1, .int 0, .int 0, .int 0, .null, .null, .null, .int 0]))]) (x := [(q4, .inl (K 0, 6, .inl (fun _ => 0)))])) hP
  replace hD : va_D A ([(h0, .inr (5, [.null, .null, .null, .null, .null, .null, .null, .null, .ref q1, .int 0, .int 0, .int 0, .null, .null, .null, .int 0]))] ++ (ta6 ++ tb0)) := by rw [eta6]; exact tl_D (tl_park (k := [(h0, .inr (5, [.null, .null, .null, .null, .null, .null, .null, .null, .ref q1, .int 0, .int 0, .int 0, .null, .null, .null, .int 0]))]) (x := [(q4, .inl (K 0, 6, .inl (fun _ => 0)))])) hD
  refine va_putF (D := (dC, dI)) (ci := 5) (v := .ref q4) (ty := .array .int) (C := RX5) (T := TX5) (N := 16) hx hb hts hi5 tyX5 tyX5_ok nmX5 hown hK hP hD hS 0 rfl rfl 12 (by decide) (hts (.fieldLink RX5 25 "CrateHelpers$Tree" "values" "[I") (by decide +kernel)) (fun _ h9 => h9) rfl hin rfl (by decide +kernel) rfl rfl (Nat.le_of_ble_eq_true rfl) dX5_init_33 (fun H locs hP9 hD9 hS9 => ?_)
  clear hP hD hS
  have hP := hP9; have hD := hD9; have hS := hS9
  clear hP9 hD9 hS9
  replace hP : va_P (dC, dI) vwCl ([(h0, .inr (5, [.null, .null, .null, .null, .null, .null, .null, .null, .ref q1, .int 0, .int 0, .int 0, .ref q4, .null, .null, .int 0]))] ++ (ta6 ++ tb0)) H := hP
  replace hD : va_D A ([(h0, .inr (5, [.null, .null, .null, .null, .null, .null, .null, .null, .ref q1, .int 0, .int 0, .int 0, .ref q4, .null, .null, .int 0]))] ++ (ta6 ++ tb0)) := hD
  refine lv_aload_n hx hb dX5_init_36 rfl (lv_at hl 0 rfl) ?_
  refine va_new (ci := 0) (fs := [.int 0, .int 0, .int 0]) (C := RX0) (T := TX0) (N := 3) hx hb hts hi0 tyX0 tyX0_ok hown (hts (.classLink RX5 28 RX0) (by decide +kernel)) (hts (.instantiable RX0 3) (by decide +kernel)) (hts (.initialized RX0) (by decide +kernel)) hK hP hD hS hA rfl (by decide +kernel) (Nat.le_of_ble_eq_true rfl) (Nat.le_of_ble_eq_true rfl) dX5_init_37 (fun q7 H hP9 hD9 hS9 => ?_)
  clear hP hD hS
  have hP := hP9; have hD := hD9; have hS := hS9
  clear hP9 hD9 hS9
  replace hP := tl_P tl_rot hP
  replace hD := tl_D tl_rot hD
  replace hP : va_P (dC, dI) vwCl ([(h0, .inr (5, [.null, .null, .null, .null, .null, .null, .null, .null, .ref q1, .int 0, .int 0, .int 0, .ref q4, .null, .null, .int 0])), (q7, .inr (0, [.int 0, .int 0, .int 0]))] ++ (ta6 ++ tb0)) H := hP
  replace hD : va_D A ([(h0, .inr (5, [.null, .null, .null, .null, .null, .null, .null, .null, .ref q1, .int 0, .int 0, .int 0, .ref q4, .null, .null, .int 0])), (q7, .inr (0, [.int 0, .int 0, .int 0]))] ++ (ta6 ++ tb0)) := hD
  refine W.widen (k := 3) (n := 259) (Nat.le_of_ble_eq_true rfl) (Nat.le_of_ble_eq_true rfl) ?_
  refine lv_dup hx hb dX5_init_40 rfl ?_
  have hPc := hP.sub (ws' := [(q7, .inr (0, [.int 0, .int 0, .int 0]))]) [1] rfl
  have hDc := hD.sub (ws' := [(q7, .inr (0, [.int 0, .int 0, .int 0]))]) [1] (by decide) rfl
  have hKc := hK.sub (tys' := [(K 0, .int), (K 1, .byte), (K 2, .short), (K 3, .boolean), (K 4, .long), (K 5, .object RX1), (K 6, .object RX2), (K 7, .array .int)]) [0, 1, 2, 3, 4, 5, 6, 7] rfl
  have hFc := va_free (wc := [(q7, .inr (0, [.int 0, .int 0, .int 0]))]) hD hS hA [1] rfl
  refine va_callv (va_runIN (As := []) (rest := [.ref q7, .ref h0]) ⟨hx, hb, hml, hown, hts⟩ (z_X0_init l dC dI H.size K q7) (⟨va_cnB 0 hts gX5_init_X0_init_n30 rfl rfl rfl hN.2.2.2.1 (hts (.initialized RX0) (by decide +kernel)) (by decide +kernel) ⟨Nat.le_of_ble_eq_true rfl, Nat.le_of_ble_eq_true rfl⟩, rfl, hts (.instanceMethod yX0_init) (by decide +kernel)⟩) ⟨fun a U g mk q => by obtain ⟨q0, q1, qP, qK, qD⟩ := q; exact ⟨q0, q1, qP, va_K.moved (u := U) (U := U.calling g mk a) (Vm.Alike.refl U.vm) qK, qD⟩, fun U hU hW => ⟨rfl, by rw [hU], by rw [hU]; exact hPc, va_K.moved hW.alike hKc, hDc.weaken (fun _ _ _ _ => trivial)⟩⟩ rfl rfl hl.1 rfl (lv_room (Nat.le_of_ble_eq_true rfl)) dX5_init_41 ⟨Nat.le_of_ble_eq_true rfl, Nat.le_of_ble_eq_true rfl⟩) hS (fun q _ h => hFc q h) hFc (fun u8 t H1 locs ht hvm hw hB hz1 hk1 hS => ?_)
  obtain ⟨hP1, hK1, hD1⟩ := hB
  rw [ht] at hP1
  try dsimp only at hw
  obtain ⟨hP9, hD9⟩ := tl_join (lits := [(h0, .inr (5, [.null, .null, .null, .null, .null, .null, .null, .null, .ref q1, .int 0, .int 0, .int 0, .ref q4, .null, .null, .int 0])), (q7, .inr (0, [.int 0, .int 0, .int 0]))]) (tl := ta6 ++ tb0) (wr := [(h0, .inr (5, [.null, .null, .null, .null, .null, .null, .null, .null, .ref q1, .int 0, .int 0, .int 0, .ref q4, .null, .null, .int 0]))]) (w1 := [(q7, .inr (0, [.int 0, .int (-9), .int (-1000000)]))]) hP hD [1] [0] rfl rfl (by decide) (by decide) 2 rfl (by decide) (by decide) hk1 hFc hP1 hD1
  clear hP hD hPc hDc hKc hFc hP1 hK1 hD1 hk1
  have hP := hP9; have hD := hD9
  clear hP9 hD9
  generalize H1 = H at hP hS ⊢
  replace hP := tl_P tl_rot hP
  replace hD := tl_D tl_rot hD
  replace hP : va_P (dC, dI) vwCl ([(h0, .inr (5, [.null, .null, .null, .null, .null, .null, .null, .null, .ref q1, .int 0, .int 0, .int 0, .ref q4, .null, .null, .int 0])), (q7, .inr (0, [.int 0, .int (-9), .int (-1000000)]))] ++ (ta6 ++ tb0)) H := hP
  replace hD : va_D A ([(h0, .inr (5, [.null, .null, .null, .null, .null, .null, .null, .null, .ref q1, .int 0, .int 0, .int 0, .ref q4, .null, .null, .int 0])), (q7, .inr (0, [.int 0, .int (-9), .int (-1000000)]))] ++ (ta6 ++ tb0)) := hD
  obtain ⟨ta9, eta9⟩ : ∃ t : va_W, t = ta6 ++ [(q7, .inr (0, [.int 0, .int (-9), .int (-1000000)]))] := ⟨_, rfl⟩
  have fta9 : ta9 = [(q1, .inl (K 0, 250, .inl (fun _ => 0))), (q4, .inl (K 0, 6, .inl (fun _ => 0))), (q7, .inr (0, [.int 0, .int (-9), .int (-1000000)]))] := by rw [eta9, fta6]; rfl
  clear fta6
  replace hP : va_P (dC, dI) vwCl ([(h0, .inr (5, [.null, .null, .null, .null, .null, .null, .null, .null, .ref q1, .int 0, .int 0, .int 0, .ref q4, .null, .null, .int 0]))] ++ (ta9 ++ tb0)) H := by rw [eta9]; exact tl_P (tl_park (k := [(h0, .inr (5, [.null, .null, .null, .null, .null, .null, .null, .null, .ref q1, .int 0, .int 0, .int 0, .ref q4, .null, .null, .int 0]))]) (x := [(q7, .inr (0, [.int 0, .int (-9), .int (-1000000)]))])) hP
  replace hD : va_D A ([(h0, .inr (5, [.null, .null, .null, .null, .null, .null, .null, .null, .ref q1, .int 0, .int 0, .int 0, .ref q4, .null, .null, .int 0]))] ++ (ta9 ++ tb0)) := by rw [eta9]; exact tl_D (tl_park (k := [(h0, .inr (5, [.null, .null, .null, .null, .null, .null, .null, .null, .ref q1, .int 0, .int 0, .int 0, .ref q4, .null, .null, .int 0]))]) (x := [(q7, .inr (0, [.int 0, .int (-9), .int (-1000000)]))])) hD
  refine va_putF (D := (dC, dI)) (ci := 5) (v := .ref q7) (ty := .object "CrateHelpers$Judge") (C := RX5) (T := TX5) (N := 16) hx hb hts hi5 tyX5 tyX5_ok nmX5 hown hK hP hD hS 0 rfl rfl 13 (by decide) (hts (.fieldLink RX5 31 "CrateHelpers$Tree" "judge" "LCrateHelpers$Judge;") (by decide +kernel)) (fun _ h9 => h9) rfl hin rfl (by decide +kernel) rfl rfl (Nat.le_of_ble_eq_true rfl) dX5_init_44 (fun H locs hP9 hD9 hS9 => ?_)
  clear hP hD hS
  have hP := hP9; have hD := hD9; have hS := hS9
  clear hP9 hD9 hS9
  replace hP : va_P (dC, dI) vwCl ([(h0, .inr (5, [.null, .null, .null, .null, .null, .null, .null, .null, .ref q1, .int 0, .int 0, .int 0, .ref q4, .ref q7, .null, .int 0]))] ++ (ta9 ++ tb0)) H := hP
  replace hD : va_D A ([(h0, .inr (5, [.null, .null, .null, .null, .null, .null, .null, .null, .ref q1, .int 0, .int 0, .int 0, .ref q4, .ref q7, .null, .int 0]))] ++ (ta9 ++ tb0)) := hD
  refine lv_aload_n hx hb dX5_init_47 rfl (lv_at hl 0 rfl) ?_
  refine lv_iconst (v := 1) hx hb dX5_init_48 (by decide) ?_
  refine va_put (D := (dC, dI)) (ci := 5) (v := .int 1) (ty := .boolean) (C := RX5) (T := TX5) (N := 16) hx hb hts hi5 tyX5 tyX5_ok nmX5 hown hK hP hD hS 0 rfl rfl 15 (by decide) (hts (.fieldLink RX5 35 "CrateHelpers$Tree" "mindsTwins" "Z") (by decide +kernel)) (fun _ h9 => h9) rfl (by decide +kernel) rfl rfl (Nat.le_of_ble_eq_true rfl) dX5_init_49 (fun H locs hP9 hD9 hS9 => ?_)
  clear hP hD hS
  have hP := hP9; have hD := hD9; have hS := hS9
  clear hP9 hD9 hS9
  replace hP : va_P (dC, dI) vwCl ([(h0, .inr (5, [.null, .null, .null, .null, .null, .null, .null, .null, .ref q1, .int 0, .int 0, .int 0, .ref q4, .ref q7, .null, .int 1]))] ++ (ta9 ++ tb0)) H := hP
  replace hD : va_D A ([(h0, .inr (5, [.null, .null, .null, .null, .null, .null, .null, .null, .ref q1, .int 0, .int 0, .int 0, .ref q4, .ref q7, .null, .int 1]))] ++ (ta9 ++ tb0)) := hD
  refine lv_iconst (v := 1) hx hb dX5_init_52 (by decide) ?_
  refine lv_iconst (v := 0) hx hb dX5_init_53 (by decide) ?_
  refine lv_iload_n hx hb dX5_init_54 rfl (lv_at hl 2 rfl) ?_
  refine va_mmax hx hb (by rw [hml]; exact hl.1.symm) hown (hts (.methodLink RX5 39 Lib.Math.max.name) (by decide +kernel)) (hts (.static Lib.Math.max.name) (by decide +kernel)) (hts (.initialized "java/lang/Math") (by decide +kernel)) (hts (.code Lib.Math.max.name Lib.Math.max.code 2 (some .int)) (List.mem_of_getElem? (i := 18) rfl)) (Nat.le_of_ble_eq_true rfl) (Nat.le_of_ble_eq_true rfl) (Nat.le_of_ble_eq_true rfl) (Nat.le_of_ble_eq_true rfl) dX5_init_55 ?_
  refine lv_topi (fun z10 ez10 => ?_)
  obtain rfl : z10 = 250 := ez10.trans (by decide)
  refine lv_bipush (v := 6) hx hb dX5_init_58 (by decide) ?_
  refine lv_imul hx hb dX5_init_60 ?_
  refine lv_topi (fun z11 ez11 => ?_)
  obtain rfl : z11 = 1500 := ez11.trans (by decide)
  refine lv_iadd hx hb dX5_init_61 ?_
  refine lv_topi (fun z12 ez12 => ?_)
  obtain rfl : z12 = 1501 := ez12.trans (by decide)
  refine lv_istore_n (lv' := [(3, .int 1501), (0, .ref h0), (1, .ref p0), (2, .int 250)]) hx hb dX5_init_62 rfl hl (by decide) rfl (fun ls hl => ?_)
  refine lv_aload_n hx hb dX5_init_63 rfl (lv_at hl 1 rfl) ?_
  refine lv_aload_n hx hb dX5_init_64 rfl (lv_at hl 2 rfl) ?_
  refine va_put (D := (dC, dI)) (ci := 5) (v := .ref p0) (ty := .object "CrateHelpers$Problem") (C := RX5) (T := TX5) (N := 16) hx hb hts hi5 tyX5 tyX5_ok nmX5 hown hK hP hD hS 0 rfl rfl 14 (by decide) (hts (.fieldLink RX5 45 "CrateHelpers$Tree" "problem" "LCrateHelpers$Problem;") (by decide +kernel)) (fun _ h9 => h9) rfl (by decide +kernel) rfl rfl (Nat.le_of_ble_eq_true rfl) dX5_init_65 (fun H locs hP9 hD9 hS9 => ?_)
  clear hP hD hS
  have hP := hP9; have hD := hD9; have hS := hS9
  clear hP9 hD9 hS9
  replace hP : va_P (dC, dI) vwCl ([(h0, .inr (5, [.null, .null, .null, .null, .null, .null, .null, .null, .ref q1, .int 0, .int 0, .int 0, .ref q4, .ref q7, .ref p0, .int 1]))] ++ (ta9 ++ tb0)) H := hP
  replace hD : va_D A ([(h0, .inr (5, [.null, .null, .null, .null, .null, .null, .null, .null, .ref q1, .int 0, .int 0, .int 0, .ref q4, .ref q7, .ref p0, .int 1]))] ++ (ta9 ++ tb0)) := hD
  refine lv_aload_n hx hb dX5_init_68 rfl (lv_at hl 1 rfl) ?_
  refine lv_iload_n hx hb dX5_init_69 rfl (lv_at hl 0 rfl) ?_
  refine va_newa (atype := .long) (ty := .long) (a0 := (1501, .inr (.inl (fun _ => 0)))) (N' := 1501) hx hb (hts (.arrayClass .long) (by decide +kernel)) rfl hK hP hD hS hA (fun _ => rfl) (by decide) (by decide) (by decide) (Nat.le_of_ble_eq_true rfl) (Nat.le_of_ble_eq_true rfl) dX5_init_70 (fun q13 cA14 H hK9 hP9 hD9 hS9 => ?_)
  clear hP hD hS hK
  have hP := hP9; have hD := hD9; have hS := hS9; have hK := hK9
  clear hP9 hD9 hS9 hK9
  obtain rfl : K 4 = cA14 := ty_u hK 4 8 rfl rfl
  replace hK := hK.sub (tys' := [(K 0, .int), (K 1, .byte), (K 2, .short), (K 3, .boolean), (K 4, .long), (K 5, .object RX1), (K 6, .object RX2), (K 7, .array .int)]) [0, 1, 2, 3, 4, 5, 6, 7] rfl
  replace hP := tl_P tl_rot hP
  replace hD := tl_D tl_rot hD
  replace hP : va_P (dC, dI) vwCl ([(h0, .inr (5, [.null, .null, .null, .null, .null, .null, .null, .null, .ref q1, .int 0, .int 0, .int 0, .ref q4, .ref q7, .ref p0, .int 1])), (q13, .inl (K 4, 1501, .inr (.inl (fun _ => 0))))] ++ (ta9 ++ tb0)) H := hP
  replace hD : va_D A ([(h0, .inr (5, [.null, .null, .null, .null, .null, .null, .null, .null, .ref q1, .int 0, .int 0, .int 0, .ref q4, .ref q7, .ref p0, .int 1])), (q13, .inl (K 4, 1501, .inr (.inl (fun _ => 0))))] ++ (ta9 ++ tb0)) := hD
  refine W.widen (k := 4) (n := 1760) (Nat.le_of_ble_eq_true rfl) (Nat.le_of_ble_eq_true rfl) ?_
  obtain ⟨ta15, eta15⟩ : ∃ t : va_W, t = ta9 ++ [(q13, .inl (K 4, 1501, .inr (.inl (fun _ => 0))))] := ⟨_, rfl⟩
  have fta15 : ta15 = [(q1, .inl (K 0, 250, .inl (fun _ => 0))), (q4, .inl (K 0, 6, .inl (fun _ => 0))), (q7, .inr (0, [.int 0, .int (-9), .int (-1000000)])), (q13, .inl (K 4, 1501, .inr (.inl (fun _ => 0))))] := by rw [eta15, fta9]; rfl
  clear fta9
  replace hP : va_P (dC, dI) vwCl ([(h0, .inr (5, [.null, .null, .null, .null, .null, .null, .null, .null, .ref q1, .int 0, .int 0, .int 0, .ref q4, .ref q7, .ref p0, .int 1]))] ++ (ta15 ++ tb0)) H := by rw [eta15]; exact tl_P (tl_park (k := [(h0, .inr (5, [.null, .null, .null, .null, .null, .null, .null, .null, .ref q1, .int 0, .int 0, .int 0, .ref q4, .ref q7, .ref p0, .int 1]))]) (x := [(q13, .inl (K 4, 1501, .inr (.inl (fun _ => 0))))])) hP
  replace hD : va_D A ([(h0, .inr (5, [.null, .null, .null, .null, .null, .null, .null, .null, .ref q1, .int 0, .int 0, .int 0, .ref q4, .ref q7, .ref p0, .int 1]))] ++ (ta15 ++ tb0)) := by rw [eta15]; exact tl_D (tl_park (k := [(h0, .inr (5, [.null, .null, .null, .null, .null, .null, .null, .null, .ref q1, .int 0, .int 0, .int 0, .ref q4, .ref q7, .ref p0, .int 1]))]) (x := [(q13, .inl (K 4, 1501, .inr (.inl (fun _ => 0))))])) hD
  refine va_putF (D := (dC, dI)) (ci := 5) (v := .ref q13) (ty := .array .long) (C := RX5) (T := TX5) (N := 16) hx hb hts hi5 tyX5 tyX5_ok nmX5 hown hK hP hD hS 0 rfl rfl 0 (by decide) (hts (.fieldLink RX5 49 "CrateHelpers$Tree" "place" "[J") (by decide +kernel)) (fun _ h9 => h9) rfl hin rfl (by decide +kernel) rfl rfl (Nat.le_of_ble_eq_true rfl) dX5_init_72 (fun H locs hP9 hD9 hS9 => ?_)
  clear hP hD hS
  have hP := hP9; have hD := hD9; have hS := hS9
  clear hP9 hD9 hS9
  replace hP : va_P (dC, dI) vwCl ([(h0, .inr (5, [.ref q13, .null, .null, .null, .null, .null, .null, .null, .ref q1, .int 0, .int 0, .int 0, .ref q4, .ref q7, .ref p0, .int 1]))] ++ (ta15 ++ tb0)) H := hP
  replace hD : va_D A ([(h0, .inr (5, [.ref q13, .null, .null, .null, .null, .null, .null, .null, .ref q1, .int 0, .int 0, .int 0, .ref q4, .ref q7, .ref p0, .int 1]))] ++ (ta15 ++ tb0)) := hD
  refine lv_aload_n hx hb dX5_init_75 rfl (lv_at hl 1 rfl) ?_
  refine lv_iload_n hx hb dX5_init_76 rfl (lv_at hl 0 rfl) ?_
  refine va_newa (atype := .byte) (ty := .byte) (a0 := (1501, .inl (fun _ => 0))) (N' := 1501) hx hb (hts (.arrayClass .byte) (by decide +kernel)) rfl hK hP hD hS hA (fun _ => rfl) (by decide) (by decide) (by decide) (Nat.le_of_ble_eq_true rfl) (Nat.le_of_ble_eq_true rfl) dX5_init_77 (fun q16 cA17 H hK9 hP9 hD9 hS9 => ?_)
  clear hP hD hS hK
  have hP := hP9; have hD := hD9; have hS := hS9; have hK := hK9
  clear hP9 hD9 hS9 hK9
  obtain rfl : K 1 = cA17 := ty_u hK 1 8 rfl rfl
  replace hK := hK.sub (tys' := [(K 0, .int), (K 1, .byte), (K 2, .short), (K 3, .boolean), (K 4, .long), (K 5, .object RX1), (K 6, .object RX2), (K 7, .array .int)]) [0, 1, 2, 3, 4, 5, 6, 7] rfl
  replace hP := tl_P tl_rot hP
  replace hD := tl_D tl_rot hD
  replace hP : va_P (dC, dI) vwCl ([(h0, .inr (5, [.ref q13, .null, .null, .null, .null, .null, .null, .null, .ref q1, .int 0, .int 0, .int 0, .ref q4, .ref q7, .ref p0, .int 1])), (q16, .inl (K 1, 1501, .inl (fun _ => 0)))] ++ (ta15 ++ tb0)) H := hP
  replace hD : va_D A ([(h0, .inr (5, [.ref q13, .null, .null, .null, .null, .null, .null, .null, .ref q1, .int 0, .int 0, .int 0, .ref q4, .ref q7, .ref p0, .int 1])), (q16, .inl (K 1, 1501, .inl (fun _ => 0)))] ++ (ta15 ++ tb0)) := hD
  refine W.widen (k := 5) (n := 3261) (Nat.le_of_ble_eq_true rfl) (Nat.le_of_ble_eq_true rfl) ?_
  obtain ⟨ta18, eta18⟩ : ∃ t : va_W, t = ta15 ++ [(q16, .inl (K 1, 1501, .inl (fun _ => 0)))] := ⟨_, rfl⟩
  have fta18 : ta18 = [(q1, .inl (K 0, 250, .inl (fun _ => 0))), (q4, .inl (K 0, 6, .inl (fun _ => 0))), (q7, .inr (0, [.int 0, .int (-9), .int (-1000000)])), (q13, .inl (K 4, 1501, .inr (.inl (fun _ => 0)))), (q16, .inl (K 1, 1501, .inl (fun _ => 0)))] := by rw [eta18, fta15]; rfl
  clear fta15
  replace hP : va_P (dC, dI) vwCl ([(h0, .inr (5, [.ref q13, .null, .null, .null, .null, .null, .null, .null, .ref q1, .int 0, .int 0, .int 0, .ref q4, .ref q7, .ref p0, .int 1]))] ++ (ta18 ++ tb0)) H := by rw [eta18]; exact tl_P (tl_park (k := [(h0, .inr (5, [.ref q13, .null, .null, .null, .null, .null, .null, .null, .ref q1, .int 0, .int 0, .int 0, .ref q4, .ref q7, .ref p0, .int 1]))]) (x := [(q16, .inl (K 1, 1501, .inl (fun _ => 0)))])) hP
  replace hD : va_D A ([(h0, .inr (5, [.ref q13, .null, .null, .null, .null, .null, .null, .null, .ref q1, .int 0, .int 0, .int 0, .ref q4, .ref q7, .ref p0, .int 1]))] ++ (ta18 ++ tb0)) := by rw [eta18]; exact tl_D (tl_park (k := [(h0, .inr (5, [.ref q13, .null, .null, .null, .null, .null, .null, .null, .ref q1, .int 0, .int 0, .int 0, .ref q4, .ref q7, .ref p0, .int 1]))]) (x := [(q16, .inl (K 1, 1501, .inl (fun _ => 0)))])) hD
  refine va_putF (D := (dC, dI)) (ci := 5) (v := .ref q16) (ty := .array .byte) (C := RX5) (T := TX5) (N := 16) hx hb hts hi5 tyX5 tyX5_ok nmX5 hown hK hP hD hS 0 rfl rfl 1 (by decide) (hts (.fieldLink RX5 53 "CrateHelpers$Tree" "depth" "[B") (by decide +kernel)) (fun _ h9 => h9) rfl hin rfl (by decide +kernel) rfl rfl (Nat.le_of_ble_eq_true rfl) dX5_init_79 (fun H locs hP9 hD9 hS9 => ?_)
  clear hP hD hS
  have hP := hP9; have hD := hD9; have hS := hS9
  clear hP9 hD9 hS9
  replace hP : va_P (dC, dI) vwCl ([(h0, .inr (5, [.ref q13, .ref q16, .null, .null, .null, .null, .null, .null, .ref q1, .int 0, .int 0, .int 0, .ref q4, .ref q7, .ref p0, .int 1]))] ++ (ta18 ++ tb0)) H := hP
  replace hD : va_D A ([(h0, .inr (5, [.ref q13, .ref q16, .null, .null, .null, .null, .null, .null, .ref q1, .int 0, .int 0, .int 0, .ref q4, .ref q7, .ref p0, .int 1]))] ++ (ta18 ++ tb0)) := hD
  refine lv_aload_n hx hb dX5_init_82 rfl (lv_at hl 1 rfl) ?_
  refine lv_iload_n hx hb dX5_init_83 rfl (lv_at hl 0 rfl) ?_
  refine va_newa (atype := .byte) (ty := .byte) (a0 := (1501, .inl (fun _ => 0))) (N' := 1501) hx hb (hts (.arrayClass .byte) (by decide +kernel)) rfl hK hP hD hS hA (fun _ => rfl) (by decide) (by decide) (by decide) (Nat.le_of_ble_eq_true rfl) (Nat.le_of_ble_eq_true rfl) dX5_init_84 (fun q19 cA20 H hK9 hP9 hD9 hS9 => ?_)
  clear hP hD hS hK
  have hP := hP9; have hD := hD9; have hS := hS9; have hK := hK9
  clear hP9 hD9 hS9 hK9
  obtain rfl : K 1 = cA20 := ty_u hK 1 8 rfl rfl
  replace hK := hK.sub (tys' := [(K 0, .int), (K 1, .byte), (K 2, .short), (K 3, .boolean), (K 4, .long), (K 5, .object RX1), (K 6, .object RX2), (K 7, .array .int)]) [0, 1, 2, 3, 4, 5, 6, 7] rfl
  replace hP := tl_P tl_rot hP
  replace hD := tl_D tl_rot hD
  replace hP : va_P (dC, dI) vwCl ([(h0, .inr (5, [.ref q13, .ref q16, .null, .null, .null, .null, .null, .null, .ref q1, .int 0, .int 0, .int 0, .ref q4, .ref q7, .ref p0, .int 1])), (q19, .inl (K 1, 1501, .inl (fun _ => 0)))] ++ (ta18 ++ tb0)) H := hP
  replace hD : va_D A ([(h0, .inr (5, [.ref q13, .ref q16, .null, .null, .null, .null, .null, .null, .ref q1, .int 0, .int 0, .int 0, .ref q4, .ref q7, .ref p0, .int 1])), (q19, .inl (K 1, 1501, .inl (fun _ => 0)))] ++ (ta18 ++ tb0)) := hD
  refine W.widen (k := 6) (n := 4762) (Nat.le_of_ble_eq_true rfl) (Nat.le_of_ble_eq_true rfl) ?_
  obtain ⟨ta21, eta21⟩ : ∃ t : va_W, t = ta18 ++ [(q19, .inl (K 1, 1501, .inl (fun _ => 0)))] := ⟨_, rfl⟩
  have fta21 : ta21 = [(q1, .inl (K 0, 250, .inl (fun _ => 0))), (q4, .inl (K 0, 6, .inl (fun _ => 0))), (q7, .inr (0, [.int 0, .int (-9), .int (-1000000)])), (q13, .inl (K 4, 1501, .inr (.inl (fun _ => 0)))), (q16, .inl (K 1, 1501, .inl (fun _ => 0))), (q19, .inl (K 1, 1501, .inl (fun _ => 0)))] := by rw [eta21, fta18]; rfl
  clear fta18
  replace hP : va_P (dC, dI) vwCl ([(h0, .inr (5, [.ref q13, .ref q16, .null, .null, .null, .null, .null, .null, .ref q1, .int 0, .int 0, .int 0, .ref q4, .ref q7, .ref p0, .int 1]))] ++ (ta21 ++ tb0)) H := by rw [eta21]; exact tl_P (tl_park (k := [(h0, .inr (5, [.ref q13, .ref q16, .null, .null, .null, .null, .null, .null, .ref q1, .int 0, .int 0, .int 0, .ref q4, .ref q7, .ref p0, .int 1]))]) (x := [(q19, .inl (K 1, 1501, .inl (fun _ => 0)))])) hP
  replace hD : va_D A ([(h0, .inr (5, [.ref q13, .ref q16, .null, .null, .null, .null, .null, .null, .ref q1, .int 0, .int 0, .int 0, .ref q4, .ref q7, .ref p0, .int 1]))] ++ (ta21 ++ tb0)) := by rw [eta21]; exact tl_D (tl_park (k := [(h0, .inr (5, [.ref q13, .ref q16, .null, .null, .null, .null, .null, .null, .ref q1, .int 0, .int 0, .int 0, .ref q4, .ref q7, .ref p0, .int 1]))]) (x := [(q19, .inl (K 1, 1501, .inl (fun _ => 0)))])) hD
  refine va_putF (D := (dC, dI)) (ci := 5) (v := .ref q19) (ty := .array .byte) (C := RX5) (T := TX5) (N := 16) hx hb hts hi5 tyX5 tyX5_ok nmX5 hown hK hP hD hS 0 rfl rfl 2 (by decide) (hts (.fieldLink RX5 57 "CrateHelpers$Tree" "what" "[B") (by decide +kernel)) (fun _ h9 => h9) rfl hin rfl (by decide +kernel) rfl rfl (Nat.le_of_ble_eq_true rfl) dX5_init_86 (fun H locs hP9 hD9 hS9 => ?_)
  clear hP hD hS
  have hP := hP9; have hD := hD9; have hS := hS9
  clear hP9 hD9 hS9
  replace hP : va_P (dC, dI) vwCl ([(h0, .inr (5, [.ref q13, .ref q16, .ref q19, .null, .null, .null, .null, .null, .ref q1, .int 0, .int 0, .int 0, .ref q4, .ref q7, .ref p0, .int 1]))] ++ (ta21 ++ tb0)) H := hP
  replace hD : va_D A ([(h0, .inr (5, [.ref q13, .ref q16, .ref q19, .null, .null, .null, .null, .null, .ref q1, .int 0, .int 0, .int 0, .ref q4, .ref q7, .ref p0, .int 1]))] ++ (ta21 ++ tb0)) := hD
  refine lv_aload_n hx hb dX5_init_89 rfl (lv_at hl 1 rfl) ?_
  refine lv_iload_n hx hb dX5_init_90 rfl (lv_at hl 0 rfl) ?_
  refine va_newa (atype := .byte) (ty := .byte) (a0 := (1501, .inl (fun _ => 0))) (N' := 1501) hx hb (hts (.arrayClass .byte) (by decide +kernel)) rfl hK hP hD hS hA (fun _ => rfl) (by decide) (by decide) (by decide) (Nat.le_of_ble_eq_true rfl) (Nat.le_of_ble_eq_true rfl) dX5_init_91 (fun q22 cA23 H hK9 hP9 hD9 hS9 => ?_)
  clear hP hD hS hK
  have hP := hP9; have hD := hD9; have hS := hS9; have hK := hK9
  clear hP9 hD9 hS9 hK9
  obtain rfl : K 1 = cA23 := ty_u hK 1 8 rfl rfl
  replace hK := hK.sub (tys' := [(K 0, .int), (K 1, .byte), (K 2, .short), (K 3, .boolean), (K 4, .long), (K 5, .object RX1), (K 6, .object RX2), (K 7, .array .int)]) [0, 1, 2, 3, 4, 5, 6, 7] rfl
  replace hP := tl_P tl_rot hP
  replace hD := tl_D tl_rot hD
  replace hP : va_P (dC, dI) vwCl ([(h0, .inr (5, [.ref q13, .ref q16, .ref q19, .null, .null, .null, .null, .null, .ref q1, .int 0, .int 0, .int 0, .ref q4, .ref q7, .ref p0, .int 1])), (q22, .inl (K 1, 1501, .inl (fun _ => 0)))] ++ (ta21 ++ tb0)) H := hP
  replace hD : va_D A ([(h0, .inr (5, [.ref q13, .ref q16, .ref q19, .null, .null, .null, .null, .null, .ref q1, .int 0, .int 0, .int 0, .ref q4, .ref q7, .ref p0, .int 1])), (q22, .inl (K 1, 1501, .inl (fun _ => 0)))] ++ (ta21 ++ tb0)) := hD
  refine W.widen (k := 7) (n := 6263) (Nat.le_of_ble_eq_true rfl) (Nat.le_of_ble_eq_true rfl) ?_
  obtain ⟨ta24, eta24⟩ : ∃ t : va_W, t = ta21 ++ [(q22, .inl (K 1, 1501, .inl (fun _ => 0)))] := ⟨_, rfl⟩
  have fta24 : ta24 = [(q1, .inl (K 0, 250, .inl (fun _ => 0))), (q4, .inl (K 0, 6, .inl (fun _ => 0))), (q7, .inr (0, [.int 0, .int (-9), .int (-1000000)])), (q13, .inl (K 4, 1501, .inr (.inl (fun _ => 0)))), (q16, .inl (K 1, 1501, .inl (fun _ => 0))), (q19, .inl (K 1, 1501, .inl (fun _ => 0))), (q22, .inl (K 1, 1501, .inl (fun _ => 0)))] := by rw [eta24, fta21]; rfl
  clear fta21
  replace hP : va_P (dC, dI) vwCl ([(h0, .inr (5, [.ref q13, .ref q16, .ref q19, .null, .null, .null, .null, .null, .ref q1, .int 0, .int 0, .int 0, .ref q4, .ref q7, .ref p0, .int 1]))] ++ (ta24 ++ tb0)) H := by rw [eta24]; exact tl_P (tl_park (k := [(h0, .inr (5, [.ref q13, .ref q16, .ref q19, .null, .null, .null, .null, .null, .ref q1, .int 0, .int 0, .int 0, .ref q4, .ref q7, .ref p0, .int 1]))]) (x := [(q22, .inl (K 1, 1501, .inl (fun _ => 0)))])) hP
  replace hD : va_D A ([(h0, .inr (5, [.ref q13, .ref q16, .ref q19, .null, .null, .null, .null, .null, .ref q1, .int 0, .int 0, .int 0, .ref q4, .ref q7, .ref p0, .int 1]))] ++ (ta24 ++ tb0)) := by rw [eta24]; exact tl_D (tl_park (k := [(h0, .inr (5, [.ref q13, .ref q16, .ref q19, .null, .null, .null, .null, .null, .ref q1, .int 0, .int 0, .int 0, .ref q4, .ref q7, .ref p0, .int 1]))]) (x := [(q22, .inl (K 1, 1501, .inl (fun _ => 0)))])) hD
  refine va_putF (D := (dC, dI)) (ci := 5) (v := .ref q22) (ty := .array .byte) (C := RX5) (T := TX5) (N := 16) hx hb hts hi5 tyX5 tyX5_ok nmX5 hown hK hP hD hS 0 rfl rfl 3 (by decide) (hts (.fieldLink RX5 60 "CrateHelpers$Tree" "why" "[B") (by decide +kernel)) (fun _ h9 => h9) rfl hin rfl (by decide +kernel) rfl rfl (Nat.le_of_ble_eq_true rfl) dX5_init_93 (fun H locs hP9 hD9 hS9 => ?_)
  clear hP hD hS
  have hP := hP9; have hD := hD9; have hS := hS9
  clear hP9 hD9 hS9
  replace hP : va_P (dC, dI) vwCl ([(h0, .inr (5, [.ref q13, .ref q16, .ref q19, .ref q22, .null, .null, .null, .null, .ref q1, .int 0, .int 0, .int 0, .ref q4, .ref q7, .ref p0, .int 1]))] ++ (ta24 ++ tb0)) H := hP
  replace hD : va_D A ([(h0, .inr (5, [.ref q13, .ref q16, .ref q19, .ref q22, .null, .null, .null, .null, .ref q1, .int 0, .int 0, .int 0, .ref q4, .ref q7, .ref p0, .int 1]))] ++ (ta24 ++ tb0)) := hD
  refine lv_aload_n hx hb dX5_init_96 rfl (lv_at hl 1 rfl) ?_
  refine lv_iload_n hx hb dX5_init_97 rfl (lv_at hl 0 rfl) ?_
  refine va_newa (atype := .byte) (ty := .byte) (a0 := (1501, .inl (fun _ => 0))) (N' := 1501) hx hb (hts (.arrayClass .byte) (by decide +kernel)) rfl hK hP hD hS hA (fun _ => rfl) (by decide) (by decide) (by decide) (Nat.le_of_ble_eq_true rfl) (Nat.le_of_ble_eq_true rfl) dX5_init_98 (fun q25 cA26 H hK9 hP9 hD9 hS9 => ?_)
  clear hP hD hS hK
  have hP := hP9; have hD := hD9; have hS := hS9; have hK := hK9
  clear hP9 hD9 hS9 hK9
  obtain rfl : K 1 = cA26 := ty_u hK 1 8 rfl rfl
  replace hK := hK.sub (tys' := [(K 0, .int), (K 1, .byte), (K 2, .short), (K 3, .boolean), (K 4, .long), (K 5, .object RX1), (K 6, .object RX2), (K 7, .array .int)]) [0, 1, 2, 3, 4, 5, 6, 7] rfl
  replace hP := tl_P tl_rot hP
  replace hD := tl_D tl_rot hD
  replace hP : va_P (dC, dI) vwCl ([(h0, .inr (5, [.ref q13, .ref q16, .ref q19, .ref q22, .null, .null, .null, .null, .ref q1, .int 0, .int 0, .int 0, .ref q4, .ref q7, .ref p0, .int 1])), (q25, .inl (K 1, 1501, .inl (fun _ => 0)))] ++ (ta24 ++ tb0)) H := hP
  replace hD : va_D A ([(h0, .inr (5, [.ref q13, .ref q16, .ref q19, .ref q22, .null, .null, .null, .null, .ref q1, .int 0, .int 0, .int 0, .ref q4, .ref q7, .ref p0, .int 1])), (q25, .inl (K 1, 1501, .inl (fun _ => 0)))] ++ (ta24 ++ tb0)) := hD
  refine W.widen (k := 8) (n := 7764) (Nat.le_of_ble_eq_true rfl) (Nat.le_of_ble_eq_true rfl) ?_
  obtain ⟨ta27, eta27⟩ : ∃ t : va_W, t = ta24 ++ [(q25, .inl (K 1, 1501, .inl (fun _ => 0)))] := ⟨_, rfl⟩
  have fta27 : ta27 = [(q1, .inl (K 0, 250, .inl (fun _ => 0))), (q4, .inl (K 0, 6, .inl (fun _ => 0))), (q7, .inr (0, [.int 0, .int (-9), .int (-1000000)])), (q13, .inl (K 4, 1501, .inr (.inl (fun _ => 0)))), (q16, .inl (K 1, 1501, .inl (fun _ => 0))), (q19, .inl (K 1, 1501, .inl (fun _ => 0))), (q22, .inl (K 1, 1501, .inl (fun _ => 0))), (q25, .inl (K 1, 1501, .inl (fun _ => 0)))] := by rw [eta27, fta24]; rfl
  clear fta24
  replace hP : va_P (dC, dI) vwCl ([(h0, .inr (5, [.ref q13, .ref q16, .ref q19, .ref q22, .null, .null, .null, .null, .ref q1, .int 0, .int 0, .int 0, .ref q4, .ref q7, .ref p0, .int 1]))] ++ (ta27 ++ tb0)) H := by rw [eta27]; exact tl_P (tl_park (k := [(h0, .inr (5, [.ref q13, .ref q16, .ref q19, .ref q22, .null, .null, .null, .null, .ref q1, .int 0, .int 0, .int 0, .ref q4, .ref q7, .ref p0, .int 1]))]) (x := [(q25, .inl (K 1, 1501, .inl (fun _ => 0)))])) hP
  replace hD : va_D A ([(h0, .inr (5, [.ref q13, .ref q16, .ref q19, .ref q22, .null, .null, .null, .null, .ref q1, .int 0, .int 0, .int 0, .ref q4, .ref q7, .ref p0, .int 1]))] ++ (ta27 ++ tb0)) := by rw [eta27]; exact tl_D (tl_park (k := [(h0, .inr (5, [.ref q13, .ref q16, .ref q19, .ref q22, .null, .null, .null, .null, .ref q1, .int 0, .int 0, .int 0, .ref q4, .ref q7, .ref p0, .int 1]))]) (x := [(q25, .inl (K 1, 1501, .inl (fun _ => 0)))])) hD
  refine va_putF (D := (dC, dI)) (ci := 5) (v := .ref q25) (ty := .array .byte) (C := RX5) (T := TX5) (N := 16) hx hb hts hi5 tyX5 tyX5_ok nmX5 hown hK hP hD hS 0 rfl rfl 4 (by decide) (hts (.fieldLink RX5 63 "CrateHelpers$Tree" "stage" "[B") (by decide +kernel)) (fun _ h9 => h9) rfl hin rfl (by decide +kernel) rfl rfl (Nat.le_of_ble_eq_true rfl) dX5_init_100 (fun H locs hP9 hD9 hS9 => ?_)
  clear hP hD hS
  have hP := hP9; have hD := hD9; have hS := hS9
  clear hP9 hD9 hS9
  replace hP : va_P (dC, dI) vwCl ([(h0, .inr (5, [.ref q13, .ref q16, .ref q19, .ref q22, .ref q25, .null, .null, .null, .ref q1, .int 0, .int 0, .int 0, .ref q4, .ref q7, .ref p0, .int 1]))] ++ (ta27 ++ tb0)) H := hP
  replace hD : va_D A ([(h0, .inr (5, [.ref q13, .ref q16, .ref q19, .ref q22, .ref q25, .null, .null, .null, .ref q1, .int 0, .int 0, .int 0, .ref q4, .ref q7, .ref p0, .int 1]))] ++ (ta27 ++ tb0)) := hD
  refine lv_aload_n hx hb dX5_init_103 rfl (lv_at hl 1 rfl) ?_
  refine lv_iload_n hx hb dX5_init_104 rfl (lv_at hl 0 rfl) ?_
  refine va_newa (atype := .byte) (ty := .byte) (a0 := (1501, .inl (fun _ => 0))) (N' := 1501) hx hb (hts (.arrayClass .byte) (by decide +kernel)) rfl hK hP hD hS hA (fun _ => rfl) (by decide) (by decide) (by decide) (Nat.le_of_ble_eq_true rfl) (Nat.le_of_ble_eq_true rfl) dX5_init_105 (fun q28 cA29 H hK9 hP9 hD9 hS9 => ?_)
  clear hP hD hS hK
  have hP := hP9; have hD := hD9; have hS := hS9; have hK := hK9
  clear hP9 hD9 hS9 hK9
  obtain rfl : K 1 = cA29 := ty_u hK 1 8 rfl rfl
  replace hK := hK.sub (tys' := [(K 0, .int), (K 1, .byte), (K 2, .short), (K 3, .boolean), (K 4, .long), (K 5, .object RX1), (K 6, .object RX2), (K 7, .array .int)]) [0, 1, 2, 3, 4, 5, 6, 7] rfl
  replace hP := tl_P tl_rot hP
  replace hD := tl_D tl_rot hD
  replace hP : va_P (dC, dI) vwCl ([(h0, .inr (5, [.ref q13, .ref q16, .ref q19, .ref q22, .ref q25, .null, .null, .null, .ref q1, .int 0, .int 0, .int 0, .ref q4, .ref q7, .ref p0, .int 1])), (q28, .inl (K 1, 1501, .inl (fun _ => 0)))] ++ (ta27 ++ tb0)) H := hP
  replace hD : va_D A ([(h0, .inr (5, [.ref q13, .ref q16, .ref q19, .ref q22, .ref q25, .null, .null, .null, .ref q1, .int 0, .int 0, .int 0, .ref q4, .ref q7, .ref p0, .int 1])), (q28, .inl (K 1, 1501, .inl (fun _ => 0)))] ++ (ta27 ++ tb0)) := hD
  refine W.widen (k := 9) (n := 9265) (Nat.le_of_ble_eq_true rfl) (Nat.le_of_ble_eq_true rfl) ?_
  obtain ⟨ta30, eta30⟩ : ∃ t : va_W, t = ta27 ++ [(q28, .inl (K 1, 1501, .inl (fun _ => 0)))] := ⟨_, rfl⟩
  have fta30 : ta30 = [(q1, .inl (K 0, 250, .inl (fun _ => 0))), (q4, .inl (K 0, 6, .inl (fun _ => 0))), (q7, .inr (0, [.int 0, .int (-9), .int (-1000000)])), (q13, .inl (K 4, 1501, .inr (.inl (fun _ => 0)))), (q16, .inl (K 1, 1501, .inl (fun _ => 0))), (q19, .inl (K 1, 1501, .inl (fun _ => 0))), (q22, .inl (K 1, 1501, .inl (fun _ => 0))), (q25, .inl (K 1, 1501, .inl (fun _ => 0))), (q28, .inl (K 1, 1501, .inl (fun _ => 0)))] := by rw [eta30, fta27]; rfl
  clear fta27
  replace hP : va_P (dC, dI) vwCl ([(h0, .inr (5, [.ref q13, .ref q16, .ref q19, .ref q22, .ref q25, .null, .null, .null, .ref q1, .int 0, .int 0, .int 0, .ref q4, .ref q7, .ref p0, .int 1]))] ++ (ta30 ++ tb0)) H := by rw [eta30]; exact tl_P (tl_park (k := [(h0, .inr (5, [.ref q13, .ref q16, .ref q19, .ref q22, .ref q25, .null, .null, .null, .ref q1, .int 0, .int 0, .int 0, .ref q4, .ref q7, .ref p0, .int 1]))]) (x := [(q28, .inl (K 1, 1501, .inl (fun _ => 0)))])) hP
  replace hD : va_D A ([(h0, .inr (5, [.ref q13, .ref q16, .ref q19, .ref q22, .ref q25, .null, .null, .null, .ref q1, .int 0, .int 0, .int 0, .ref q4, .ref q7, .ref p0, .int 1]))] ++ (ta30 ++ tb0)) := by rw [eta30]; exact tl_D (tl_park (k := [(h0, .inr (5, [.ref q13, .ref q16, .ref q19, .ref q22, .ref q25, .null, .null, .null, .ref q1, .int 0, .int 0, .int 0, .ref q4, .ref q7, .ref p0, .int 1]))]) (x := [(q28, .inl (K 1, 1501, .inl (fun _ => 0)))])) hD
  refine va_putF (D := (dC, dI)) (ci := 5) (v := .ref q28) (ty := .array .byte) (C := RX5) (T := TX5) (N := 16) hx hb hts hi5 tyX5 tyX5_ok nmX5 hown hK hP hD hS 0 rfl rfl 5 (by decide) (hts (.fieldLink RX5 66 "CrateHelpers$Tree" "doneBy" "[B") (by decide +kernel)) (fun _ h9 => h9) rfl hin rfl (by decide +kernel) rfl rfl (Nat.le_of_ble_eq_true rfl) dX5_init_107 (fun H locs hP9 hD9 hS9 => ?_)
  clear hP hD hS
  have hP := hP9; have hD := hD9; have hS := hS9
  clear hP9 hD9 hS9
  replace hP : va_P (dC, dI) vwCl ([(h0, .inr (5, [.ref q13, .ref q16, .ref q19, .ref q22, .ref q25, .ref q28, .null, .null, .ref q1, .int 0, .int 0, .int 0, .ref q4, .ref q7, .ref p0, .int 1]))] ++ (ta30 ++ tb0)) H := hP
  replace hD : va_D A ([(h0, .inr (5, [.ref q13, .ref q16, .ref q19, .ref q22, .ref q25, .ref q28, .null, .null, .ref q1, .int 0, .int 0, .int 0, .ref q4, .ref q7, .ref p0, .int 1]))] ++ (ta30 ++ tb0)) := hD
  refine lv_aload_n hx hb dX5_init_110 rfl (lv_at hl 1 rfl) ?_
  refine lv_iload_n hx hb dX5_init_111 rfl (lv_at hl 0 rfl) ?_
  refine va_newa (atype := .short) (ty := .short) (a0 := (1501, .inl (fun _ => 0))) (N' := 1501) hx hb (hts (.arrayClass .short) (by decide +kernel)) rfl hK hP hD hS hA (fun _ => rfl) (by decide) (by decide) (by decide) (Nat.le_of_ble_eq_true rfl) (Nat.le_of_ble_eq_true rfl) dX5_init_112 (fun q31 cA32 H hK9 hP9 hD9 hS9 => ?_)
  clear hP hD hS hK
  have hP := hP9; have hD := hD9; have hS := hS9; have hK := hK9
  clear hP9 hD9 hS9 hK9
  obtain rfl : K 2 = cA32 := ty_u hK 2 8 rfl rfl
  replace hK := hK.sub (tys' := [(K 0, .int), (K 1, .byte), (K 2, .short), (K 3, .boolean), (K 4, .long), (K 5, .object RX1), (K 6, .object RX2), (K 7, .array .int)]) [0, 1, 2, 3, 4, 5, 6, 7] rfl
  replace hP := tl_P tl_rot hP
  replace hD := tl_D tl_rot hD
  replace hP : va_P (dC, dI) vwCl ([(h0, .inr (5, [.ref q13, .ref q16, .ref q19, .ref q22, .ref q25, .ref q28, .null, .null, .ref q1, .int 0, .int 0, .int 0, .ref q4, .ref q7, .ref p0, .int 1])), (q31, .inl (K 2, 1501, .inl (fun _ => 0)))] ++ (ta30 ++ tb0)) H := hP
  replace hD : va_D A ([(h0, .inr (5, [.ref q13, .ref q16, .ref q19, .ref q22, .ref q25, .ref q28, .null, .null, .ref q1, .int 0, .int 0, .int 0, .ref q4, .ref q7, .ref p0, .int 1])), (q31, .inl (K 2, 1501, .inl (fun _ => 0)))] ++ (ta30 ++ tb0)) := hD
  refine W.widen (k := 10) (n := 10766) (Nat.le_of_ble_eq_true rfl) (Nat.le_of_ble_eq_true rfl) ?_
  obtain ⟨ta33, eta33⟩ : ∃ t : va_W, t = ta30 ++ [(q31, .inl (K 2, 1501, .inl (fun _ => 0)))] := ⟨_, rfl⟩
  have fta33 : ta33 = [(q1, .inl (K 0, 250, .inl (fun _ => 0))), (q4, .inl (K 0, 6, .inl (fun _ => 0))), (q7, .inr (0, [.int 0, .int (-9), .int (-1000000)])), (q13, .inl (K 4, 1501, .inr (.inl (fun _ => 0)))), (q16, .inl (K 1, 1501, .inl (fun _ => 0))), (q19, .inl (K 1, 1501, .inl (fun _ => 0))), (q22, .inl (K 1, 1501, .inl (fun _ => 0))), (q25, .inl (K 1, 1501, .inl (fun _ => 0))), (q28, .inl (K 1, 1501, .inl (fun _ => 0))), (q31, .inl (K 2, 1501, .inl (fun _ => 0)))] := by rw [eta33, fta30]; rfl
  clear fta30
  replace hP : va_P (dC, dI) vwCl ([(h0, .inr (5, [.ref q13, .ref q16, .ref q19, .ref q22, .ref q25, .ref q28, .null, .null, .ref q1, .int 0, .int 0, .int 0, .ref q4, .ref q7, .ref p0, .int 1]))] ++ (ta33 ++ tb0)) H := by rw [eta33]; exact tl_P (tl_park (k := [(h0, .inr (5, [.ref q13, .ref q16, .ref q19, .ref q22, .ref q25, .ref q28, .null, .null, .ref q1, .int 0, .int 0, .int 0, .ref q4, .ref q7, .ref p0, .int 1]))]) (x := [(q31, .inl (K 2, 1501, .inl (fun _ => 0)))])) hP
  replace hD : va_D A ([(h0, .inr (5, [.ref q13, .ref q16, .ref q19, .ref q22, .ref q25, .ref q28, .null, .null, .ref q1, .int 0, .int 0, .int 0, .ref q4, .ref q7, .ref p0, .int 1]))] ++ (ta33 ++ tb0)) := by rw [eta33]; exact tl_D (tl_park (k := [(h0, .inr (5, [.ref q13, .ref q16, .ref q19, .ref q22, .ref q25, .ref q28, .null, .null, .ref q1, .int 0, .int 0, .int 0, .ref q4, .ref q7, .ref p0, .int 1]))]) (x := [(q31, .inl (K 2, 1501, .inl (fun _ => 0)))])) hD
  refine va_putF (D := (dC, dI)) (ci := 5) (v := .ref q31) (ty := .array .short) (C := RX5) (T := TX5) (N := 16) hx hb hts hi5 tyX5 tyX5_ok nmX5 hown hK hP hD hS 0 rfl rfl 6 (by decide) (hts (.fieldLink RX5 69 "CrateHelpers$Tree" "firstBelow" "[S") (by decide +kernel)) (fun _ h9 => h9) rfl hin rfl (by decide +kernel) rfl rfl (Nat.le_of_ble_eq_true rfl) dX5_init_114 (fun H locs hP9 hD9 hS9 => ?_)
  clear hP hD hS
  have hP := hP9; have hD := hD9; have hS := hS9
  clear hP9 hD9 hS9
  replace hP : va_P (dC, dI) vwCl ([(h0, .inr (5, [.ref q13, .ref q16, .ref q19, .ref q22, .ref q25, .ref q28, .ref q31, .null, .ref q1, .int 0, .int 0, .int 0, .ref q4, .ref q7, .ref p0, .int 1]))] ++ (ta33 ++ tb0)) H := hP
  replace hD : va_D A ([(h0, .inr (5, [.ref q13, .ref q16, .ref q19, .ref q22, .ref q25, .ref q28, .ref q31, .null, .ref q1, .int 0, .int 0, .int 0, .ref q4, .ref q7, .ref p0, .int 1]))] ++ (ta33 ++ tb0)) := hD
  refine lv_aload_n hx hb dX5_init_117 rfl (lv_at hl 1 rfl) ?_
  refine lv_iload_n hx hb dX5_init_118 rfl (lv_at hl 0 rfl) ?_
  refine va_newa (atype := .boolean) (ty := .boolean) (a0 := (1501, .inl (fun _ => 0))) (N' := 1501) hx hb (hts (.arrayClass .boolean) (by decide +kernel)) rfl hK hP hD hS hA (fun _ => rfl) (by decide) (by decide) (by decide) (Nat.le_of_ble_eq_true rfl) (Nat.le_of_ble_eq_true rfl) dX5_init_119 (fun q34 cA35 H hK9 hP9 hD9 hS9 => ?_)
  clear hP hD hS hK
  have hP := hP9; have hD := hD9; have hS := hS9; have hK := hK9
  clear hP9 hD9 hS9 hK9
  obtain rfl : K 3 = cA35 := ty_u hK 3 8 rfl rfl
  replace hK := hK.sub (tys' := [(K 0, .int), (K 1, .byte), (K 2, .short), (K 3, .boolean), (K 4, .long), (K 5, .object RX1), (K 6, .object RX2), (K 7, .array .int)]) [0, 1, 2, 3, 4, 5, 6, 7] rfl
  replace hP := tl_P tl_rot hP
  replace hD := tl_D tl_rot hD
  replace hP : va_P (dC, dI) vwCl ([(h0, .inr (5, [.ref q13, .ref q16, .ref q19, .ref q22, .ref q25, .ref q28, .ref q31, .null, .ref q1, .int 0, .int 0, .int 0, .ref q4, .ref q7, .ref p0, .int 1])), (q34, .inl (K 3, 1501, .inl (fun _ => 0)))] ++ (ta33 ++ tb0)) H := hP
  replace hD : va_D A ([(h0, .inr (5, [.ref q13, .ref q16, .ref q19, .ref q22, .ref q25, .ref q28, .ref q31, .null, .ref q1, .int 0, .int 0, .int 0, .ref q4, .ref q7, .ref p0, .int 1])), (q34, .inl (K 3, 1501, .inl (fun _ => 0)))] ++ (ta33 ++ tb0)) := hD
  refine W.widen (k := 11) (n := 12267) (Nat.le_of_ble_eq_true rfl) (Nat.le_of_ble_eq_true rfl) ?_
  obtain ⟨ta36, eta36⟩ : ∃ t : va_W, t = ta33 ++ [(q34, .inl (K 3, 1501, .inl (fun _ => 0)))] := ⟨_, rfl⟩
  have fta36 : ta36 = [(q1, .inl (K 0, 250, .inl (fun _ => 0))), (q4, .inl (K 0, 6, .inl (fun _ => 0))), (q7, .inr (0, [.int 0, .int (-9), .int (-1000000)])), (q13, .inl (K 4, 1501, .inr (.inl (fun _ => 0)))), (q16, .inl (K 1, 1501, .inl (fun _ => 0))), (q19, .inl (K 1, 1501, .inl (fun _ => 0))), (q22, .inl (K 1, 1501, .inl (fun _ => 0))), (q25, .inl (K 1, 1501, .inl (fun _ => 0))), (q28, .inl (K 1, 1501, .inl (fun _ => 0))), (q31, .inl (K 2, 1501, .inl (fun _ => 0))), (q34, .inl (K 3, 1501, .inl (fun _ => 0)))] := by rw [eta36, fta33]; rfl
  clear fta33
  replace hP : va_P (dC, dI) vwCl ([(h0, .inr (5, [.ref q13, .ref q16, .ref q19, .ref q22, .ref q25, .ref q28, .ref q31, .null, .ref q1, .int 0, .int 0, .int 0, .ref q4, .ref q7, .ref p0, .int 1]))] ++ (ta36 ++ tb0)) H := by rw [eta36]; exact tl_P (tl_park (k := [(h0, .inr (5, [.ref q13, .ref q16, .ref q19, .ref q22, .ref q25, .ref q28, .ref q31, .null, .ref q1, .int 0, .int 0, .int 0, .ref q4, .ref q7, .ref p0, .int 1]))]) (x := [(q34, .inl (K 3, 1501, .inl (fun _ => 0)))])) hP
  replace hD : va_D A ([(h0, .inr (5, [.ref q13, .ref q16, .ref q19, .ref q22, .ref q25, .ref q28, .ref q31, .null, .ref q1, .int 0, .int 0, .int 0, .ref q4, .ref q7, .ref p0, .int 1]))] ++ (ta36 ++ tb0)) := by rw [eta36]; exact tl_D (tl_park (k := [(h0, .inr (5, [.ref q13, .ref q16, .ref q19, .ref q22, .ref q25, .ref q28, .ref q31, .null, .ref q1, .int 0, .int 0, .int 0, .ref q4, .ref q7, .ref p0, .int 1]))]) (x := [(q34, .inl (K 3, 1501, .inl (fun _ => 0)))])) hD
  refine va_putF (D := (dC, dI)) (ci := 5) (v := .ref q34) (ty := .array .boolean) (C := RX5) (T := TX5) (N := 16) hx hb hts hi5 tyX5 tyX5_ok nmX5 hown hK hP hD hS 0 rfl rfl 7 (by decide) (hts (.fieldLink RX5 73 "CrateHelpers$Tree" "isReached" "[Z") (by decide +kernel)) (fun _ h9 => h9) rfl hin rfl (by decide +kernel) rfl rfl (Nat.le_of_ble_eq_true rfl) dX5_init_121 (fun H locs hP9 hD9 hS9 => ?_)
  clear hP hD hS
  have hP := hP9; have hD := hD9; have hS := hS9
  clear hP9 hD9 hS9
  replace hP : va_P (dC, dI) vwCl ([(h0, .inr (5, [.ref q13, .ref q16, .ref q19, .ref q22, .ref q25, .ref q28, .ref q31, .ref q34, .ref q1, .int 0, .int 0, .int 0, .ref q4, .ref q7, .ref p0, .int 1]))] ++ (ta36 ++ tb0)) H := hP
  replace hD : va_D A ([(h0, .inr (5, [.ref q13, .ref q16, .ref q19, .ref q22, .ref q25, .ref q28, .ref q31, .ref q34, .ref q1, .int 0, .int 0, .int 0, .ref q4, .ref q7, .ref p0, .int 1]))] ++ (ta36 ++ tb0)) := hD
  rw [fta36] at hP hD
  rw [etb0] at hP hD
  have hP9 := hP.sub (ws' := [(h0, .inr (5, [.ref q13, .ref q16, .ref q19, .ref q22, .ref q25, .ref q28, .ref q31, .ref q34, .ref q1, .int 0, .int 0, .int 0, .ref q4, .ref q7, .ref p0, .int 1])), (q13, .inl (K 4, 1501, .inr (.inl (fun _ => 0)))), (q16, .inl (K 1, 1501, .inl (fun _ => 0))), (q19, .inl (K 1, 1501, .inl (fun _ => 0))), (q22, .inl (K 1, 1501, .inl (fun _ => 0))), (q25, .inl (K 1, 1501, .inl (fun _ => 0))), (q28, .inl (K 1, 1501, .inl (fun _ => 0))), (q31, .inl (K 2, 1501, .inl (fun _ => 0))), (q34, .inl (K 3, 1501, .inl (fun _ => 0))), (q1, .inl (K 0, 250, .inl (fun _ => 0))), (q4, .inl (K 0, 6, .inl (fun _ => 0))), (q7, .inr (0, [.int 0, .int (-9), .int (-1000000)]))]) [0, 4, 5, 6, 7, 8, 9, 10, 11, 1, 2, 3] rfl
  have hD9 := hD.sub (ws' := [(h0, .inr (5, [.ref q13, .ref q16, .ref q19, .ref q22, .ref q25, .ref q28, .ref q31, .ref q34, .ref q1, .int 0, .int 0, .int 0, .ref q4, .ref q7, .ref p0, .int 1])), (q13, .inl (K 4, 1501, .inr (.inl (fun _ => 0)))), (q16, .inl (K 1, 1501, .inl (fun _ => 0))), (q19, .inl (K 1, 1501, .inl (fun _ => 0))), (q22, .inl (K 1, 1501, .inl (fun _ => 0))), (q25, .inl (K 1, 1501, .inl (fun _ => 0))), (q28, .inl (K 1, 1501, .inl (fun _ => 0))), (q31, .inl (K 2, 1501, .inl (fun _ => 0))), (q34, .inl (K 3, 1501, .inl (fun _ => 0))), (q1, .inl (K 0, 250, .inl (fun _ => 0))), (q4, .inl (K 0, 6, .inl (fun _ => 0))), (q7, .inr (0, [.int 0, .int (-9), .int (-1000000)]))]) [0, 4, 5, 6, 7, 8, 9, 10, 11, 1, 2, 3] (by decide) rfl
  exact W.vret hx hb hr (fun t ht hW => ⟨⟨(), rfl, trivial, q13, q16, q19, q22, q25, q28, q31, q34, q1, q4, q7, by rw [ht]; exact hP9, va_K.moved hW.alike hK, hD9⟩, hS.F ht⟩) hS.2.2 dX5_init_124
set_option maxHeartbeats 4000000 in
set_option maxRecDepth 100000 in
/-- Solving(any, team) -/
theorem z_X3_init (l : Launch) (dC : Nat → ClassId) (dI : Nat → Nat → Nat) (sz : Nat) (K : Nat → ClassId) (h0 : Nat) (p0 : Nat) (t0 : Nat) : Met l yX3_init wsX3_init ({ frames := 3, cells := 14, slots := 13973, locals := 110 }) (va_Pc [.ref h0, .ref p0, .ref t0] (fun U => U.heap.size = sz ∧ va_P (dC, dI) vwCl [(h0, .inr (3, [.null, .null, .int 0, .int 0, .null, .null]))] U.heap ∧ va_K (dC, dI) vwCl [(K 0, .int), (K 1, .byte), (K 2, .short), (K 3, .boolean), (K 4, .long), (K 5, .object RX1), (K 6, .object RX2), (K 7, .array .int)] U ∧ va_D (fun _ => True) [(h0, .inr (3, [.null, .null, .int 0, .int 0, .null, .null]))] ∧ nwX U)) (va_Qv (fun (_ : Unit) => True) (fun (_ : Unit) (t : State) => ∃ (s1 : Nat) (s2 : Nat) (s3 : Nat) (a1 : Nat) (a2 : Nat) (a3 : Nat) (a4 : Nat) (a5 : Nat) (a6 : Nat) (a7 : Nat) (a8 : Nat) (a9 : Nat) (a10 : Nat) (a11 : Nat), va_P (dC, dI) vwCl [(h0, .inr (3, [.ref s1, .ref t0, .int 0, .int 0, .ref s2, .ref s3])), (s2, .inl (K 0, 5, .inl (fun _ => 0))), (s3, .inl (K 0, 5, .inl (fun _ => 0))), (s1, .inr (5, [.ref a1, .ref a2, .ref a3, .ref a4, .ref a5, .ref a6, .ref a7, .ref a8, .ref a9, .int 0, .int 0, .int 0, .ref a10, .ref a11, .ref p0, .int 1])), (a1, .inl (K 4, 1711, .inr (.inl (fun _ => 0)))), (a2, .inl (K 1, 1711, .inl (fun _ => 0))), (a3, .inl (K 1, 1711, .inl (fun _ => 0))), (a4, .inl (K 1, 1711, .inl (fun _ => 0))), (a5, .inl (K 1, 1711, .inl (fun _ => 0))), (a6, .inl (K 1, 1711, .inl (fun _ => 0))), (a7, .inl (K 2, 1711, .inl (fun _ => 0))), (a8, .inl (K 3, 1711, .inl (fun _ => 0))), (a9, .inl (K 0, 250, .inl (fun _ => 0))), (a10, .inl (K 0, 6, .inl (fun _ => 0))), (a11, .inr (0, [.int 0, .int (-9), .int (-1000000)]))] t.heap ∧ va_K (dC, dI) vwCl [(K 0, .int), (K 1, .byte), (K 2, .short), (K 3, .boolean), (K 4, .long), (K 5, .object RX1), (K 6, .object RX2), (K 7, .array .int)] t ∧ va_D (va_A [(h0, .inr (3, [.null, .null, .int 0, .int 0, .null, .null]))] sz) [(h0, .inr (3, [.ref s1, .ref t0, .int 0, .int 0, .ref s2, .ref s3])), (s2, .inl (K 0, 5, .inl (fun _ => 0))), (s3, .inl (K 0, 5, .inl (fun _ => 0))), (s1, .inr (5, [.ref a1, .ref a2, .ref a3, .ref a4, .ref a5, .ref a6, .ref a7, .ref a8, .ref a9, .int 0, .int 0, .int 0, .ref a10, .ref a11, .ref p0, .int 1])), (a1, .inl (K 4, 1711, .inr (.inl (fun _ => 0)))), (a2, .inl (K 1, 1711, .inl (fun _ => 0))), (a3, .inl (K 1, 1711, .inl (fun _ => 0))), (a4, .inl (K 1, 1711, .inl (fun _ => 0))), (a5, .inl (K 1, 1711, .inl (fun _ => 0))), (a6, .inl (K 1, 1711, .inl (fun _ => 0))), (a7, .inl (K 2, 1711, .inl (fun _ => 0))), (a8, .inl (K 3, 1711, .inl (fun _ => 0))), (a9, .inl (K 0, 250, .inl (fun _ => 0))), (a10, .inl (K 0, 6, .inl (fun _ => 0))), (a11, .inr (0, [.int 0, .int (-9), .int (-1000000)]))]) (va_A [(h0, .inr (3, [.null, .null, .int 0, .int 0, .null, .null]))] sz)) 14 13973 (va_A [(h0, .inr (3, [.null, .null, .int 0, .int 0, .null, .null]))] sz) := by
  refine Met.ofW (cc := cX3_init) (maxL := 3) (ret := none) (by decide) rfl ?_
  intro p e s m args below meth c s₁ B hml hv
  obtain ⟨rfl, hsz, hP, hK, hD0, hN⟩ := hv
  have hx := B.exec
  have hb := B.bytes
  have hr := B.returns
  have hts := atoms_spec (ws := wsX3_init) B.pre
  have hown : s.vm.findClass RX3 = some m.cls := findClass_of_methodNamed B.named
  have hlocks := B.notSynchronized
  have hin : meth.name = "<init>" := (name_of_methodNamed B.named B.method).1
  have hi3 : ∀ w ∈ u_ws RX3 TX3 6, w ∈ wsX3_init := fun w h => List.mem_cons_of_mem _ (List.mem_append_left _ (List.mem_append_left _ (List.mem_append_right _ h)))
  have hi5 : ∀ w ∈ u_ws RX5 TX5 16, w ∈ wsX3_init := fun w h => List.mem_cons_of_mem _ (List.mem_append_left _ (List.mem_append_right _ h))
  have hi0 : ∀ w ∈ u_ws RX0 TX0 3, w ∈ wsX3_init := fun w h => List.mem_cons_of_mem _ (List.mem_append_right _ h)
  subst hsz
  replace hD := hD0.self (sz := s.heap.size)
  generalize hAe : va_A [(h0, .inr (3, [.null, .null, .int 0, .int 0, .null, .null]))] s.heap.size = A at hD ⊢
  have hA : ∀ q : Nat, s.heap.size ≤ q → A q := fun q h => by rw [← hAe]; exact Or.inr h
  have hS : va_S A s.heap s.heap [] := va_S.rf
  replace hP : va_P (dC, dI) vwCl [(h0, .inr (3, [.null, .null, .int 0, .int 0, .null, .null]))] s.heap := hP
  have hl := lv_entry ([.ref h0, .ref p0, .ref t0]) (n := 3) (Nat.le_of_ble_eq_true rfl)
  rw [lg_entry_eq]
  generalize (lg_sl ([.ref h0, .ref p0, .ref t0]) ++ List.replicate (3 - (lg_sl ([.ref h0, .ref p0, .ref t0])).length) Slot.unset).toArray = ls at hl ⊢
  have hl : lv_has ls 3 [(0, .ref h0), (1, .ref p0), (2, .ref t0)] := hl
  obtain ⟨ta0, eta0⟩ : ∃ t : va_W, t = [] := ⟨_, rfl⟩
  obtain ⟨tb0, etb0⟩ : ∃ t : va_W, t = [] := ⟨_, rfl⟩
  have fta0 : ta0 = [] := eta0
  replace hP : va_P (dC, dI) vwCl ([(h0, .inr (3, [.null, .null, .int 0, .int 0, .null, .null]))] ++ (ta0 ++ tb0)) s.heap := by rw [eta0, etb0]; exact hP
  replace hD : va_D A ([(h0, .inr (3, [.null, .null, .int 0, .int 0, .null, .null]))] ++ (ta0 ++ tb0)) := by rw [eta0, etb0]; exact hD
  have hAO_RX1 : va_AO RX1 s := hN.2.2.2.2.1
  have hAO_RX2 : va_AO RX2 s := hN.2.2.2.2.2.1
  refine lv_aload_n hx hb dX3_init_0 rfl (lv_at hl 0 rfl) ?_
  refine W.objInit hx hb hown (hts (.methodLink RX3 3 objectInit) (by decide +kernel)) (hts (.instanceMethod objectInit) (by decide +kernel)) (hts _ (List.mem_of_getElem? (i := 3) rfl)) rfl (by rw [hml]; exact hl.1) rfl dX3_init_1 (Nat.le_of_ble_eq_true rfl) (Nat.le_of_ble_eq_true rfl) ?_
  refine W.eq (g2 := F0 m 4 ls []) rfl ?_
  refine lv_aload_n hx hb dX3_init_4 rfl (lv_at hl 0 rfl) ?_
  refine lv_iconst (v := 0) hx hb dX3_init_5 (by decide) ?_
  refine va_put (D := (dC, dI)) (ci := 3) (v := .int 0) (ty := .int) (C := RX3) (T := TX3) (N := 6) hx hb hts hi3 tyX3 tyX3_ok nmX3 hown hK hP hD hS 0 rfl rfl 2 (by decide) (hts (.fieldLink RX3 9 "CrateHelpers$Solving" "limit" "I") (by decide +kernel)) (fun _ h9 => h9) rfl (by decide +kernel) rfl rfl (Nat.le_of_ble_eq_true rfl) dX3_init_6 (fun H locs hP9 hD9 hS9 => ?_)
  clear hP hD hS
  have hP := hP9; have hD := hD9; have hS := hS9
  clear hP9 hD9 hS9
  replace hP : va_P (dC, dI) vwCl ([(h0, .inr (3, [.null, .null, .int 0, .int 0, .null, .null]))] ++ (ta0 ++ tb0)) H := hP
  replace hD : va_D A ([(h0, .inr (3, [.null, .null, .int 0, .int 0, .null, .null]))] ++ (ta0 ++ tb0)) := hD
  refine lv_aload_n hx hb dX3_init_9 rfl (lv_at hl 0 rfl) ?_
  refine lv_iconst (v := 0) hx hb dX3_init_10 (by decide) ?_
  refine va_put (D := (dC, dI)) (ci := 3) (v := .int 0) (ty := .int) (C := RX3) (T := TX3) (N := 6) hx hb hts hi3 tyX3 tyX3_ok nmX3 hown hK hP hD hS 0 rfl rfl 3 (by decide) (hts (.fieldLink RX3 15 "CrateHelpers$Solving" "turns" "I") (by decide +kernel)) (fun _ h9 => h9) rfl (by decide +kernel) rfl rfl (Nat.le_of_ble_eq_true rfl) dX3_init_11 (fun H locs hP9 hD9 hS9 => ?_)
  clear hP hD hS
  have hP := hP9; have hD := hD9; have hS := hS9
  clear hP9 hD9 hS9
  replace hP : va_P (dC, dI) vwCl ([(h0, .inr (3, [.null, .null, .int 0, .int 0, .null, .null]))] ++ (ta0 ++ tb0)) H := hP
  replace hD : va_D A ([(h0, .inr (3, [.null, .null, .int 0, .int 0, .null, .null]))] ++ (ta0 ++ tb0)) := hD
  refine lv_aload_n hx hb dX3_init_14 rfl (lv_at hl 0 rfl) ?_
  refine lv_iconst (v := 5) hx hb dX3_init_15 (by decide) ?_
  refine va_newa (atype := .int) (ty := .int) (a0 := (5, .inl (fun _ => 0))) (N' := 5) hx hb (hts (.arrayClass .int) (by decide +kernel)) rfl hK hP hD hS hA (fun _ => rfl) (by decide) (by decide) (by decide) (Nat.le_of_ble_eq_true rfl) (Nat.le_of_ble_eq_true rfl) dX3_init_16 (fun q1 cA2 H hK9 hP9 hD9 hS9 => ?_)
  clear hP hD hS hK
  have hP := hP9; have hD := hD9; have hS := hS9; have hK := hK9
  clear hP9 hD9 hS9 hK9
  obtain rfl : K 0 = cA2 := ty_u hK 0 8 rfl rfl
  replace hK := hK.sub (tys' := [(K 0, .int), (K 1, .byte), (K 2, .short), (K 3, .boolean), (K 4, .long), (K 5, .object RX1), (K 6, .object RX2), (K 7, .array .int)]) [0, 1, 2, 3, 4, 5, 6, 7] rfl
  replace hP := tl_P tl_rot hP
  replace hD := tl_D tl_rot hD
  replace hP : va_P (dC, dI) vwCl ([(h0, .inr (3, [.null, .null, .int 0, .int 0, .null, .null])), (q1, .inl (K 0, 5, .inl (fun _ => 0)))] ++ (ta0 ++ tb0)) H := hP
  replace hD : va_D A ([(h0, .inr (3, [.null, .null, .int 0, .int 0, .null, .null])), (q1, .inl (K 0, 5, .inl (fun _ => 0)))] ++ (ta0 ++ tb0)) := hD
  refine W.widen (k := 1) (n := 5) (Nat.le_of_ble_eq_true rfl) (Nat.le_of_ble_eq_true rfl) ?_
  obtain ⟨ta3, eta3⟩ : ∃ t : va_W, t = ta0 ++ [(q1, .inl (K 0, 5, .inl (fun _ => 0)))] := ⟨_, rfl⟩
  have fta3 : ta3 = [(q1, .inl (K 0, 5, .inl (fun _ => 0)))] := by rw [eta3, fta0]; rfl
  clear fta0
  replace hP : va_P (dC, dI) vwCl ([(h0, .inr (3, [.null, .null, .int 0, .int 0, .null, .null]))] ++ (ta3 ++ tb0)) H := by rw [eta3]; exact tl_P (tl_park (k := [(h0, .inr (3, [.null, .null, .int 0, .int 0, .null, .null]))]) (x := [(q1, .inl (K 0, 5, .inl (fun _ => 0)))])) hP
  replace hD : va_D A ([(h0, .inr (3, [.null, .null, .int 0, .int 0, .null, .null]))] ++ (ta3 ++ tb0)) := by rw [eta3]; exact tl_D (tl_park (k := [(h0, .inr (3, [.null, .null, .int 0, .int 0, .null, .null]))]) (x := [(q1, .inl (K 0, 5, .inl (fun _ => 0)))])) hD
  refine va_putF (D := (dC, dI)) (ci := 3) (v := .ref q1) (ty := .array .int) (C := RX3) (T := TX3) (N := 6) hx hb hts hi3 tyX3 tyX3_ok nmX3 hown hK hP hD hS 0 rfl rfl 4 (by decide) (hts (.fieldLink RX3 18 "CrateHelpers$Solving" "holds" "[I") (by decide +kernel)) (fun _ h9 => h9) rfl hin rfl (by decide +kernel) rfl rfl (Nat.le_of_ble_eq_true rfl) dX3_init_18 (fun H locs hP9 hD9 hS9 => ?_)
  clear hP hD hS
  have hP := hP9; have hD := hD9; have hS := hS9
  clear hP9 hD9 hS9
  replace hP : va_P (dC, dI) vwCl ([(h0, .inr (3, [.null, .null, .int 0, .int 0, .ref q1, .null]))] ++ (ta3 ++ tb0)) H := hP
  replace hD : va_D A ([(h0, .inr (3, [.null, .null, .int 0, .int 0, .ref q1, .null]))] ++ (ta3 ++ tb0)) := hD
  refine lv_aload_n hx hb dX3_init_21 rfl (lv_at hl 0 rfl) ?_
  refine lv_iconst (v := 5) hx hb dX3_init_22 (by decide) ?_
  refine va_newa (atype := .int) (ty := .int) (a0 := (5, .inl (fun _ => 0))) (N' := 5) hx hb (hts (.arrayClass .int) (by decide +kernel)) rfl hK hP hD hS hA (fun _ => rfl) (by decide) (by decide) (by decide) (Nat.le_of_ble_eq_true rfl) (Nat.le_of_ble_eq_true rfl) dX3_init_23 (fun q4 cA5 H hK9 hP9 hD9 hS9 => ?_)
  clear hP hD hS hK
  have hP := hP9; have hD := hD9; have hS := hS9; have hK := hK9
  clear hP9 hD9 hS9 hK9
  obtain rfl : K 0 = cA5 := ty_u hK 0 8 rfl rfl
  replace hK := hK.sub (tys' := [(K 0, .int), (K 1, .byte), (K 2, .short), (K 3, .boolean), (K 4, .long), (K 5, .object RX1), (K 6, .object RX2), (K 7, .array .int)]) [0, 1, 2, 3, 4, 5, 6, 7] rfl
  replace hP := tl_P tl_rot hP
  replace hD := tl_D tl_rot hD
  replace hP : va_P (dC, dI) vwCl ([(h0, .inr (3, [.null, .null, .int 0, .int 0, .ref q1, .null])), (q4, .inl (K 0, 5, .inl (fun _ => 0)))] ++ (ta3 ++ tb0)) H := hP
  replace hD : va_D A ([(h0, .inr (3, [.null, .null, .int 0, .int 0, .ref q1, .null])), (q4, .inl (K 0, 5, .inl (fun _ => 0)))] ++ (ta3 ++ tb0)) := hD
  refine W.widen (k := 2) (n := 10) (Nat.le_of_ble_eq_true rfl) (Nat.le_of_ble_eq_true rfl) ?_
  obtain ⟨ta6, eta6⟩ : ∃ t : va_W, t = ta3 ++ [(q4, .inl (K 0, 5, .inl (fun _ => 0)))] := ⟨_, rfl⟩
  have fta6 : ta6 = [(q1, .inl (K 0, 5, .inl (fun _ => 0))), (q4, .inl (K 0, 5, .inl (fun _ => 0)))] := by rw [eta6, fta3]; rfl
  clear fta3
  replace hP : va_P (dC, dI) vwCl ([(h0, .inr (3, [.null, .null, .int 0, .int 0, .ref q1, .null]))] ++ (ta6 ++ tb0)) H := by rw [eta6]; exact tl_P (tl_park (k := [(h0, .inr (3, [.null, .null, .int 0, .int 0, .ref q1, .null]))]) (x := [(q4, .inl (K 0, 5, .inl (fun _ => 0)))])) hP
  replace hD : va_D A ([(h0, .inr (3, [.null, .null, .int 0, .int 0, .ref q1, .null]))] ++ (ta6 ++ tb0)) := by rw [eta6]; exact tl_D (tl_park (k := [(h0, .inr (3, [.null, .null, .int 0, .int 0, .ref q1, .null]))]) (x := [(q4, .inl (K 0, 5, .inl (fun _ => 0)))])) hD
  refine va_putF (D := (dC, dI)) (ci := 3) (v := .ref q4) (ty := .array .int) (C := RX3) (T := TX3) (N := 6) hx hb hts hi3 tyX3 tyX3_ok nmX3 hown hK hP hD hS 0 rfl rfl 5 (by decide) (hts (.fieldLink RX3 22 "CrateHelpers$Solving" "had" "[I") (by decide +kernel)) (fun _ h9 => h9) rfl hin rfl (by decide +kernel) rfl rfl (Nat.le_of_ble_eq_true rfl) dX3_init_25 (fun H locs hP9 hD9 hS9 => ?_)
  clear hP hD hS
  have hP := hP9; have hD := hD9; have hS := hS9
  clear hP9 hD9 hS9
  replace hP : va_P (dC, dI) vwCl ([(h0, .inr (3, [.null, .null, .int 0, .int 0, .ref q1, .ref q4]))] ++ (ta6 ++ tb0)) H := hP
  replace hD : va_D A ([(h0, .inr (3, [.null, .null, .int 0, .int 0, .ref q1, .ref q4]))] ++ (ta6 ++ tb0)) := hD
  refine lv_aload_n hx hb dX3_init_28 rfl (lv_at hl 0 rfl) ?_
  refine va_new (ci := 5) (fs := [.null, .null, .null, .null, .null, .null, .null, .null, .null, .int 0, .int 0, .int 0, .null, .null, .null, .int 0]) (C := RX5) (T := TX5) (N := 16) hx hb hts hi5 tyX5 tyX5_ok hown (hts (.classLink RX3 25 RX5) (by decide +kernel)) (hts (.instantiable RX5 16) (by decide +kernel)) (hts (.initialized RX5) (by decide +kernel)) hK hP hD hS hA rfl (by decide +kernel) (Nat.le_of_ble_eq_true rfl) (Nat.le_of_ble_eq_true rfl) dX3_init_29 (fun q7 H hP9 hD9 hS9 => ?_)
  clear hP hD hS
  have hP := hP9; have hD := hD9; have hS := hS9
  clear hP9 hD9 hS9
  replace hP := tl_P tl_rot hP
  replace hD := tl_D tl_rot hD
  replace hP : va_P (dC, dI) vwCl ([(h0, .inr (3, [.null, .null, .int 0, .int 0, .ref q1, .ref q4])), (q7, .inr (5, [.null, .null, .null, .null, .null, .null, .null, .null, .null, .int 0, .int 0, .int 0, .null, .null, .null, .int 0]))] ++ (ta6 ++ tb0)) H := hP
  replace hD : va_D A ([(h0, .inr (3, [.null, .null, .int 0, .int 0, .ref q1, .ref q4])), (q7, .inr (5, [.null, .null, .null, .null, .null, .null, .null, .null, .null, .int 0, .int 0, .int 0, .null, .null, .null, .int 0]))] ++ (ta6 ++ tb0)) := hD
  refine W.widen (k := 3) (n := 26) (Nat.le_of_ble_eq_true rfl) (Nat.le_of_ble_eq_true rfl) ?_
  refine lv_dup hx hb dX3_init_32 rfl ?_
  refine lv_aload_n hx hb dX3_init_33 rfl (lv_at hl 1 rfl) ?_
  refine lv_sipush (v := 285) hx hb dX3_init_34 (by decide) ?_
  have hPc := hP.sub (ws' := [(q7, .inr (5, [.null, .null, .null, .null, .null, .null, .null, .null, .null, .int 0, .int 0, .int 0, .null, .null, .null, .int 0]))]) [1] rfl
  have hDc := hD.sub (ws' := [(q7, .inr (5, [.null, .null, .null, .null, .null, .null, .null, .null, .null, .int 0, .int 0, .int 0, .null, .null, .null, .int 0]))]) [1] (by decide) rfl
  have hKc := hK.sub (tys' := [(K 0, .int), (K 1, .byte), (K 2, .short), (K 3, .boolean), (K 4, .long), (K 5, .object RX1), (K 6, .object RX2), (K 7, .array .int)]) [0, 1, 2, 3, 4, 5, 6, 7] rfl
  have hFc := va_free (wc := [(q7, .inr (5, [.null, .null, .null, .null, .null, .null, .null, .null, .null, .int 0, .int 0, .int 0, .null, .null, .null, .int 0]))]) hD hS hA [1] rfl
  refine va_callv (va_runI (As := [.ref p0, .int 285]) (rest := [.ref q7, .ref h0]) ⟨hx, hb, hml, hown, hts⟩ (z_X5_init_285 l dC dI H.size K q7 p0) (cwI 2 hts gX3_init_X5_init rfl rfl rfl (hts (.initialized RX5) (by decide +kernel)) (hts (.methodLink RX3 27 yX5_init) (by decide +kernel)) (hts (.instanceMethod yX5_init) (by decide +kernel)) rfl (by decide +kernel) ⟨Nat.le_of_ble_eq_true rfl, Nat.le_of_ble_eq_true rfl⟩) ⟨fun a U g mk q => by obtain ⟨q0, q1, qP, qK, qD, qN⟩ := q; exact ⟨q0, q1, qP, va_K.moved (u := U) (U := U.calling g mk a) (Vm.Alike.refl U.vm) qK, qD, nwX_same (u := U) (U := U.calling g mk a) rfl qN⟩, fun U hU hW => ⟨rfl, by rw [hU], by rw [hU]; exact hPc, va_K.moved hW.alike hKc, hDc.weaken (fun _ _ _ _ => trivial), nwX_moved hW hN⟩⟩ rfl rfl hl.1 rfl (lv_room (Nat.le_of_ble_eq_true rfl)) dX3_init_37 ⟨Nat.le_of_ble_eq_true rfl, Nat.le_of_ble_eq_true rfl⟩) hS (fun q _ h => hFc q h) hFc (fun u19 t H1 locs ht hvm hw hB hz1 hk1 hS => ?_)
  obtain ⟨a8, a9, a10, a11, a12, a13, a14, a15, a16, a17, a18, hP1, hK1, hD1⟩ := hB
  rw [ht] at hP1
  try dsimp only at hw
  obtain ⟨hP9, hD9⟩ := tl_join (lits := [(h0, .inr (3, [.null, .null, .int 0, .int 0, .ref q1, .ref q4])), (q7, .inr (5, [.null, .null, .null, .null, .null, .null, .null, .null, .null, .int 0, .int 0, .int 0, .null, .null, .null, .int 0]))]) (tl := ta6 ++ tb0) (wr := [(h0, .inr (3, [.null, .null, .int 0, .int 0, .ref q1, .ref q4]))]) (w1 := [(q7, .inr (5, [.ref a8, .ref a9, .ref a10, .ref a11, .ref a12, .ref a13, .ref a14, .ref a15, .ref a16, .int 0, .int 0, .int 0, .ref a17, .ref a18, .ref p0, .int 1])), (a8, .inl (K 4, 1711, .inr (.inl (fun _ => 0)))), (a9, .inl (K 1, 1711, .inl (fun _ => 0))), (a10, .inl (K 1, 1711, .inl (fun _ => 0))), (a11, .inl (K 1, 1711, .inl (fun _ => 0))), (a12, .inl (K 1, 1711, .inl (fun _ => 0))), (a13, .inl (K 1, 1711, .inl (fun _ => 0))), (a14, .inl (K 2, 1711, .inl (fun _ => 0))), (a15, .inl (K 3, 1711, .inl (fun _ => 0))), (a16, .inl (K 0, 250, .inl (fun _ => 0))), (a17, .inl (K 0, 6, .inl (fun _ => 0))), (a18, .inr (0, [.int 0, .int (-9), .int (-1000000)]))]) hP hD [1] [0] rfl rfl (by decide) (by decide) 2 rfl (by decide) (by decide) hk1 hFc hP1 hD1
  clear hP hD hPc hDc hKc hFc hP1 hK1 hD1 hk1
  have hP := hP9; have hD := hD9
  clear hP9 hD9
  generalize H1 = H at hP hS ⊢
  replace hP := tl_P tl_rot hP
  replace hD := tl_D tl_rot hD
  replace hP : va_P (dC, dI) vwCl ([(h0, .inr (3, [.null, .null, .int 0, .int 0, .ref q1, .ref q4])), (q7, .inr (5, [.ref a8, .ref a9, .ref a10, .ref a11, .ref a12, .ref a13, .ref a14, .ref a15, .ref a16, .int 0, .int 0, .int 0, .ref a17, .ref a18, .ref p0, .int 1])), (a8, .inl (K 4, 1711, .inr (.inl (fun _ => 0)))), (a9, .inl (K 1, 1711, .inl (fun _ => 0))), (a10, .inl (K 1, 1711, .inl (fun _ => 0))), (a11, .inl (K 1, 1711, .inl (fun _ => 0))), (a12, .inl (K 1, 1711, .inl (fun _ => 0))), (a13, .inl (K 1, 1711, .inl (fun _ => 0))), (a14, .inl (K 2, 1711, .inl (fun _ => 0))), (a15, .inl (K 3, 1711, .inl (fun _ => 0))), (a16, .inl (K 0, 250, .inl (fun _ => 0))), (a17, .inl (K 0, 6, .inl (fun _ => 0))), (a18, .inr (0, [.int 0, .int (-9), .int (-1000000)]))] ++ (ta6 ++ tb0)) H := hP
  replace hD : va_D A ([(h0, .inr (3, [.null, .null, .int 0, .int 0, .ref q1, .ref q4])), (q7, .inr (5, [.ref a8, .ref a9, .ref a10, .ref a11, .ref a12, .ref a13, .ref a14, .ref a15, .ref a16, .int 0, .int 0, .int 0, .ref a17, .ref a18, .ref p0, .int 1])), (a8, .inl (K 4, 1711, .inr (.inl (fun _ => 0)))), (a9, .inl (K 1, 1711, .inl (fun _ => 0))), (a10, .inl (K 1, 1711, .inl (fun _ => 0))), (a11, .inl (K 1, 1711, .inl (fun _ => 0))), (a12, .inl (K 1, 1711, .inl (fun _ => 0))), (a13, .inl (K 1, 1711, .inl (fun _ => 0))), (a14, .inl (K 2, 1711, .inl (fun _ => 0))), (a15, .inl (K 3, 1711, .inl (fun _ => 0))), (a16, .inl (K 0, 250, .inl (fun _ => 0))), (a17, .inl (K 0, 6, .inl (fun _ => 0))), (a18, .inr (0, [.int 0, .int (-9), .int (-1000000)]))] ++ (ta6 ++ tb0)) := hD
  refine W.widen (k := 14) (n := 13973) (Nat.le_of_ble_eq_true rfl) (Nat.le_of_ble_eq_true rfl) ?_
  obtain ⟨ta20, eta20⟩ : ∃ t : va_W, t = ta6 ++ [(q7, .inr (5, [.ref a8, .ref a9, .ref a10, .ref a11, .ref a12, .ref a13, .ref a14, .ref a15, .ref a16, .int 0, .int 0, .int 0, .ref a17, .ref a18, .ref p0, .int 1])), (a8, .inl (K 4, 1711, .inr (.inl (fun _ => 0)))), (a9, .inl (K 1, 1711, .inl (fun _ => 0))), (a10, .inl (K 1, 1711, .inl (fun _ => 0))), (a11, .inl (K 1, 1711, .inl (fun _ => 0))), (a12, .inl (K 1, 1711, .inl (fun _ => 0))), (a13, .inl (K 1, 1711, .inl (fun _ => 0))), (a14, .inl (K 2, 1711, .inl (fun _ => 0))), (a15, .inl (K 3, 1711, .inl (fun _ => 0))), (a16, .inl (K 0, 250, .inl (fun _ => 0))), (a17, .inl (K 0, 6, .inl (fun _ => 0))), (a18, .inr (0, [.int 0, .int (-9), .int (-1000000)]))] := ⟨_, rfl⟩
  have fta20 : ta20 = [(q1, .inl (K 0, 5, .inl (fun _ => 0))), (q4, .inl (K 0, 5, .inl (fun _ => 0))), (q7, .inr (5, [.ref a8, .ref a9, .ref a10, .ref a11, .ref a12, .ref a13, .ref a14, .ref a15, .ref a16, .int 0, .int 0, .int 0, .ref a17, .ref a18, .ref p0, .int 1])), (a8, .inl (K 4, 1711, .inr (.inl (fun _ => 0)))), (a9, .inl (K 1, 1711, .inl (fun _ => 0))), (a10, .inl (K 1, 1711, .inl (fun _ => 0))), (a11, .inl (K 1, 1711, .inl (fun _ => 0))), (a12, .inl (K 1, 1711, .inl (fun _ => 0))), (a13, .inl (K 1, 1711, .inl (fun _ => 0))), (a14, .inl (K 2, 1711, .inl (fun _ => 0))), (a15, .inl (K 3, 1711, .inl (fun _ => 0))), (a16, .inl (K 0, 250, .inl (fun _ => 0))), (a17, .inl (K 0, 6, .inl (fun _ => 0))), (a18, .inr (0, [.int 0, .int (-9), .int (-1000000)]))] := by rw [eta20, fta6]; rfl
  clear fta6
  replace hP : va_P (dC, dI) vwCl ([(h0, .inr (3, [.null, .null, .int 0, .int 0, .ref q1, .ref q4]))] ++ (ta20 ++ tb0)) H := by rw [eta20]; exact tl_P (tl_park (k := [(h0, .inr (3, [.null, .null, .int 0, .int 0, .ref q1, .ref q4]))]) (x := [(q7, .inr (5, [.ref a8, .ref a9, .ref a10, .ref a11, .ref a12, .ref a13, .ref a14, .ref a15, .ref a16, .int 0, .int 0, .int 0, .ref a17, .ref a18, .ref p0, .int 1])), (a8, .inl (K 4, 1711, .inr (.inl (fun _ => 0)))), (a9, .inl (K 1, 1711, .inl (fun _ => 0))), (a10, .inl (K 1, 1711, .inl (fun _ => 0))), (a11, .inl (K 1, 1711, .inl (fun _ => 0))), (a12, .inl (K 1, 1711, .inl (fun _ => 0))), (a13, .inl (K 1, 1711, .inl (fun _ => 0))), (a14, .inl (K 2, 1711, .inl (fun _ => 0))), (a15, .inl (K 3, 1711, .inl (fun _ => 0))), (a16, .inl (K 0, 250, .inl (fun _ => 0))), (a17, .inl (K 0, 6, .inl (fun _ => 0))), (a18, .inr (0, [.int 0, .int (-9), .int (-1000000)]))])) hP
  replace hD : va_D A ([(h0, .inr (3, [.null, .null, .int 0, .int 0, .ref q1, .ref q4]))] ++ (ta20 ++ tb0)) := by rw [eta20]; exact tl_D (tl_park (k := [(h0, .inr (3, [.null, .null, .int 0, .int 0, .ref q1, .ref q4]))]) (x := [(q7, .inr (5, [.ref a8, .ref a9, .ref a10, .ref a11, .ref a12, .ref a13, .ref a14, .ref a15, .ref a16, .int 0, .int 0, .int 0, .ref a17, .ref a18, .ref p0, .int 1])), (a8, .inl (K 4, 1711, .inr (.inl (fun _ => 0)))), (a9, .inl (K 1, 1711, .inl (fun _ => 0))), (a10, .inl (K 1, 1711, .inl (fun _ => 0))), (a11, .inl (K 1, 1711, .inl (fun _ => 0))), (a12, .inl (K 1, 1711, .inl (fun _ => 0))), (a13, .inl (K 1, 1711, .inl (fun _ => 0))), (a14, .inl (K 2, 1711, .inl (fun _ => 0))), (a15, .inl (K 3, 1711, .inl (fun _ => 0))), (a16, .inl (K 0, 250, .inl (fun _ => 0))), (a17, .inl (K 0, 6, .inl (fun _ => 0))), (a18, .inr (0, [.int 0, .int (-9), .int (-1000000)]))])) hD
  refine va_put (D := (dC, dI)) (ci := 3) (v := .ref q7) (ty := .object "CrateHelpers$Tree") (C := RX3) (T := TX3) (N := 6) hx hb hts hi3 tyX3 tyX3_ok nmX3 hown hK hP hD hS 0 rfl rfl 0 (by decide) (hts (.fieldLink RX3 30 "CrateHelpers$Solving" "tree" "LCrateHelpers$Tree;") (by decide +kernel)) (fun _ h9 => h9) rfl (by decide +kernel) rfl rfl (Nat.le_of_ble_eq_true rfl) dX3_init_40 (fun H locs hP9 hD9 hS9 => ?_)
  clear hP hD hS
  have hP := hP9; have hD := hD9; have hS := hS9
  clear hP9 hD9 hS9
  replace hP : va_P (dC, dI) vwCl ([(h0, .inr (3, [.ref q7, .null, .int 0, .int 0, .ref q1, .ref q4]))] ++ (ta20 ++ tb0)) H := hP
  replace hD : va_D A ([(h0, .inr (3, [.ref q7, .null, .int 0, .int 0, .ref q1, .ref q4]))] ++ (ta20 ++ tb0)) := hD
  refine lv_aload_n hx hb dX3_init_43 rfl (lv_at hl 0 rfl) ?_
  refine lv_aload_n hx hb dX3_init_44 rfl (lv_at hl 2 rfl) ?_
  refine va_put (D := (dC, dI)) (ci := 3) (v := .ref t0) (ty := .object "CrateHelpers$Team") (C := RX3) (T := TX3) (N := 6) hx hb hts hi3 tyX3 tyX3_ok nmX3 hown hK hP hD hS 0 rfl rfl 1 (by decide) (hts (.fieldLink RX3 34 "CrateHelpers$Solving" "team" "LCrateHelpers$Team;") (by decide +kernel)) (fun _ h9 => h9) rfl (by decide +kernel) rfl rfl (Nat.le_of_ble_eq_true rfl) dX3_init_45 (fun H locs hP9 hD9 hS9 => ?_)
  clear hP hD hS
  have hP := hP9; have hD := hD9; have hS := hS9
  clear hP9 hD9 hS9
  replace hP : va_P (dC, dI) vwCl ([(h0, .inr (3, [.ref q7, .ref t0, .int 0, .int 0, .ref q1, .ref q4]))] ++ (ta20 ++ tb0)) H := hP
  replace hD : va_D A ([(h0, .inr (3, [.ref q7, .ref t0, .int 0, .int 0, .ref q1, .ref q4]))] ++ (ta20 ++ tb0)) := hD
  rw [fta20] at hP hD
  rw [etb0] at hP hD
  have hP9 := hP.sub (ws' := [(h0, .inr (3, [.ref q7, .ref t0, .int 0, .int 0, .ref q1, .ref q4])), (q1, .inl (K 0, 5, .inl (fun _ => 0))), (q4, .inl (K 0, 5, .inl (fun _ => 0))), (q7, .inr (5, [.ref a8, .ref a9, .ref a10, .ref a11, .ref a12, .ref a13, .ref a14, .ref a15, .ref a16, .int 0, .int 0, .int 0, .ref a17, .ref a18, .ref p0, .int 1])), (a8, .inl (K 4, 1711, .inr (.inl (fun _ => 0)))), (a9, .inl (K 1, 1711, .inl (fun _ => 0))), (a10, .inl (K 1, 1711, .inl (fun _ => 0))), (a11, .inl (K 1, 1711, .inl (fun _ => 0))), (a12, .inl (K 1, 1711, .inl (fun _ => 0))), (a13, .inl (K 1, 1711, .inl (fun _ => 0))), (a14, .inl (K 2, 1711, .inl (fun _ => 0))), (a15, .inl (K 3, 1711, .inl (fun _ => 0))), (a16, .inl (K 0, 250, .inl (fun _ => 0))), (a17, .inl (K 0, 6, .inl (fun _ => 0))), (a18, .inr (0, [.int 0, .int (-9), .int (-1000000)]))]) [0, 1, 2, 3, 4, 5, 6, 7, 8, 9, 10, 11, 12, 13, 14] rfl
  have hD9 := hD.sub (ws' := [(h0, .inr (3, [.ref q7, .ref t0, .int 0, .int 0, .ref q1, .ref q4])), (q1, .inl (K 0, 5, .inl (fun _ => 0))), (q4, .inl (K 0, 5, .inl (fun _ => 0))), (q7, .inr (5, [.ref a8, .ref a9, .ref a10, .ref a11, .ref a12, .ref a13, .ref a14, .ref a15, .ref a16, .int 0, .int 0, .int 0, .ref a17, .ref a18, .ref p0, .int 1])), (a8, .inl (K 4, 1711, .inr (.inl (fun _ => 0)))), (a9, .inl (K 1, 1711, .inl (fun _ => 0))), (a10, .inl (K 1, 1711, .inl (fun _ => 0))), (a11, .inl (K 1, 1711, .inl (fun _ => 0))), (a12, .inl (K 1, 1711, .inl (fun _ => 0))), (a13, .inl (K 1, 1711, .inl (fun _ => 0))), (a14, .inl (K 2, 1711, .inl (fun _ => 0))), (a15, .inl (K 3, 1711, .inl (fun _ => 0))), (a16, .inl (K 0, 250, .inl (fun _ => 0))), (a17, .inl (K 0, 6, .inl (fun _ => 0))), (a18, .inr (0, [.int 0, .int (-9), .int (-1000000)]))]) [0, 1, 2, 3, 4, 5, 6, 7, 8, 9, 10, 11, 12, 13, 14] (by decide) rfl
  exact W.vret hx hb hr (fun t ht hW => ⟨⟨(), rfl, trivial, q7, q1, q4, a8, a9, a10, a11, a12, a13, a14, a15, a16, a17, a18, by rw [ht]; exact hP9, va_K.moved hW.alike hK, hD9⟩, hS.F ht⟩) hS.2.2 dX3_init_48
