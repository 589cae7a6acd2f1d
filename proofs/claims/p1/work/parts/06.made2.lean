set_option maxHeartbeats 4000000 in
set_option maxRecDepth 100000 in
/-- Tree(any, 285): nothing known, done or taken -/
theorem c_X5_init_285 (l : Launch) (dC : Nat → ClassId) (dI : Nat → Nat → Nat) (sz : Nat) (h0 : Nat) (p0 : Nat) : Met l yX5_init wsX5_init ({ frames := 2, cells := 11, slots := 13947, locals := 60 }) (va_Pc [.ref h0, .ref p0, .int 285] (fun U => U.heap.size = sz ∧ va_P (dC, dI) vwCl [(h0, .inr (5, [.null, .null, .null, .null, .null, .null, .null, .null, .null, .int 0, .int 0, .int 0, .null, .null, .null, .int 0]))] U.heap ∧ va_K (dC, dI) vwCl [] U ∧ va_D (fun _ => True) [(h0, .inr (5, [.null, .null, .null, .null, .null, .null, .null, .null, .null, .int 0, .int 0, .int 0, .null, .null, .null, .int 0]))] ∧ nwX U)) (va_Qv (fun (_ : Unit) => True) (fun (_ : Unit) (t : State) => ∃ (a1 : Nat) (a2 : Nat) (a3 : Nat) (a4 : Nat) (a5 : Nat) (a6 : Nat) (a7 : Nat) (a8 : Nat) (a9 : Nat) (a10 : Nat) (a11 : Nat), va_P (dC, dI) vwCl [(h0, .inr (5, [.ref a1, .ref a2, .ref a3, .ref a4, .ref a5, .ref a6, .ref a7, .ref a8, .ref a9, .int 0, .int 0, .int 0, .ref a10, .ref a11, .ref p0, .int 1]))] t.heap ∧ va_K (dC, dI) vwCl [] t ∧ va_D (va_A [(h0, .inr (5, [.null, .null, .null, .null, .null, .null, .null, .null, .null, .int 0, .int 0, .int 0, .null, .null, .null, .int 0]))] sz) [(h0, .inr (5, [.ref a1, .ref a2, .ref a3, .ref a4, .ref a5, .ref a6, .ref a7, .ref a8, .ref a9, .int 0, .int 0, .int 0, .ref a10, .ref a11, .ref p0, .int 1]))]) (va_A [(h0, .inr (5, [.null, .null, .null, .null, .null, .null, .null, .null, .null, .int 0, .int 0, .int 0, .null, .null, .null, .int 0]))] sz)) 11 13947 (va_A [(h0, .inr (5, [.null, .null, .null, .null, .null, .null, .null, .null, .null, .int 0, .int 0, .int 0, .null, .null, .null, .int 0]))] sz) := by
  refine Met.ofW (cc := cX5_init) (maxL := 4) (ret := none) (by decide) rfl ?_
  intro p e s m args below meth c s₁ B hml hv
  obtain ⟨rfl, hsz, hP, hK, hD0, hN⟩ := hv
  have hx := B.exec
  have hb := B.bytes
  have hr := B.returns
  have hts := atoms_spec (ws := wsX5_init) B.pre
  have hown : s.vm.findClass RX5 = some m.cls := findClass_of_methodNamed B.named
  have hlocks := B.notSynchronized
  have hin : meth.name = "<init>" := (name_of_methodNamed B.named B.method).1
  have hi5 : ∀ w ∈ u_ws RX5 TX5 16, w ∈ wsX5_init := fun w h => List.mem_cons_of_mem _ (List.mem_append_left _ (List.mem_append_right _ h))
  have hi0 : ∀ w ∈ u_ws RX0 TX0 3, w ∈ wsX5_init := fun w h => List.mem_cons_of_mem _ (List.mem_append_right _ h)
  subst hsz
  have hD := hD0.self (sz := s.heap.size)
  generalize hAe : va_A [(h0, .inr (5, [.null, .null, .null, .null, .null, .null, .null, .null, .null, .int 0, .int 0, .int 0, .null, .null, .null, .int 0]))] s.heap.size = A at hD ⊢
  have hA : ∀ q : Nat, s.heap.size ≤ q → A q := fun q h => by rw [← hAe]; exact Or.inr h
  have hS : va_S A s.heap s.heap [] := va_S.rf
  have hP : va_P (dC, dI) vwCl [(h0, .inr (5, [.null, .null, .null, .null, .null, .null, .null, .null, .null, .int 0, .int 0, .int 0, .null, .null, .null, .int 0]))] s.heap := hP
  have hl := lv_entry ([.ref h0, .ref p0, .int 285]) (n := 4) (Nat.le_of_ble_eq_true rfl)
  rw [lg_entry_eq]
  generalize (lg_sl ([.ref h0, .ref p0, .int 285]) ++ List.replicate (4 - (lg_sl ([.ref h0, .ref p0, .int 285])).length) Slot.unset).toArray = ls at hl ⊢
  have hl : lv_has ls 4 [(0, .ref h0), (1, .ref p0), (2, .int 285)] := hl
  refine lv_aload_n hx hb dX5_init_0 rfl (lv_at hl 0 rfl) ?_
  refine W.objInit hx hb hown (hts (.methodLink RX5 5 objectInit) (by decide +kernel)) (hts (.instanceMethod objectInit) (by decide +kernel)) (hts _ (List.mem_of_getElem? (i := 3) rfl)) rfl (by rw [hml]; exact hl.1) rfl dX5_init_1 (Nat.le_of_ble_eq_true rfl) (Nat.le_of_ble_eq_true rfl) ?_
  refine W.eq (g2 := F0 m 4 ls []) rfl ?_
  refine lv_aload_n hx hb dX5_init_4 rfl (lv_at hl 0 rfl) ?_
  refine lv_sipush (v := 250) hx hb dX5_init_5 (by decide) ?_
  refine va_newa (atype := .int) (ty := .int) (a0 := (250, .inl (fun _ => 0))) (N' := 250) hx hb (hts (.arrayClass .int) (by decide +kernel)) rfl hK hP hD hS hA (fun _ => rfl) (by decide) (by decide) (by decide) (Nat.le_of_ble_eq_true rfl) (Nat.le_of_ble_eq_true rfl) dX5_init_8 (fun q1 cA2 H hK hP hD hS => ?_)
  have hP : va_P (dC, dI) vwCl [(h0, .inr (5, [.null, .null, .null, .null, .null, .null, .null, .null, .null, .int 0, .int 0, .int 0, .null, .null, .null, .int 0])), (q1, .inl (cA2, 250, .inl (fun _ => 0)))] H := hP
  have hD : va_D A [(h0, .inr (5, [.null, .null, .null, .null, .null, .null, .null, .null, .null, .int 0, .int 0, .int 0, .null, .null, .null, .int 0])), (q1, .inl (cA2, 250, .inl (fun _ => 0)))] := hD
  have hK : va_K (dC, dI) vwCl [(cA2, .int)] s := hK
  refine W.widen (k := 1) (n := 250) (Nat.le_of_ble_eq_true rfl) (Nat.le_of_ble_eq_true rfl) ?_
  have hP := hP.sub (ws' := [(h0, .inr (5, [.null, .null, .null, .null, .null, .null, .null, .null, .null, .int 0, .int 0, .int 0, .null, .null, .null, .int 0]))]) [0] rfl
  have hD := hD.sub (ws' := [(h0, .inr (5, [.null, .null, .null, .null, .null, .null, .null, .null, .null, .int 0, .int 0, .int 0, .null, .null, .null, .int 0]))]) [0] (by decide) rfl
  have hK := hK.sub (tys' := []) [] rfl
  refine va_putF (D := (dC, dI)) (ci := 5) (v := .ref q1) (ty := .array .int) (C := RX5) (T := TX5) (N := 16) hx hb hts hi5 tyX5 tyX5_ok nmX5 hown hK hP hD hS 0 rfl rfl 8 (by decide) (hts (.fieldLink RX5 11 "CrateHelpers$Tree" "walk" "[I") (by decide +kernel)) (fun _ h9 => h9) rfl hin rfl (by decide +kernel) rfl rfl (Nat.le_of_ble_eq_true rfl) dX5_init_10 (fun H locs hP hD hS => ?_)
  have hP : va_P (dC, dI) vwCl [(h0, .inr (5, [.null, .null, .null, .null, .null, .null, .null, .null, .ref q1, .int 0, .int 0, .int 0, .null, .null, .null, .int 0]))] H := hP
  have hD : va_D A [(h0, .inr (5, [.null, .null, .null, .null, .null, .null, .null, .null, .ref q1, .int 0, .int 0, .int 0, .null, .null, .null, .int 0]))] := hD
  refine lv_aload_n hx hb dX5_init_13 rfl (lv_at hl 0 rfl) ?_
  refine lv_iconst (v := 0) hx hb dX5_init_14 (by decide) ?_
  refine va_put (D := (dC, dI)) (ci := 5) (v := .int 0) (ty := .int) (C := RX5) (T := TX5) (N := 16) hx hb hts hi5 tyX5 tyX5_ok nmX5 hown hK hP hD hS 0 rfl rfl 9 (by decide) (hts (.fieldLink RX5 15 "CrateHelpers$Tree" "known" "I") (by decide +kernel)) (fun _ h9 => h9) rfl (by decide +kernel) rfl rfl (Nat.le_of_ble_eq_true rfl) dX5_init_15 (fun H locs hP hD hS => ?_)
  have hP : va_P (dC, dI) vwCl [(h0, .inr (5, [.null, .null, .null, .null, .null, .null, .null, .null, .ref q1, .int 0, .int 0, .int 0, .null, .null, .null, .int 0]))] H := hP
  have hD : va_D A [(h0, .inr (5, [.null, .null, .null, .null, .null, .null, .null, .null, .ref q1, .int 0, .int 0, .int 0, .null, .null, .null, .int 0]))] := hD
  refine lv_aload_n hx hb dX5_init_18 rfl (lv_at hl 0 rfl) ?_
  refine lv_iconst (v := 0) hx hb dX5_init_19 (by decide) ?_
  refine va_put (D := (dC, dI)) (ci := 5) (v := .int 0) (ty := .int) (C := RX5) (T := TX5) (N := 16) hx hb hts hi5 tyX5 tyX5_ok nmX5 hown hK hP hD hS 0 rfl rfl 10 (by decide) (hts (.fieldLink RX5 19 "CrateHelpers$Tree" "done" "I") (by decide +kernel)) (fun _ h9 => h9) rfl (by decide +kernel) rfl rfl (Nat.le_of_ble_eq_true rfl) dX5_init_20 (fun H locs hP hD hS => ?_)
  have hP : va_P (dC, dI) vwCl [(h0, .inr (5, [.null, .null, .null, .null, .null, .null, .null, .null, .ref q1, .int 0, .int 0, .int 0, .null, .null, .null, .int 0]))] H := hP
  have hD : va_D A [(h0, .inr (5, [.null, .null, .null, .null, .null, .null, .null, .null, .ref q1, .int 0, .int 0, .int 0, .null, .null, .null, .int 0]))] := hD
  refine lv_aload_n hx hb dX5_init_23 rfl (lv_at hl 0 rfl) ?_
  refine lv_iconst (v := 0) hx hb dX5_init_24 (by decide) ?_
  refine va_put (D := (dC, dI)) (ci := 5) (v := .int 0) (ty := .int) (C := RX5) (T := TX5) (N := 16) hx hb hts hi5 tyX5 tyX5_ok nmX5 hown hK hP hD hS 0 rfl rfl 11 (by decide) (hts (.fieldLink RX5 22 "CrateHelpers$Tree" "taken" "I") (by decide +kernel)) (fun _ h9 => h9) rfl (by decide +kernel) rfl rfl (Nat.le_of_ble_eq_true rfl) dX5_init_25 (fun H locs hP hD hS => ?_)
  have hP : va_P (dC, dI) vwCl [(h0, .inr (5, [.null, .null, .null, .null, .null, .null, .null, .null, .ref q1, .int 0, .int 0, .int 0, .null, .null, .null, .int 0]))] H := hP
  have hD : va_D A [(h0, .inr (5, [.null, .null, .null, .null, .null, .null, .null, .null, .ref q1, .int 0, .int 0, .int 0, .null, .null, .null, .int 0]))] := hD
  refine lv_aload_n hx hb dX5_init_28 rfl (lv_at hl 0 rfl) ?_
  refine lv_bipush (v := 6) hx hb dX5_init_29 (by decide) ?_
  refine va_newa (atype := .int) (ty := .int) (a0 := (6, .inl (fun _ => 0))) (N' := 6) hx hb (hts (.arrayClass .int) (by decide +kernel)) rfl hK hP hD hS hA (fun _ => rfl) (by decide) (by decide) (by decide) (Nat.le_of_ble_eq_true rfl) (Nat.le_of_ble_eq_true rfl) dX5_init_31 (fun q3 cA4 H hK hP hD hS => ?_)
  have hP : va_P (dC, dI) vwCl [(h0, .inr (5, [.null, .null, .null, .null, .null, .null, .null, .null, .ref q1, .int 0, .int 0, .int 0, .null, .null, .null, .int 0])), (q3, .inl (cA4, 6, .inl (fun _ => 0)))] H := hP
  have hD : va_D A [(h0, .inr (5, [.null, .null, .null, .null, .null, .null, .null, .null, .ref q1, .int 0, .int 0, .int 0, .null, .null, .null, .int 0])), (q3, .inl (cA4, 6, .inl (fun _ => 0)))] := hD
  have hK : va_K (dC, dI) vwCl [(cA4, .int)] s := hK
  refine W.widen (k := 2) (n := 256) (Nat.le_of_ble_eq_true rfl) (Nat.le_of_ble_eq_true rfl) ?_
  have hP := hP.sub (ws' := [(h0, .inr (5, [.null, .null, .null, .null, .null, .null, .null, .null, .ref q1, .int 0, .int 0, .int 0, .null, .null, .null, .int 0]))]) [0] rfl
  have hD := hD.sub (ws' := [(h0, .inr (5, [.null, .null, .null, .null, .null, .null, .null, .null, .ref q1, .int 0, .int 0, .int 0, .null, .null, .null, .int 0]))]) [0] (by decide) rfl
  have hK := hK.sub (tys' := []) [] rfl
  refine va_putF (D := (dC, dI)) (ci := 5) (v := .ref q3) (ty := .array .int) (C := RX5) (T := TX5) (N := 16) hx hb hts hi5 tyX5 tyX5_ok nmX5 hown hK hP hD hS 0 rfl rfl 12 (by decide) (hts (.fieldLink RX5 25 "CrateHelpers$Tree" "values" "[I") (by decide +kernel)) (fun _ h9 => h9) rfl hin rfl (by decide +kernel) rfl rfl (Nat.le_of_ble_eq_true rfl) dX5_init_33 (fun H locs hP hD hS => ?_)
  have hP : va_P (dC, dI) vwCl [(h0, .inr (5, [.null, .null, .null, .null, .null, .null, .null, .null, .ref q1, .int 0, .int 0, .int 0, .ref q3, .null, .null, .int 0]))] H := hP
  have hD : va_D A [(h0, .inr (5, [.null, .null, .null, .null, .null, .null, .null, .null, .ref q1, .int 0, .int 0, .int 0, .ref q3, .null, .null, .int 0]))] := hD
  refine lv_aload_n hx hb dX5_init_36 rfl (lv_at hl 0 rfl) ?_
  refine va_new (ci := 0) (fs := [.int 0, .int 0, .int 0]) (C := RX0) (T := TX0) (N := 3) hx hb hts hi0 tyX0 tyX0_ok hown (hts (.classLink RX5 28 RX0) (by decide +kernel)) (hts (.instantiable RX0 3) (by decide +kernel)) (hts (.initialized RX0) (by decide +kernel)) hK hP hD hS hA rfl (by decide +kernel) (Nat.le_of_ble_eq_true rfl) (Nat.le_of_ble_eq_true rfl) dX5_init_37 (fun q5 H hP hD hS => ?_)
  have hP : va_P (dC, dI) vwCl [(h0, .inr (5, [.null, .null, .null, .null, .null, .null, .null, .null, .ref q1, .int 0, .int 0, .int 0, .ref q3, .null, .null, .int 0])), (q5, .inr (0, [.int 0, .int 0, .int 0]))] H := hP
  have hD : va_D A [(h0, .inr (5, [.null, .null, .null, .null, .null, .null, .null, .null, .ref q1, .int 0, .int 0, .int 0, .ref q3, .null, .null, .int 0])), (q5, .inr (0, [.int 0, .int 0, .int 0]))] := hD
  refine W.widen (k := 3) (n := 259) (Nat.le_of_ble_eq_true rfl) (Nat.le_of_ble_eq_true rfl) ?_
  refine lv_dup hx hb dX5_init_40 rfl ?_
  have hPc := hP.sub (ws' := [(q5, .inr (0, [.int 0, .int 0, .int 0]))]) [1] rfl
  have hDc := hD.sub (ws' := [(q5, .inr (0, [.int 0, .int 0, .int 0]))]) [1] (by decide) rfl
  have hKc := hK.sub (tys' := []) [] rfl
  have hFc := va_free (wc := [(q5, .inr (0, [.int 0, .int 0, .int 0]))]) hD hS hA [1] rfl
  refine va_callv (va_runIN (As := []) (rest := [.ref q5, .ref h0]) ⟨hx, hb, hml, hown, hts⟩ (c_X0_init l dC dI H.size q5) (⟨va_cnB 0 hts gX5_init_X0_init_n30 rfl rfl rfl hN.2.2.2.1 (hts (.initialized RX0) (by decide +kernel)) (by decide +kernel) ⟨Nat.le_of_ble_eq_true rfl, Nat.le_of_ble_eq_true rfl⟩, rfl, hts (.instanceMethod yX0_init) (by decide +kernel)⟩) ⟨fun a U g mk q => by obtain ⟨q0, q1, qP, qK, qD⟩ := q; exact ⟨q0, q1, qP, va_K.moved (u := U) (U := U.calling g mk a) (Vm.Alike.refl U.vm) qK, qD⟩, fun U hU hW => ⟨rfl, by rw [hU], by rw [hU]; exact hPc, va_K.moved hW.alike hKc, hDc.weaken (fun _ _ _ _ => trivial)⟩⟩ rfl rfl hl.1 rfl (lv_room (Nat.le_of_ble_eq_true rfl)) dX5_init_41 ⟨Nat.le_of_ble_eq_true rfl, Nat.le_of_ble_eq_true rfl⟩) hS (fun q _ h => hFc q h) hFc (fun u7 t H1 locs ht hvm hw hB hz1 hk1 hS => ?_)
  obtain ⟨hP1, hK1, hD1⟩ := hB
  rw [ht] at hP1
  have hK1 := va_K.moved hvm.symm hK1
  try dsimp only at hw
  obtain ⟨hP, hD⟩ := va_join (wr := [(h0, .inr (5, [.null, .null, .null, .null, .null, .null, .null, .null, .ref q1, .int 0, .int 0, .int 0, .ref q3, .null, .null, .int 0]))]) (w1 := [(q5, .inr (0, [.int 0, .int (-9), .int (-1000000)]))]) hP hD [1] [0] rfl rfl (by decide) (by decide) hk1 hFc hP1 hD1
  have hK := (hK.sub (tys' := []) [] rfl).app hK1
  generalize H1 = H at hP hS ⊢
  have hP : va_P (dC, dI) vwCl [(h0, .inr (5, [.null, .null, .null, .null, .null, .null, .null, .null, .ref q1, .int 0, .int 0, .int 0, .ref q3, .null, .null, .int 0])), (q5, .inr (0, [.int 0, .int (-9), .int (-1000000)]))] H := hP
  have hD : va_D A [(h0, .inr (5, [.null, .null, .null, .null, .null, .null, .null, .null, .ref q1, .int 0, .int 0, .int 0, .ref q3, .null, .null, .int 0])), (q5, .inr (0, [.int 0, .int (-9), .int (-1000000)]))] := hD
  have hK : va_K (dC, dI) vwCl [] s := hK
  have hP := hP.sub (ws' := [(h0, .inr (5, [.null, .null, .null, .null, .null, .null, .null, .null, .ref q1, .int 0, .int 0, .int 0, .ref q3, .null, .null, .int 0]))]) [0] rfl
  have hD := hD.sub (ws' := [(h0, .inr (5, [.null, .null, .null, .null, .null, .null, .null, .null, .ref q1, .int 0, .int 0, .int 0, .ref q3, .null, .null, .int 0]))]) [0] (by decide) rfl
  refine va_putF (D := (dC, dI)) (ci := 5) (v := .ref q5) (ty := .object "CrateHelpers$Judge") (C := RX5) (T := TX5) (N := 16) hx hb hts hi5 tyX5 tyX5_ok nmX5 hown hK hP hD hS 0 rfl rfl 13 (by decide) (hts (.fieldLink RX5 31 "CrateHelpers$Tree" "judge" "LCrateHelpers$Judge;") (by decide +kernel)) (fun _ h9 => h9) rfl hin rfl (by decide +kernel) rfl rfl (Nat.le_of_ble_eq_true rfl) dX5_init_44 (fun H locs hP hD hS => ?_)
  have hP : va_P (dC, dI) vwCl [(h0, .inr (5, [.null, .null, .null, .null, .null, .null, .null, .null, .ref q1, .int 0, .int 0, .int 0, .ref q3, .ref q5, .null, .int 0]))] H := hP
  have hD : va_D A [(h0, .inr (5, [.null, .null, .null, .null, .null, .null, .null, .null, .ref q1, .int 0, .int 0, .int 0, .ref q3, .ref q5, .null, .int 0]))] := hD
  refine lv_aload_n hx hb dX5_init_47 rfl (lv_at hl 0 rfl) ?_
  refine lv_iconst (v := 1) hx hb dX5_init_48 (by decide) ?_
  refine va_put (D := (dC, dI)) (ci := 5) (v := .int 1) (ty := .boolean) (C := RX5) (T := TX5) (N := 16) hx hb hts hi5 tyX5 tyX5_ok nmX5 hown hK hP hD hS 0 rfl rfl 15 (by decide) (hts (.fieldLink RX5 35 "CrateHelpers$Tree" "mindsTwins" "Z") (by decide +kernel)) (fun _ h9 => h9) rfl (by decide +kernel) rfl rfl (Nat.le_of_ble_eq_true rfl) dX5_init_49 (fun H locs hP hD hS => ?_)
  have hP : va_P (dC, dI) vwCl [(h0, .inr (5, [.null, .null, .null, .null, .null, .null, .null, .null, .ref q1, .int 0, .int 0, .int 0, .ref q3, .ref q5, .null, .int 1]))] H := hP
  have hD : va_D A [(h0, .inr (5, [.null, .null, .null, .null, .null, .null, .null, .null, .ref q1, .int 0, .int 0, .int 0, .ref q3, .ref q5, .null, .int 1]))] := hD
  refine lv_iconst (v := 1) hx hb dX5_init_52 (by decide) ?_
  refine lv_iconst (v := 0) hx hb dX5_init_53 (by decide) ?_
  refine lv_iload_n hx hb dX5_init_54 rfl (lv_at hl 2 rfl) ?_
  refine va_mmax hx hb (by rw [hml]; exact hl.1.symm) hown (hts (.methodLink RX5 39 Lib.Math.max.name) (by decide +kernel)) (hts (.static Lib.Math.max.name) (by decide +kernel)) (hts (.initialized "java/lang/Math") (by decide +kernel)) (hts (.code Lib.Math.max.name Lib.Math.max.code 2 (some .int)) (List.mem_of_getElem? (i := 18) rfl)) (Nat.le_of_ble_eq_true rfl) (Nat.le_of_ble_eq_true rfl) (Nat.le_of_ble_eq_true rfl) (Nat.le_of_ble_eq_true rfl) dX5_init_55 ?_
  refine lv_topi (fun z8 ez8 => ?_)
  obtain rfl : z8 = 285 := ez8.trans (by decide)
  refine lv_bipush (v := 6) hx hb dX5_init_58 (by decide) ?_
  refine lv_imul hx hb dX5_init_60 ?_
  refine lv_topi (fun z9 ez9 => ?_)
  obtain rfl : z9 = 1710 := ez9.trans (by decide)
  refine lv_iadd hx hb dX5_init_61 ?_
  refine lv_topi (fun z10 ez10 => ?_)
  obtain rfl : z10 = 1711 := ez10.trans (by decide)
  refine lv_istore_n (lv' := [(3, .int 1711), (0, .ref h0), (1, .ref p0), (2, .int 285)]) hx hb dX5_init_62 rfl hl (by decide) rfl (fun ls hl => ?_)
  refine lv_aload_n hx hb dX5_init_63 rfl (lv_at hl 1 rfl) ?_
  refine lv_aload_n hx hb dX5_init_64 rfl (lv_at hl 2 rfl) ?_
  refine va_put (D := (dC, dI)) (ci := 5) (v := .ref p0) (ty := .object "CrateHelpers$Problem") (C := RX5) (T := TX5) (N := 16) hx hb hts hi5 tyX5 tyX5_ok nmX5 hown hK hP hD hS 0 rfl rfl 14 (by decide) (hts (.fieldLink RX5 45 "CrateHelpers$Tree" "problem" "LCrateHelpers$Problem;") (by decide +kernel)) (fun _ h9 => h9) rfl (by decide +kernel) rfl rfl (Nat.le_of_ble_eq_true rfl) dX5_init_65 (fun H locs hP hD hS => ?_)
  have hP : va_P (dC, dI) vwCl [(h0, .inr (5, [.null, .null, .null, .null, .null, .null, .null, .null, .ref q1, .int 0, .int 0, .int 0, .ref q3, .ref q5, .ref p0, .int 1]))] H := hP
  have hD : va_D A [(h0, .inr (5, [.null, .null, .null, .null, .null, .null, .null, .null, .ref q1, .int 0, .int 0, .int 0, .ref q3, .ref q5, .ref p0, .int 1]))] := hD
  refine lv_aload_n hx hb dX5_init_68 rfl (lv_at hl 1 rfl) ?_
  refine lv_iload_n hx hb dX5_init_69 rfl (lv_at hl 0 rfl) ?_
  refine va_newa (atype := .long) (ty := .long) (a0 := (1711, .inr (.inl (fun _ => 0)))) (N' := 1711) hx hb (hts (.arrayClass .long) (by decide +kernel)) rfl hK hP hD hS hA (fun _ => rfl) (by decide) (by decide) (by decide) (Nat.le_of_ble_eq_true rfl) (Nat.le_of_ble_eq_true rfl) dX5_init_70 (fun q11 cA12 H hK hP hD hS => ?_)
  have hP : va_P (dC, dI) vwCl [(h0, .inr (5, [.null, .null, .null, .null, .null, .null, .null, .null, .ref q1, .int 0, .int 0, .int 0, .ref q3, .ref q5, .ref p0, .int 1])), (q11, .inl (cA12, 1711, .inr (.inl (fun _ => 0))))] H := hP
  have hD : va_D A [(h0, .inr (5, [.null, .null, .null, .null, .null, .null, .null, .null, .ref q1, .int 0, .int 0, .int 0, .ref q3, .ref q5, .ref p0, .int 1])), (q11, .inl (cA12, 1711, .inr (.inl (fun _ => 0))))] := hD
  have hK : va_K (dC, dI) vwCl [(cA12, .long)] s := hK
  refine W.widen (k := 4) (n := 1970) (Nat.le_of_ble_eq_true rfl) (Nat.le_of_ble_eq_true rfl) ?_
  have hP := hP.sub (ws' := [(h0, .inr (5, [.null, .null, .null, .null, .null, .null, .null, .null, .ref q1, .int 0, .int 0, .int 0, .ref q3, .ref q5, .ref p0, .int 1]))]) [0] rfl
  have hD := hD.sub (ws' := [(h0, .inr (5, [.null, .null, .null, .null, .null, .null, .null, .null, .ref q1, .int 0, .int 0, .int 0, .ref q3, .ref q5, .ref p0, .int 1]))]) [0] (by decide) rfl
  have hK := hK.sub (tys' := []) [] rfl
  refine va_putF (D := (dC, dI)) (ci := 5) (v := .ref q11) (ty := .array .long) (C := RX5) (T := TX5) (N := 16) hx hb hts hi5 tyX5 tyX5_ok nmX5 hown hK hP hD hS 0 rfl rfl 0 (by decide) (hts (.fieldLink RX5 49 "CrateHelpers$Tree" "place" "[J") (by decide +kernel)) (fun _ h9 => h9) rfl hin rfl (by decide +kernel) rfl rfl (Nat.le_of_ble_eq_true rfl) dX5_init_72 (fun H locs hP hD hS => ?_)
  have hP : va_P (dC, dI) vwCl [(h0, .inr (5, [.ref q11, .null, .null, .null, .null, .null, .null, .null, .ref q1, .int 0, .int 0, .int 0, .ref q3, .ref q5, .ref p0, .int 1]))] H := hP
  have hD : va_D A [(h0, .inr (5, [.ref q11, .null, .null, .null, .null, .null, .null, .null, .ref q1, .int 0, .int 0, .int 0, .ref q3, .ref q5, .ref p0, .int 1]))] := hD
  refine lv_aload_n hx hb dX5_init_75 rfl (lv_at hl 1 rfl) ?_
  refine lv_iload_n hx hb dX5_init_76 rfl (lv_at hl 0 rfl) ?_
  refine va_newa (atype := .byte) (ty := .byte) (a0 := (1711, .inl (fun _ => 0))) (N' := 1711) hx hb (hts (.arrayClass .byte) (by decide +kernel)) rfl hK hP hD hS hA (fun _ => rfl) (by decide) (by decide) (by decide) (Nat.le_of_ble_eq_true rfl) (Nat.le_of_ble_eq_true rfl) dX5_init_77 (fun q13 cA14 H hK hP hD hS => ?_)
  have hP : va_P (dC, dI) vwCl [(h0, .inr (5, [.ref q11, .null, .null, .null, .null, .null, .null, .null, .ref q1, .int 0, .int 0, .int 0, .ref q3, .ref q5, .ref p0, .int 1])), (q13, .inl (cA14, 1711, .inl (fun _ => 0)))] H := hP
  have hD : va_D A [(h0, .inr (5, [.ref q11, .null, .null, .null, .null, .null, .null, .null, .ref q1, .int 0, .int 0, .int 0, .ref q3, .ref q5, .ref p0, .int 1])), (q13, .inl (cA14, 1711, .inl (fun _ => 0)))] := hD
  have hK : va_K (dC, dI) vwCl [(cA14, .byte)] s := hK
  refine W.widen (k := 5) (n := 3681) (Nat.le_of_ble_eq_true rfl) (Nat.le_of_ble_eq_true rfl) ?_
  have hP := hP.sub (ws' := [(h0, .inr (5, [.ref q11, .null, .null, .null, .null, .null, .null, .null, .ref q1, .int 0, .int 0, .int 0, .ref q3, .ref q5, .ref p0, .int 1]))]) [0] rfl
  have hD := hD.sub (ws' := [(h0, .inr (5, [.ref q11, .null, .null, .null, .null, .null, .null, .null, .ref q1, .int 0, .int 0, .int 0, .ref q3, .ref q5, .ref p0, .int 1]))]) [0] (by decide) rfl
  have hK := hK.sub (tys' := []) [] rfl
  refine va_putF (D := (dC, dI)) (ci := 5) (v := .ref q13) (ty := .array .byte) (C := RX5) (T := TX5) (N := 16) hx hb hts hi5 tyX5 tyX5_ok nmX5 hown hK hP hD hS 0 rfl rfl 1 (by decide) (hts (.fieldLink RX5 53 "CrateHelpers$Tree" "depth" "[B") (by decide +kernel)) (fun _ h9 => h9) rfl hin rfl (by decide +kernel) rfl rfl (Nat.le_of_ble_eq_true rfl) dX5_init_79 (fun H locs hP hD hS => ?_)
  have hP : va_P (dC, dI) vwCl [(h0, .inr (5, [.ref q11, .ref q13, .null, .null, .null, .null, .null, .null, .ref q1, .int 0, .int 0, .int 0, .ref q3, .ref q5, .ref p0, .int 1]))] H := hP
  have hD : va_D A [(h0, .inr (5, [.ref q11, .ref q13, .null, .null, .null, .null, .null, .null, .ref q1, .int 0, .int 0, .int 0, .ref q3, .ref q5, .ref p0, .int 1]))] := hD
  refine lv_aload_n hx hb dX5_init_82 rfl (lv_at hl 1 rfl) ?_
  refine lv_iload_n hx hb dX5_init_83 rfl (lv_at hl 0 rfl) ?_
  refine va_newa (atype := .byte) (ty := .byte) (a0 := (1711, .inl (fun _ => 0))) (N' := 1711) hx hb (hts (.arrayClass .byte) (by decide +kernel)) rfl hK hP hD hS hA (fun _ => rfl) (by decide) (by decide) (by decide) (Nat.le_of_ble_eq_true rfl) (Nat.le_of_ble_eq_true rfl) dX5_init_84 (fun q15 cA16 H hK hP hD hS => ?_)
  have hP : va_P (dC, dI) vwCl [(h0, .inr (5, [.ref q11, .ref q13, .null, .null, .null, .null, .null, .null, .ref q1, .int 0, .int 0, .int 0, .ref q3, .ref q5, .ref p0, .int 1])), (q15, .inl (cA16, 1711, .inl (fun _ => 0)))] H := hP
  have hD : va_D A [(h0, .inr (5, [.ref q11, .ref q13, .null, .null, .null, .null, .null, .null, .ref q1, .int 0, .int 0, .int 0, .ref q3, .ref q5, .ref p0, .int 1])), (q15, .inl (cA16, 1711, .inl (fun _ => 0)))] := hD
  have hK : va_K (dC, dI) vwCl [(cA16, .byte)] s := hK
  refine W.widen (k := 6) (n := 5392) (Nat.le_of_ble_eq_true rfl) (Nat.le_of_ble_eq_true rfl) ?_
  have hP := hP.sub (ws' := [(h0, .inr (5, [.ref q11, .ref q13, .null, .null, .null, .null, .null, .null, .ref q1, .int 0, .int 0, .int 0, .ref q3, .ref q5, .ref p0, .int 1]))]) [0] rfl
  have hD := hD.sub (ws' := [(h0, .inr (5, [.ref q11, .ref q13, .null, .null, .null, .null, .null, .null, .ref q1, .int 0, .int 0, .int 0, .ref q3, .ref q5, .ref p0, .int 1]))]) [0] (by decide) rfl
  have hK := hK.sub (tys' := []) [] rfl
  refine va_putF (D := (dC, dI)) (ci := 5) (v := .ref q15) (ty := .array .byte) (C := RX5) (T := TX5) (N := 16) hx hb hts hi5 tyX5 tyX5_ok nmX5 hown hK hP hD hS 0 rfl rfl 2 (by decide) (hts (.fieldLink RX5 57 "CrateHelpers$Tree" "what" "[B") (by decide +kernel)) (fun _ h9 => h9) rfl hin rfl (by decide +kernel) rfl rfl (Nat.le_of_ble_eq_true rfl) dX5_init_86 (fun H locs hP hD hS => ?_)
  have hP : va_P (dC, dI) vwCl [(h0, .inr (5, [.ref q11, .ref q13, .ref q15, .null, .null, .null, .null, .null, .ref q1, .int 0, .int 0, .int 0, .ref q3, .ref q5, .ref p0, .int 1]))] H := hP
  have hD : va_D A [(h0, .inr (5, [.ref q11, .ref q13, .ref q15, .null, .null, .null, .null, .null, .ref q1, .int 0, .int 0, .int 0, .ref q3, .ref q5, .ref p0, .int 1]))] := hD
  refine lv_aload_n hx hb dX5_init_89 rfl (lv_at hl 1 rfl) ?_
  refine lv_iload_n hx hb dX5_init_90 rfl (lv_at hl 0 rfl) ?_
  refine va_newa (atype := .byte) (ty := .byte) (a0 := (1711, .inl (fun _ => 0))) (N' := 1711) hx hb (hts (.arrayClass .byte) (by decide +kernel)) rfl hK hP hD hS hA (fun _ => rfl) (by decide) (by decide) (by decide) (Nat.le_of_ble_eq_true rfl) (Nat.le_of_ble_eq_true rfl) dX5_init_91 (fun q17 cA18 H hK hP hD hS => ?_)
  have hP : va_P (dC, dI) vwCl [(h0, .inr (5, [.ref q11, .ref q13, .ref q15, .null, .null, .null, .null, .null, .ref q1, .int 0, .int 0, .int 0, .ref q3, .ref q5, .ref p0, .int 1])), (q17, .inl (cA18, 1711, .inl (fun _ => 0)))] H := hP
  have hD : va_D A [(h0, .inr (5, [.ref q11, .ref q13, .ref q15, .null, .null, .null, .null, .null, .ref q1, .int 0, .int 0, .int 0, .ref q3, .ref q5, .ref p0, .int 1])), (q17, .inl (cA18, 1711, .inl (fun _ => 0)))] := hD
  have hK : va_K (dC, dI) vwCl [(cA18, .byte)] s := hK
  refine W.widen (k := 7) (n := 7103) (Nat.le_of_ble_eq_true rfl) (Nat.le_of_ble_eq_true rfl) ?_
  have hP := hP.sub (ws' := [(h0, .inr (5, [.ref q11, .ref q13, .ref q15, .null, .null, .null, .null, .null, .ref q1, .int 0, .int 0, .int 0, .ref q3, .ref q5, .ref p0, .int 1]))]) [0] rfl
  have hD := hD.sub (ws' := [(h0, .inr (5, [.ref q11, .ref q13, .ref q15, .null, .null, .null, .null, .null, .ref q1, .int 0, .int 0, .int 0, .ref q3, .ref q5, .ref p0, .int 1]))]) [0] (by decide) rfl
  have hK := hK.sub (tys' := []) [] rfl
  refine va_putF (D := (dC, dI)) (ci := 5) (v := .ref q17) (ty := .array .byte) (C := RX5) (T := TX5) (N := 16) hx hb hts hi5 tyX5 tyX5_ok nmX5 hown hK hP hD hS 0 rfl rfl 3 (by decide) (hts (.fieldLink RX5 60 "CrateHelpers$Tree" "why" "[B") (by decide +kernel)) (fun _ h9 => h9) rfl hin rfl (by decide +kernel) rfl rfl (Nat.le_of_ble_eq_true rfl) dX5_init_93 (fun H locs hP hD hS => ?_)
  have hP : va_P (dC, dI) vwCl [(h0, .inr (5, [.ref q11, .ref q13, .ref q15, .ref q17, .null, .null, .null, .null, .ref q1, .int 0, .int 0, .int 0, .ref q3, .ref q5, .ref p0, .int 1]))] H := hP
  have hD : va_D A [(h0, .inr (5, [.ref q11, .ref q13, .ref q15, .ref q17, .null, .null, .null, .null, .ref q1, .int 0, .int 0, .int 0, .ref q3, .ref q5, .ref p0, .int 1]))] := hD
  refine lv_aload_n hx hb dX5_init_96 rfl (lv_at hl 1 rfl) ?_
  refine lv_iload_n hx hb dX5_init_97 rfl (lv_at hl 0 rfl) ?_
  refine va_newa (atype := .byte) (ty := .byte) (a0 := (1711, .inl (fun _ => 0))) (N' := 1711) hx hb (hts (.arrayClass .byte) (by decide +kernel)) rfl hK hP hD hS hA (fun _ => rfl) (by decide) (by decide) (by decide) (Nat.le_of_ble_eq_true rfl) (Nat.le_of_ble_eq_true rfl) dX5_init_98 (fun q19 cA20 H hK hP hD hS => ?_)
  have hP : va_P (dC, dI) vwCl [(h0, .inr (5, [.ref q11, .ref q13, .ref q15, .ref q17, .null, .null, .null, .null, .ref q1, .int 0, .int 0, .int 0, .ref q3, .ref q5, .ref p0, .int 1])), (q19, .inl (cA20, 1711, .inl (fun _ => 0)))] H := hP
  have hD : va_D A [(h0, .inr (5, [.ref q11, .ref q13, .ref q15, .ref q17, .null, .null, .null, .null, .ref q1, .int 0, .int 0, .int 0, .ref q3, .ref q5, .ref p0, .int 1])), (q19, .inl (cA20, 1711, .inl (fun _ => 0)))] := hD
  have hK : va_K (dC, dI) vwCl [(cA20, .byte)] s := hK
  refine W.widen (k := 8) (n := 8814) (Nat.le_of_ble_eq_true rfl) (Nat.le_of_ble_eq_true rfl) ?_
  have hP := hP.sub (ws' := [(h0, .inr (5, [.ref q11, .ref q13, .ref q15, .ref q17, .null, .null, .null, .null, .ref q1, .int 0, .int 0, .int 0, .ref q3, .ref q5, .ref p0, .int 1]))]) [0] rfl
  have hD := hD.sub (ws' := [(h0, .inr (5, [.ref q11, .ref q13, .ref q15, .ref q17, .null, .null, .null, .null, .ref q1, .int 0, .int 0, .int 0, .ref q3, .ref q5, .ref p0, .int 1]))]) [0] (by decide) rfl
  have hK := hK.sub (tys' := []) [] rfl
  refine va_putF (D := (dC, dI)) (ci := 5) (v := .ref q19) (ty := .array .byte) (C := RX5) (T := TX5) (N := 16) hx hb hts hi5 tyX5 tyX5_ok nmX5 hown hK hP hD hS 0 rfl rfl 4 (by decide) (hts (.fieldLink RX5 63 "CrateHelpers$Tree" "stage" "[B") (by decide +kernel)) (fun _ h9 => h9) rfl hin rfl (by decide +kernel) rfl rfl (Nat.le_of_ble_eq_true rfl) dX5_init_100 (fun H locs hP hD hS => ?_)
  have hP : va_P (dC, dI) vwCl [(h0, .inr (5, [.ref q11, .ref q13, .ref q15, .ref q17, .ref q19, .null, .null, .null, .ref q1, .int 0, .int 0, .int 0, .ref q3, .ref q5, .ref p0, .int 1]))] H := hP
  have hD : va_D A [(h0, .inr (5, [.ref q11, .ref q13, .ref q15, .ref q17, .ref q19, .null, .null, .null, .ref q1, .int 0, .int 0, .int 0, .ref q3, .ref q5, .ref p0, .int 1]))] := hD
  refine lv_aload_n hx hb dX5_init_103 rfl (lv_at hl 1 rfl) ?_
  refine lv_iload_n hx hb dX5_init_104 rfl (lv_at hl 0 rfl) ?_
  refine va_newa (atype := .byte) (ty := .byte) (a0 := (1711, .inl (fun _ => 0))) (N' := 1711) hx hb (hts (.arrayClass .byte) (by decide +kernel)) rfl hK hP hD hS hA (fun _ => rfl) (by decide) (by decide) (by decide) (Nat.le_of_ble_eq_true rfl) (Nat.le_of_ble_eq_true rfl) dX5_init_105 (fun q21 cA22 H hK hP hD hS => ?_)
  have hP : va_P (dC, dI) vwCl [(h0, .inr (5, [.ref q11, .ref q13, .ref q15, .ref q17, .ref q19, .null, .null, .null, .ref q1, .int 0, .int 0, .int 0, .ref q3, .ref q5, .ref p0, .int 1])), (q21, .inl (cA22, 1711, .inl (fun _ => 0)))] H := hP
  have hD : va_D A [(h0, .inr (5, [.ref q11, .ref q13, .ref q15, .ref q17, .ref q19, .null, .null, .null, .ref q1, .int 0, .int 0, .int 0, .ref q3, .ref q5, .ref p0, .int 1])), (q21, .inl (cA22, 1711, .inl (fun _ => 0)))] := hD
  have hK : va_K (dC, dI) vwCl [(cA22, .byte)] s := hK
  refine W.widen (k := 9) (n := 10525) (Nat.le_of_ble_eq_true rfl) (Nat.le_of_ble_eq_true rfl) ?_
  have hP := hP.sub (ws' := [(h0, .inr (5, [.ref q11, .ref q13, .ref q15, .ref q17, .ref q19, .null, .null, .null, .ref q1, .int 0, .int 0, .int 0, .ref q3, .ref q5, .ref p0, .int 1]))]) [0] rfl
  have hD := hD.sub (ws' := [(h0, .inr (5, [.ref q11, .ref q13, .ref q15, .ref q17, .ref q19, .null, .null, .null, .ref q1, .int 0, .int 0, .int 0, .ref q3, .ref q5, .ref p0, .int 1]))]) [0] (by decide) rfl
  have hK := hK.sub (tys' := []) [] rfl
  refine va_putF (D := (dC, dI)) (ci := 5) (v := .ref q21) (ty := .array .byte) (C := RX5) (T := TX5) (N := 16) hx hb hts hi5 tyX5 tyX5_ok nmX5 hown hK hP hD hS 0 rfl rfl 5 (by decide) (hts (.fieldLink RX5 66 "CrateHelpers$Tree" "doneBy" "[B") (by decide +kernel)) (fun _ h9 => h9) rfl hin rfl (by decide +kernel) rfl rfl (Nat.le_of_ble_eq_true rfl) dX5_init_107 (fun H locs hP hD hS => ?_)
  have hP : va_P (dC, dI) vwCl [(h0, .inr (5, [.ref q11, .ref q13, .ref q15, .ref q17, .ref q19, .ref q21, .null, .null, .ref q1, .int 0, .int 0, .int 0, .ref q3, .ref q5, .ref p0, .int 1]))] H := hP
  have hD : va_D A [(h0, .inr (5, [.ref q11, .ref q13, .ref q15, .ref q17, .ref q19, .ref q21, .null, .null, .ref q1, .int 0, .int 0, .int 0, .ref q3, .ref q5, .ref p0, .int 1]))] := hD
  refine lv_aload_n hx hb dX5_init_110 rfl (lv_at hl 1 rfl) ?_
  refine lv_iload_n hx hb dX5_init_111 rfl (lv_at hl 0 rfl) ?_
  refine va_newa (atype := .short) (ty := .short) (a0 := (1711, .inl (fun _ => 0))) (N' := 1711) hx hb (hts (.arrayClass .short) (by decide +kernel)) rfl hK hP hD hS hA (fun _ => rfl) (by decide) (by decide) (by decide) (Nat.le_of_ble_eq_true rfl) (Nat.le_of_ble_eq_true rfl) dX5_init_112 (fun q23 cA24 H hK hP hD hS => ?_)
  have hP : va_P (dC, dI) vwCl [(h0, .inr (5, [.ref q11, .ref q13, .ref q15, .ref q17, .ref q19, .ref q21, .null, .null, .ref q1, .int 0, .int 0, .int 0, .ref q3, .ref q5, .ref p0, .int 1])), (q23, .inl (cA24, 1711, .inl (fun _ => 0)))] H := hP
  have hD : va_D A [(h0, .inr (5, [.ref q11, .ref q13, .ref q15, .ref q17, .ref q19, .ref q21, .null, .null, .ref q1, .int 0, .int 0, .int 0, .ref q3, .ref q5, .ref p0, .int 1])), (q23, .inl (cA24, 1711, .inl (fun _ => 0)))] := hD
  have hK : va_K (dC, dI) vwCl [(cA24, .short)] s := hK
  refine W.widen (k := 10) (n := 12236) (Nat.le_of_ble_eq_true rfl) (Nat.le_of_ble_eq_true rfl) ?_
  have hP := hP.sub (ws' := [(h0, .inr (5, [.ref q11, .ref q13, .ref q15, .ref q17, .ref q19, .ref q21, .null, .null, .ref q1, .int 0, .int 0, .int 0, .ref q3, .ref q5, .ref p0, .int 1]))]) [0] rfl
  have hD := hD.sub (ws' := [(h0, .inr (5, [.ref q11, .ref q13, .ref q15, .ref q17, .ref q19, .ref q21, .null, .null, .ref q1, .int 0, .int 0, .int 0, .ref q3, .ref q5, .ref p0, .int 1]))]) [0] (by decide) rfl
  have hK := hK.sub (tys' := []) [] rfl
  refine va_putF (D := (dC, dI)) (ci := 5) (v := .ref q23) (ty := .array .short) (C := RX5) (T := TX5) (N := 16) hx hb hts hi5 tyX5 tyX5_ok nmX5 hown hK hP hD hS 0 rfl rfl 6 (by decide) (hts (.fieldLink RX5 69 "CrateHelpers$Tree" "firstBelow" "[S") (by decide +kernel)) (fun _ h9 => h9) rfl hin rfl (by decide +kernel) rfl rfl (Nat.le_of_ble_eq_true rfl) dX5_init_114 (fun H locs hP hD hS => ?_)
  have hP : va_P (dC, dI) vwCl [(h0, .inr (5, [.ref q11, .ref q13, .ref q15, .ref q17, .ref q19, .ref q21, .ref q23, .null, .ref q1, .int 0, .int 0, .int 0, .ref q3, .ref q5, .ref p0, .int 1]))] H := hP
  have hD : va_D A [(h0, .inr (5, [.ref q11, .ref q13, .ref q15, .ref q17, .ref q19, .ref q21, .ref q23, .null, .ref q1, .int 0, .int 0, .int 0, .ref q3, .ref q5, .ref p0, .int 1]))] := hD
  refine lv_aload_n hx hb dX5_init_117 rfl (lv_at hl 1 rfl) ?_
  refine lv_iload_n hx hb dX5_init_118 rfl (lv_at hl 0 rfl) ?_
  refine va_newa (atype := .boolean) (ty := .boolean) (a0 := (1711, .inl (fun _ => 0))) (N' := 1711) hx hb (hts (.arrayClass .boolean) (by decide +kernel)) rfl hK hP hD hS hA (fun _ => rfl) (by decide) (by decide) (by decide) (Nat.le_of_ble_eq_true rfl) (Nat.le_of_ble_eq_true rfl) dX5_init_119 (fun q25 cA26 H hK hP hD hS => ?_)
  have hP : va_P (dC, dI) vwCl [(h0, .inr (5, [.ref q11, .ref q13, .ref q15, .ref q17, .ref q19, .ref q21, .ref q23, .null, .ref q1, .int 0, .int 0, .int 0, .ref q3, .ref q5, .ref p0, .int 1])), (q25, .inl (cA26, 1711, .inl (fun _ => 0)))] H := hP
  have hD : va_D A [(h0, .inr (5, [.ref q11, .ref q13, .ref q15, .ref q17, .ref q19, .ref q21, .ref q23, .null, .ref q1, .int 0, .int 0, .int 0, .ref q3, .ref q5, .ref p0, .int 1])), (q25, .inl (cA26, 1711, .inl (fun _ => 0)))] := hD
  have hK : va_K (dC, dI) vwCl [(cA26, .boolean)] s := hK
  refine W.widen (k := 11) (n := 13947) (Nat.le_of_ble_eq_true rfl) (Nat.le_of_ble_eq_true rfl) ?_
  have hP := hP.sub (ws' := [(h0, .inr (5, [.ref q11, .ref q13, .ref q15, .ref q17, .ref q19, .ref q21, .ref q23, .null, .ref q1, .int 0, .int 0, .int 0, .ref q3, .ref q5, .ref p0, .int 1]))]) [0] rfl
  have hD := hD.sub (ws' := [(h0, .inr (5, [.ref q11, .ref q13, .ref q15, .ref q17, .ref q19, .ref q21, .ref q23, .null, .ref q1, .int 0, .int 0, .int 0, .ref q3, .ref q5, .ref p0, .int 1]))]) [0] (by decide) rfl
  have hK := hK.sub (tys' := []) [] rfl
  refine va_putF (D := (dC, dI)) (ci := 5) (v := .ref q25) (ty := .array .boolean) (C := RX5) (T := TX5) (N := 16) hx hb hts hi5 tyX5 tyX5_ok nmX5 hown hK hP hD hS 0 rfl rfl 7 (by decide) (hts (.fieldLink RX5 73 "CrateHelpers$Tree" "isReached" "[Z") (by decide +kernel)) (fun _ h9 => h9) rfl hin rfl (by decide +kernel) rfl rfl (Nat.le_of_ble_eq_true rfl) dX5_init_121 (fun H locs hP hD hS => ?_)
  have hP : va_P (dC, dI) vwCl [(h0, .inr (5, [.ref q11, .ref q13, .ref q15, .ref q17, .ref q19, .ref q21, .ref q23, .ref q25, .ref q1, .int 0, .int 0, .int 0, .ref q3, .ref q5, .ref p0, .int 1]))] H := hP
  have hD : va_D A [(h0, .inr (5, [.ref q11, .ref q13, .ref q15, .ref q17, .ref q19, .ref q21, .ref q23, .ref q25, .ref q1, .int 0, .int 0, .int 0, .ref q3, .ref q5, .ref p0, .int 1]))] := hD
  have hP9 := hP.sub (ws' := [(h0, .inr (5, [.ref q11, .ref q13, .ref q15, .ref q17, .ref q19, .ref q21, .ref q23, .ref q25, .ref q1, .int 0, .int 0, .int 0, .ref q3, .ref q5, .ref p0, .int 1]))]) [0] rfl
  have hD9 := hD.sub (ws' := [(h0, .inr (5, [.ref q11, .ref q13, .ref q15, .ref q17, .ref q19, .ref q21, .ref q23, .ref q25, .ref q1, .int 0, .int 0, .int 0, .ref q3, .ref q5, .ref p0, .int 1]))]) [0] (by decide) rfl
  have hK9 := hK.sub (tys' := []) [] rfl
  exact W.vret hx hb hr (fun t ht hW => ⟨⟨(), rfl, trivial, q11, q13, q15, q17, q19, q21, q23, q25, q1, q3, q5, by rw [ht]; exact hP9, va_K.moved hW.alike hK9, hD9⟩, hS.F ht⟩) hS.2.2 dX5_init_124
set_option maxHeartbeats 4000000 in
set_option maxRecDepth 100000 in
/-- Tree(any, 250): nothing known, done or taken -/
theorem c_X5_init_250 (l : Launch) (dC : Nat → ClassId) (dI : Nat → Nat → Nat) (sz : Nat) (h0 : Nat) (p0 : Nat) : Met l yX5_init wsX5_init ({ frames := 2, cells := 11, slots := 12267, locals := 60 }) (va_Pc [.ref h0, .ref p0, .int 250] (fun U => U.heap.size = sz ∧ va_P (dC, dI) vwCl [(h0, .inr (5, [.null, .null, .null, .null, .null, .null, .null, .null, .null, .int 0, .int 0, .int 0, .null, .null, .null, .int 0]))] U.heap ∧ va_K (dC, dI) vwCl [] U ∧ va_D (fun _ => True) [(h0, .inr (5, [.null, .null, .null, .null, .null, .null, .null, .null, .null, .int 0, .int 0, .int 0, .null, .null, .null, .int 0]))] ∧ nwX U)) (va_Qv (fun (_ : Unit) => True) (fun (_ : Unit) (t : State) => ∃ (a1 : Nat) (a2 : Nat) (a3 : Nat) (a4 : Nat) (a5 : Nat) (a6 : Nat) (a7 : Nat) (a8 : Nat) (a9 : Nat) (a10 : Nat) (a11 : Nat), va_P (dC, dI) vwCl [(h0, .inr (5, [.ref a1, .ref a2, .ref a3, .ref a4, .ref a5, .ref a6, .ref a7, .ref a8, .ref a9, .int 0, .int 0, .int 0, .ref a10, .ref a11, .ref p0, .int 1]))] t.heap ∧ va_K (dC, dI) vwCl [] t ∧ va_D (va_A [(h0, .inr (5, [.null, .null, .null, .null, .null, .null, .null, .null, .null, .int 0, .int 0, .int 0, .null, .null, .null, .int 0]))] sz) [(h0, .inr (5, [.ref a1, .ref a2, .ref a3, .ref a4, .ref a5, .ref a6, .ref a7, .ref a8, .ref a9, .int 0, .int 0, .int 0, .ref a10, .ref a11, .ref p0, .int 1]))]) (va_A [(h0, .inr (5, [.null, .null, .null, .null, .null, .null, .null, .null, .null, .int 0, .int 0, .int 0, .null, .null, .null, .int 0]))] sz)) 11 12267 (va_A [(h0, .inr (5, [.null, .null, .null, .null, .null, .null, .null, .null, .null, .int 0, .int 0, .int 0, .null, .null, .null, .int 0]))] sz) := by
  refine Met.ofW (cc := cX5_init) (maxL := 4) (ret := none) (by decide) rfl ?_
  intro p e s m args below meth c s₁ B hml hv
  obtain ⟨rfl, hsz, hP, hK, hD0, hN⟩ := hv
  have hx := B.exec
  have hb := B.bytes
  have hr := B.returns
  have hts := atoms_spec (ws := wsX5_init) B.pre
  have hown : s.vm.findClass RX5 = some m.cls := findClass_of_methodNamed B.named
  have hlocks := B.notSynchronized
  have hin : meth.name = "<init>" := (name_of_methodNamed B.named B.method).1
  have hi5 : ∀ w ∈ u_ws RX5 TX5 16, w ∈ wsX5_init := fun w h => List.mem_cons_of_mem _ (List.mem_append_left _ (List.mem_append_right _ h))
  have hi0 : ∀ w ∈ u_ws RX0 TX0 3, w ∈ wsX5_init := fun w h => List.mem_cons_of_mem _ (List.mem_append_right _ h)
  subst hsz
  have hD := hD0.self (sz := s.heap.size)
  generalize hAe : va_A [(h0, .inr (5, [.null, .null, .null, .null, .null, .null, .null, .null, .null, .int 0, .int 0, .int 0, .null, .null, .null, .int 0]))] s.heap.size = A at hD ⊢
  have hA : ∀ q : Nat, s.heap.size ≤ q → A q := fun q h => by rw [← hAe]; exact Or.inr h
  have hS : va_S A s.heap s.heap [] := va_S.rf
  have hP : va_P (dC, dI) vwCl [(h0, .inr (5, [.null, .null, .null, .null, .null, .null, .null, .null, .null, .int 0, .int 0, .int 0, .null, .null, .null, .int 0]))] s.heap := hP
  have hl := lv_entry ([.ref h0, .ref p0, .int 250]) (n := 4) (Nat.le_of_ble_eq_true rfl)
  rw [lg_entry_eq]
  generalize (lg_sl ([.ref h0, .ref p0, .int 250]) ++ List.replicate (4 - (lg_sl ([.ref h0, .ref p0, .int 250])).length) Slot.unset).toArray = ls at hl ⊢
  have hl : lv_has ls 4 [(0, .ref h0), (1, .ref p0), (2, .int 250)] := hl
  refine lv_aload_n hx hb dX5_init_0 rfl (lv_at hl 0 rfl) ?_
  refine W.objInit hx hb hown (hts (.methodLink RX5 5 objectInit) (by decide +kernel)) (hts (.instanceMethod objectInit) (by decide +kernel)) (hts _ (List.mem_of_getElem? (i := 3) rfl)) rfl (by rw [hml]; exact hl.1) rfl dX5_init_1 (Nat.le_of_ble_eq_true rfl) (Nat.le_of_ble_eq_true rfl) ?_
  refine W.eq (g2 := F0 m 4 ls []) rfl ?_
  refine lv_aload_n hx hb dX5_init_4 rfl (lv_at hl 0 rfl) ?_
  refine lv_sipush (v := 250) hx hb dX5_init_5 (by decide) ?_
  refine va_newa (atype := .int) (ty := .int) (a0 := (250, .inl (fun _ => 0))) (N' := 250) hx hb (hts (.arrayClass .int) (by decide +kernel)) rfl hK hP hD hS hA (fun _ => rfl) (by decide) (by decide) (by decide) (Nat.le_of_ble_eq_true rfl) (Nat.le_of_ble_eq_true rfl) dX5_init_8 (fun q1 cA2 H hK hP hD hS => ?_)
  have hP : va_P (dC, dI) vwCl [(h0, .inr (5, [.null, .null, .null, .null, .null, .null, .null, .null, .null, .int 0, .int 0, .int 0, .null, .null, .null, .int 0])), (q1, .inl (cA2, 250, .inl (fun _ => 0)))] H := hP
  have hD : va_D A [(h0, .inr (5, [.null, .null, .null, .null, .null, .null, .null, .null, .null, .int 0, .int 0, .int 0, .null, .null, .null, .int 0])), (q1, .inl (cA2, 250, .inl (fun _ => 0)))] := hD
  have hK : va_K (dC, dI) vwCl [(cA2, .int)] s := hK
  refine W.widen (k := 1) (n := 250) (Nat.le_of_ble_eq_true rfl) (Nat.le_of_ble_eq_true rfl) ?_
  have hP := hP.sub (ws' := [(h0, .inr (5, [.null, .null, .null, .null, .null, .null, .null, .null, .null, .int 0, .int 0, .int 0, .null, .null, .null, .int 0]))]) [0] rfl
  have hD := hD.sub (ws' := [(h0, .inr (5, [.null, .null, .null, .null, .null, .null, .null, .null, .null, .int 0, .int 0, .int 0, .null, .null, .null, .int 0]))]) [0] (by decide) rfl
  have hK := hK.sub (tys' := []) [] rfl
  refine va_putF (D := (dC, dI)) (ci := 5) (v := .ref q1) (ty := .array .int) (C := RX5) (T := TX5) (N := 16) hx hb hts hi5 tyX5 tyX5_ok nmX5 hown hK hP hD hS 0 rfl rfl 8 (by decide) (hts (.fieldLink RX5 11 "CrateHelpers$Tree" "walk" "[I") (by decide +kernel)) (fun _ h9 => h9) rfl hin rfl (by decide +kernel) rfl rfl (Nat.le_of_ble_eq_true rfl) dX5_init_10 (fun H locs hP hD hS => ?_)
  have hP : va_P (dC, dI) vwCl [(h0, .inr (5, [.null, .null, .null, .null, .null, .null, .null, .null, .ref q1, .int 0, .int 0, .int 0, .null, .null, .null, .int 0]))] H := hP
  have hD : va_D A [(h0, .inr (5, [.null, .null, .null, .null, .null, .null, .null, .null, .ref q1, .int 0, .int 0, .int 0, .null, .null, .null, .int 0]))] := hD
  refine lv_aload_n hx hb dX5_init_13 rfl (lv_at hl 0 rfl) ?_
  refine lv_iconst (v := 0) hx hb dX5_init_14 (by decide) ?_
  refine va_put (D := (dC, dI)) (ci := 5) (v := .int 0) (ty := .int) (C := RX5) (T := TX5) (N := 16) hx hb hts hi5 tyX5 tyX5_ok nmX5 hown hK hP hD hS 0 rfl rfl 9 (by decide) (hts (.fieldLink RX5 15 "CrateHelpers$Tree" "known" "I") (by decide +kernel)) (fun _ h9 => h9) rfl (by decide +kernel) rfl rfl (Nat.le_of_ble_eq_true rfl) dX5_init_15 (fun H locs hP hD hS => ?_)
  have hP : va_P (dC, dI) vwCl [(h0, .inr (5, [.null, .null, .null, .null, .null, .null, .null, .null, .ref q1, .int 0, .int 0, .int 0, .null, .null, .null, .int 0]))] H := hP
  have hD : va_D A [(h0, .inr (5, [.null, .null, .null, .null, .null, .null, .null, .null, .ref q1, .int 0, .int 0, .int 0, .null, .null, .null, .int 0]))] := hD
  refine lv_aload_n hx hb dX5_init_18 rfl (lv_at hl 0 rfl) ?_
  refine lv_iconst (v := 0) hx hb dX5_init_19 (by decide) ?_
  refine va_put (D := (dC, dI)) (ci := 5) (v := .int 0) (ty := .int) (C := RX5) (T := TX5) (N := 16) hx hb hts hi5 tyX5 tyX5_ok nmX5 hown hK hP hD hS 0 rfl rfl 10 (by decide) (hts (.fieldLink RX5 19 "CrateHelpers$Tree" "done" "I") (by decide +kernel)) (fun _ h9 => h9) rfl (by decide +kernel) rfl rfl (Nat.le_of_ble_eq_true rfl) dX5_init_20 (fun H locs hP hD hS => ?_)
  have hP : va_P (dC, dI) vwCl [(h0, .inr (5, [.null, .null, .null, .null, .null, .null, .null, .null, .ref q1, .int 0, .int 0, .int 0, .null, .null, .null, .int 0]))] H := hP
  have hD : va_D A [(h0, .inr (5, [.null, .null, .null, .null, .null, .null, .null, .null, .ref q1, .int 0, .int 0, .int 0, .null, .null, .null, .int 0]))] := hD
  refine lv_aload_n hx hb dX5_init_23 rfl (lv_at hl 0 rfl) ?_
  refine lv_iconst (v := 0) hx hb dX5_init_24 (by decide) ?_
  refine va_put (D := (dC, dI)) (ci := 5) (v := .int 0) (ty := .int) (C := RX5) (T := TX5) (N := 16) hx hb hts hi5 tyX5 tyX5_ok nmX5 hown hK hP hD hS 0 rfl rfl 11 (by decide) (hts (.fieldLink RX5 22 "CrateHelpers$Tree" "taken" "I") (by decide +kernel)) (fun _ h9 => h9) rfl (by decide +kernel) rfl rfl (Nat.le_of_ble_eq_true rfl) dX5_init_25 (fun H locs hP hD hS => ?_)
  have hP : va_P (dC, dI) vwCl [(h0, .inr (5, [.null, .null, .null, .null, .null, .null, .null, .null, .ref q1, .int 0, .int 0, .int 0, .null, .null, .null, .int 0]))] H := hP
  have hD : va_D A [(h0, .inr (5, [.null, .null, .null, .null, .null, .null, .null, .null, .ref q1, .int 0, .int 0, .int 0, .null, .null, .null, .int 0]))] := hD
  refine lv_aload_n hx hb dX5_init_28 rfl (lv_at hl 0 rfl) ?_
  refine lv_bipush (v := 6) hx hb dX5_init_29 (by decide) ?_
  refine va_newa (atype := .int) (ty := .int) (a0 := (6, .inl (fun _ => 0))) (N' := 6) hx hb (hts (.arrayClass .int) (by decide +kernel)) rfl hK hP hD hS hA (fun _ => rfl) (by decide) (by decide) (by decide) (Nat.le_of_ble_eq_true rfl) (Nat.le_of_ble_eq_true rfl) dX5_init_31 (fun q3 cA4 H hK hP hD hS => ?_)
  have hP : va_P (dC, dI) vwCl [(h0, .inr (5, [.null, .null, .null, .null, .null, .null, .null, .null, .ref q1, .int 0, .int 0, .int 0, .null, .null, .null, .int 0])), (q3, .inl (cA4, 6, .inl (fun _ => 0)))] H := hP
  have hD : va_D A [(h0, .inr (5, [.null, .null, .null, .null, .null, .null, .null, .null, .ref q1, .int 0, .int 0, .int 0, .null, .null, .null, .int 0])), (q3, .inl (cA4, 6, .inl (fun _ => 0)))] := hD
  have hK : va_K (dC, dI) vwCl [(cA4, .int)] s := hK
  refine W.widen (k := 2) (n := 256) (Nat.le_of_ble_eq_true rfl) (Nat.le_of_ble_eq_true rfl) ?_
  have hP := hP.sub (ws' := [(h0, .inr (5, [.null, .null, .null, .null, .null, .null, .null, .null, .ref q1, .int 0, .int 0, .int 0, .null, .null, .null, .int 0]))]) [0] rfl
  have hD := hD.sub (ws' := [(h0, .inr (5, [.null, .null, .null, .null, .null, .null, .null, .null, .ref q1, .int 0, .int 0, .int 0, .null, .null, .null, .int 0]))]) [0] (by decide) rfl
  have hK := hK.sub (tys' := []) [] rfl
  refine va_putF (D := (dC, dI)) (ci := 5) (v := .ref q3) (ty := .array .int) (C := RX5) (T := TX5) (N := 16) hx hb hts hi5 tyX5 tyX5_ok nmX5 hown hK hP hD hS 0 rfl rfl 12 (by decide) (hts (.fieldLink RX5 25 "CrateHelpers$Tree" "values" "[I") (by decide +kernel)) (fun _ h9 => h9) rfl hin rfl (by decide +kernel) rfl rfl (Nat.le_of_ble_eq_true rfl) dX5_init_33 (fun H locs hP hD hS => ?_)
  have hP : va_P (dC, dI) vwCl [(h0, .inr (5, [.null, .null, .null, .null, .null, .null, .null, .null, .ref q1, .int 0, .int 0, .int 0, .ref q3, .null, .null, .int 0]))] H := hP
  have hD : va_D A [(h0, .inr (5, [.null, .null, .null, .null, .null, .null, .null, .null, .ref q1, .int 0, .int 0, .int 0, .ref q3, .null, .null, .int 0]))] := hD
  refine lv_aload_n hx hb dX5_init_36 rfl (lv_at hl 0 rfl) ?_
  refine va_new (ci := 0) (fs := [.int 0, .int 0, .int 0]) (C := RX0) (T := TX0) (N := 3) hx hb hts hi0 tyX0 tyX0_ok hown (hts (.classLink RX5 28 RX0) (by decide +kernel)) (hts (.instantiable RX0 3) (by decide +kernel)) (hts (.initialized RX0) (by decide +kernel)) hK hP hD hS hA rfl (by decide +kernel) (Nat.le_of_ble_eq_true rfl) (Nat.le_of_ble_eq_true rfl) dX5_init_37 (fun q5 H hP hD hS => ?_)
  have hP : va_P (dC, dI) vwCl [(h0, .inr (5, [.null, .null, .null, .null, .null, .null, .null, .null, .ref q1, .int 0, .int 0, .int 0, .ref q3, .null, .null, .int 0])), (q5, .inr (0, [.int 0, .int 0, .int 0]))] H := hP
  have hD : va_D A [(h0, .inr (5, [.null, .null, .null, .null, .null, .null, .null, .null, .ref q1, .int 0, .int 0, .int 0, .ref q3, .null, .null, .int 0])), (q5, .inr (0, [.int 0, .int 0, .int 0]))] := hD
  refine W.widen (k := 3) (n := 259) (Nat.le_of_ble_eq_true rfl) (Nat.le_of_ble_eq_true rfl) ?_
  refine lv_dup hx hb dX5_init_40 rfl ?_
  have hPc := hP.sub (ws' := [(q5, .inr (0, [.int 0, .int 0, .int 0]))]) [1] rfl
  have hDc := hD.sub (ws' := [(q5, .inr (0, [.int 0, .int 0, .int 0]))]) [1] (by decide) rfl
  have hKc := hK.sub (tys' := []) [] rfl
  have hFc := va_free (wc := [(q5, .inr (0, [.int 0, .int 0, .int 0]))]) hD hS hA [1] rfl
  refine va_callv (va_runIN (As := []) (rest := [.ref q5, .ref h0]) ⟨hx, hb, hml, hown, hts⟩ (c_X0_init l dC dI H.size q5) (⟨va_cnB 0 hts gX5_init_X0_init_n30 rfl rfl rfl hN.2.2.2.1 (hts (.initialized RX0) (by decide +kernel)) (by decide +kernel) ⟨Nat.le_of_ble_eq_true rfl, Nat.le_of_ble_eq_true rfl⟩, rfl, hts (.instanceMethod yX0_init) (by decide +kernel)⟩) ⟨fun a U g mk q => by obtain ⟨q0, q1, qP, qK, qD⟩ := q; exact ⟨q0, q1, qP, va_K.moved (u := U) (U := U.calling g mk a) (Vm.Alike.refl U.vm) qK, qD⟩, fun U hU hW => ⟨rfl, by rw [hU], by rw [hU]; exact hPc, va_K.moved hW.alike hKc, hDc.weaken (fun _ _ _ _ => trivial)⟩⟩ rfl rfl hl.1 rfl (lv_room (Nat.le_of_ble_eq_true rfl)) dX5_init_41 ⟨Nat.le_of_ble_eq_true rfl, Nat.le_of_ble_eq_true rfl⟩) hS (fun q _ h => hFc q h) hFc (fun u7 t H1 locs ht hvm hw hB hz1 hk1 hS => ?_)
  obtain ⟨hP1, hK1, hD1⟩ := hB
  rw [ht] at hP1
  have hK1 := va_K.moved hvm.symm hK1
  try dsimp only at hw
  obtain ⟨hP, hD⟩ := va_join (wr := [(h0, .inr (5, [.null, .null, .null, .null, .null, .null, .null, .null, .ref q1, .int 0, .int 0, .int 0, .ref q3, .null, .null, .int 0]))]) (w1 := [(q5, .inr (0, [.int 0, .int (-9), .int (-1000000)]))]) hP hD [1] [0] rfl rfl (by decide) (by decide) hk1 hFc hP1 hD1
  have hK := (hK.sub (tys' := []) [] rfl).app hK1
  generalize H1 = H at hP hS ⊢
  have hP : va_P (dC, dI) vwCl [(h0, .inr (5, [.null, .null, .null, .null, .null, .null, .null, .null, .ref q1, .int 0, .int 0, .int 0, .ref q3, .null, .null, .int 0])), (q5, .inr (0, [.int 0, .int (-9), .int (-1000000)]))] H := hP
  have hD : va_D A [(h0, .inr (5, [.null, .null, .null, .null, .null, .null, .null, .null, .ref q1, .int 0, .int 0, .int 0, .ref q3, .null, .null, .int 0])), (q5, .inr (0, [.int 0, .int (-9), .int (-1000000)]))] := hD
  have hK : va_K (dC, dI) vwCl [] s := hK
  have hP := hP.sub (ws' := [(h0, .inr (5, [.null, .null, .null, .null, .null, .null, .null, .null, .ref q1, .int 0, .int 0, .int 0, .ref q3, .null, .null, .int 0]))]) [0] rfl
  have hD := hD.sub (ws' := [(h0, .inr (5, [.null, .null, .null, .null, .null, .null, .null, .null, .ref q1, .int 0, .int 0, .int 0, .ref q3, .null, .null, .int 0]))]) [0] (by decide) rfl
  refine va_putF (D := (dC, dI)) (ci := 5) (v := .ref q5) (ty := .object "CrateHelpers$Judge") (C := RX5) (T := TX5) (N := 16) hx hb hts hi5 tyX5 tyX5_ok nmX5 hown hK hP hD hS 0 rfl rfl 13 (by decide) (hts (.fieldLink RX5 31 "CrateHelpers$Tree" "judge" "LCrateHelpers$Judge;") (by decide +kernel)) (fun _ h9 => h9) rfl hin rfl (by decide +kernel) rfl rfl (Nat.le_of_ble_eq_true rfl) dX5_init_44 (fun H locs hP hD hS => ?_)
  have hP : va_P (dC, dI) vwCl [(h0, .inr (5, [.null, .null, .null, .null, .null, .null, .null, .null, .ref q1, .int 0, .int 0, .int 0, .ref q3, .ref q5, .null, .int 0]))] H := hP
  have hD : va_D A [(h0, .inr (5, [.null, .null, .null, .null, .null, .null, .null, .null, .ref q1, .int 0, .int 0, .int 0, .ref q3, .ref q5, .null, .int 0]))] := hD
  refine lv_aload_n hx hb dX5_init_47 rfl (lv_at hl 0 rfl) ?_
  refine lv_iconst (v := 1) hx hb dX5_init_48 (by decide) ?_
  refine va_put (D := (dC, dI)) (ci := 5) (v := .int 1) (ty := .boolean) (C := RX5) (T := TX5) (N := 16) hx hb hts hi5 tyX5 tyX5_ok nmX5 hown hK hP hD hS 0 rfl rfl 15 (by decide) (hts (.fieldLink RX5 35 "CrateHelpers$Tree" "mindsTwins" "Z") (by decide +kernel)) (fun _ h9 => h9) rfl (by decide +kernel) rfl rfl (Nat.le_of_ble_eq_true rfl) dX5_init_49 (fun H locs hP hD hS => ?_)
  have hP : va_P (dC, dI) vwCl [(h0, .inr (5, [.null, .null, .null, .null, .null, .null, .null, .null, .ref q1, .int 0, .int 0, .int 0, .ref q3, .ref q5, .null, .int 1]))] H := hP
  have hD : va_D A [(h0, .inr (5, [.null, .null, .null, .null, .null, .null, .null, .null, .ref q1, .int 0, .int 0, .int 0, .ref q3, .ref q5, .null, .int 1]))] := hD
  refine lv_iconst (v := 1) hx hb dX5_init_52 (by decide) ?_
  refine lv_iconst (v := 0) hx hb dX5_init_53 (by decide) ?_
  refine lv_iload_n hx hb dX5_init_54 rfl (lv_at hl 2 rfl) ?_
  refine va_mmax hx hb (by rw [hml]; exact hl.1.symm) hown (hts (.methodLink RX5 39 Lib.Math.max.name) (by decide +kernel)) (hts (.static Lib.Math.max.name) (by decide +kernel)) (hts (.initialized "java/lang/Math") (by decide +kernel)) (hts (.code Lib.Math.max.name Lib.Math.max.code 2 (some .int)) (List.mem_of_getElem? (i := 18) rfl)) (Nat.le_of_ble_eq_true rfl) (Nat.le_of_ble_eq_true rfl) (Nat.le_of_ble_eq_true rfl) (Nat.le_of_ble_eq_true rfl) dX5_init_55 ?_
  refine lv_topi (fun z8 ez8 => ?_)
  obtain rfl : z8 = 250 := ez8.trans (by decide)
  refine lv_bipush (v := 6) hx hb dX5_init_58 (by decide) ?_
  refine lv_imul hx hb dX5_init_60 ?_
  refine lv_topi (fun z9 ez9 => ?_)
  obtain rfl : z9 = 1500 := ez9.trans (by decide)
  refine lv_iadd hx hb dX5_init_61 ?_
  refine lv_topi (fun z10 ez10 => ?_)
  obtain rfl : z10 = 1501 := ez10.trans (by decide)
  refine lv_istore_n (lv' := [(3, .int 1501), (0, .ref h0), (1, .ref p0), (2, .int 250)]) hx hb dX5_init_62 rfl hl (by decide) rfl (fun ls hl => ?_)
  refine lv_aload_n hx hb dX5_init_63 rfl (lv_at hl 1 rfl) ?_
  refine lv_aload_n hx hb dX5_init_64 rfl (lv_at hl 2 rfl) ?_
  refine va_put (D := (dC, dI)) (ci := 5) (v := .ref p0) (ty := .object "CrateHelpers$Problem") (C := RX5) (T := TX5) (N := 16) hx hb hts hi5 tyX5 tyX5_ok nmX5 hown hK hP hD hS 0 rfl rfl 14 (by decide) (hts (.fieldLink RX5 45 "CrateHelpers$Tree" "problem" "LCrateHelpers$Problem;") (by decide +kernel)) (fun _ h9 => h9) rfl (by decide +kernel) rfl rfl (Nat.le_of_ble_eq_true rfl) dX5_init_65 (fun H locs hP hD hS => ?_)
  have hP : va_P (dC, dI) vwCl [(h0, .inr (5, [.null, .null, .null, .null, .null, .null, .null, .null, .ref q1, .int 0, .int 0, .int 0, .ref q3, .ref q5, .ref p0, .int 1]))] H := hP
  have hD : va_D A [(h0, .inr (5, [.null, .null, .null, .null, .null, .null, .null, .null, .ref q1, .int 0, .int 0, .int 0, .ref q3, .ref q5, .ref p0, .int 1]))] := hD
  refine lv_aload_n hx hb dX5_init_68 rfl (lv_at hl 1 rfl) ?_
  refine lv_iload_n hx hb dX5_init_69 rfl (lv_at hl 0 rfl) ?_
  refine va_newa (atype := .long) (ty := .long) (a0 := (1501, .inr (.inl (fun _ => 0)))) (N' := 1501) hx hb (hts (.arrayClass .long) (by decide +kernel)) rfl hK hP hD hS hA (fun _ => rfl) (by decide) (by decide) (by decide) (Nat.le_of_ble_eq_true rfl) (Nat.le_of_ble_eq_true rfl) dX5_init_70 (fun q11 cA12 H hK hP hD hS => ?_)
  have hP : va_P (dC, dI) vwCl [(h0, .inr (5, [.null, .null, .null, .null, .null, .null, .null, .null, .ref q1, .int 0, .int 0, .int 0, .ref q3, .ref q5, .ref p0, .int 1])), (q11, .inl (cA12, 1501, .inr (.inl (fun _ => 0))))] H := hP
  have hD : va_D A [(h0, .inr (5, [.null, .null, .null, .null, .null, .null, .null, .null, .ref q1, .int 0, .int 0, .int 0, .ref q3, .ref q5, .ref p0, .int 1])), (q11, .inl (cA12, 1501, .inr (.inl (fun _ => 0))))] := hD
  have hK : va_K (dC, dI) vwCl [(cA12, .long)] s := hK
  refine W.widen (k := 4) (n := 1760) (Nat.le_of_ble_eq_true rfl) (Nat.le_of_ble_eq_true rfl) ?_
  have hP := hP.sub (ws' := [(h0, .inr (5, [.null, .null, .null, .null, .null, .null, .null, .null, .ref q1, .int 0, .int 0, .int 0, .ref q3, .ref q5, .ref p0, .int 1]))]) [0] rfl
  have hD := hD.sub (ws' := [(h0, .inr (5, [.null, .null, .null, .null, .null, .null, .null, .null, .ref q1, .int 0, .int 0, .int 0, .ref q3, .ref q5, .ref p0, .int 1]))]) [0] (by decide) rfl
  have hK := hK.sub (tys' := []) [] rfl
  refine va_putF (D := (dC, dI)) (ci := 5) (v := .ref q11) (ty := .array .long) (C := RX5) (T := TX5) (N := 16) hx hb hts hi5 tyX5 tyX5_ok nmX5 hown hK hP hD hS 0 rfl rfl 0 (by decide) (hts (.fieldLink RX5 49 "CrateHelpers$Tree" "place" "[J") (by decide +kernel)) (fun _ h9 => h9) rfl hin rfl (by decide +kernel) rfl rfl (Nat.le_of_ble_eq_true rfl) dX5_init_72 (fun H locs hP hD hS => ?_)
  have hP : va_P (dC, dI) vwCl [(h0, .inr (5, [.ref q11, .null, .null, .null, .null, .null, .null, .null, .ref q1, .int 0, .int 0, .int 0, .ref q3, .ref q5, .ref p0, .int 1]))] H := hP
  have hD : va_D A [(h0, .inr (5, [.ref q11, .null, .null, .null, .null, .null, .null, .null, .ref q1, .int 0, .int 0, .int 0, .ref q3, .ref q5, .ref p0, .int 1]))] := hD
  refine lv_aload_n hx hb dX5_init_75 rfl (lv_at hl 1 rfl) ?_
  refine lv_iload_n hx hb dX5_init_76 rfl (lv_at hl 0 rfl) ?_
  refine va_newa (atype := .byte) (ty := .byte) (a0 := (1501, .inl (fun _ => 0))) (N' := 1501) hx hb (hts (.arrayClass .byte) (by decide +kernel)) rfl hK hP hD hS hA (fun _ => rfl) (by decide) (by decide) (by decide) (Nat.le_of_ble_eq_true rfl) (Nat.le_of_ble_eq_true rfl) dX5_init_77 (fun q13 cA14 H hK hP hD hS => ?_)
  have hP : va_P (dC, dI) vwCl [(h0, .inr (5, [.ref q11, .null, .null, .null, .null, .null, .null, .null, .ref q1, .int 0, .int 0, .int 0, .ref q3, .ref q5, .ref p0, .int 1])), (q13, .inl (cA14, 1501, .inl (fun _ => 0)))] H := hP
  have hD : va_D A [(h0, .inr (5, [.ref q11, .null, .null, .null, .null, .null, .null, .null, .ref q1, .int 0, .int 0, .int 0, .ref q3, .ref q5, .ref p0, .int 1])), (q13, .inl (cA14, 1501, .inl (fun _ => 0)))] := hD
  have hK : va_K (dC, dI) vwCl [(cA14, .byte)] s := hK
  refine W.widen (k := 5) (n := 3261) (Nat.le_of_ble_eq_true rfl) (Nat.le_of_ble_eq_true rfl) ?_
  have hP := hP.sub (ws' := [(h0, .inr (5, [.ref q11, .null, .null, .null, .null, .null, .null, .null, .ref q1, .int 0, .int 0, .int 0, .ref q3, .ref q5, .ref p0, .int 1]))]) [0] rfl
  have hD := hD.sub (ws' := [(h0, .inr (5, [.ref q11, .null, .null, .null, .null, .null, .null, .null, .ref q1, .int 0, .int 0, .int 0, .ref q3, .ref q5, .ref p0, .int 1]))]) [0] (by decide) rfl
  have hK := hK.sub (tys' := []) [] rfl
  refine va_putF (D := (dC, dI)) (ci := 5) (v := .ref q13) (ty := .array .byte) (C := RX5) (T := TX5) (N := 16) hx hb hts hi5 tyX5 tyX5_ok nmX5 hown hK hP hD hS 0 rfl rfl 1 (by decide) (hts (.fieldLink RX5 53 "CrateHelpers$Tree" "depth" "[B") (by decide +kernel)) (fun _ h9 => h9) rfl hin rfl (by decide +kernel) rfl rfl (Nat.le_of_ble_eq_true rfl) dX5_init_79 (fun H locs hP hD hS => ?_)
  have hP : va_P (dC, dI) vwCl [(h0, .inr (5, [.ref q11, .ref q13, .null, .null, .null, .null, .null, .null, .ref q1, .int 0, .int 0, .int 0, .ref q3, .ref q5, .ref p0, .int 1]))] H := hP
  have hD : va_D A [(h0, .inr (5, [.ref q11, .ref q13, .null, .null, .null, .null, .null, .null, .ref q1, .int 0, .int 0, .int 0, .ref q3, .ref q5, .ref p0, .int 1]))] := hD
  refine lv_aload_n hx hb dX5_init_82 rfl (lv_at hl 1 rfl) ?_
  refine lv_iload_n hx hb dX5_init_83 rfl (lv_at hl 0 rfl) ?_
  refine va_newa (atype := .byte) (ty := .byte) (a0 := (1501, .inl (fun _ => 0))) (N' := 1501) hx hb (hts (.arrayClass .byte) (by decide +kernel)) rfl hK hP hD hS hA (fun _ => rfl) (by decide) (by decide) (by decide) (Nat.le_of_ble_eq_true rfl) (Nat.le_of_ble_eq_true rfl) dX5_init_84 (fun q15 cA16 H hK hP hD hS => ?_)
  have hP : va_P (dC, dI) vwCl [(h0, .inr (5, [.ref q11, .ref q13, .null, .null, .null, .null, .null, .null, .ref q1, .int 0, .int 0, .int 0, .ref q3, .ref q5, .ref p0, .int 1])), (q15, .inl (cA16, 1501, .inl (fun _ => 0)))] H := hP
  have hD : va_D A [(h0, .inr (5, [.ref q11, .ref q13, .null, .null, .null, .null, .null, .null, .ref q1, .int 0, .int 0, .int 0, .ref q3, .ref q5, .ref p0, .int 1])), (q15, .inl (cA16, 1501, .inl (fun _ => 0)))] := hD
  have hK : va_K (dC, dI) vwCl [(cA16, .byte)] s := hK
  refine W.widen (k := 6) (n := 4762) (Nat.le_of_ble_eq_true rfl) (Nat.le_of_ble_eq_true rfl) ?_
  have hP := hP.sub (ws' := [(h0, .inr (5, [.ref q11, .ref q13, .null, .null, .null, .null, .null, .null, .ref q1, .int 0, .int 0, .int 0, .ref q3, .ref q5, .ref p0, .int 1]))]) [0] rfl
  have hD := hD.sub (ws' := [(h0, .inr (5, [.ref q11, .ref q13, .null, .null, .null, .null, .null, .null, .ref q1, .int 0, .int 0, .int 0, .ref q3, .ref q5, .ref p0, .int 1]))]) [0] (by decide) rfl
  have hK := hK.sub (tys' := []) [] rfl
  refine va_putF (D := (dC, dI)) (ci := 5) (v := .ref q15) (ty := .array .byte) (C := RX5) (T := TX5) (N := 16) hx hb hts hi5 tyX5 tyX5_ok nmX5 hown hK hP hD hS 0 rfl rfl 2 (by decide) (hts (.fieldLink RX5 57 "CrateHelpers$Tree" "what" "[B") (by decide +kernel)) (fun _ h9 => h9) rfl hin rfl (by decide +kernel) rfl rfl (Nat.le_of_ble_eq_true rfl) dX5_init_86 (fun H locs hP hD hS => ?_)
  have hP : va_P (dC, dI) vwCl [(h0, .inr (5, [.ref q11, .ref q13, .ref q15, .null, .null, .null, .null, .null, .ref q1, .int 0, .int 0, .int 0, .ref q3, .ref q5, .ref p0, .int 1]))] H := hP
  have hD : va_D A [(h0, .inr (5, [.ref q11, .ref q13, .ref q15, .null, .null, .null, .null, .null, .ref q1, .int 0, .int 0, .int 0, .ref q3, .ref q5, .ref p0, .int 1]))] := hD
  refine lv_aload_n hx hb dX5_init_89 rfl (lv_at hl 1 rfl) ?_
  refine lv_iload_n hx hb dX5_init_90 rfl (lv_at hl 0 rfl) ?_
  refine va_newa (atype := .byte) (ty := .byte) (a0 := (1501, .inl (fun _ => 0))) (N' := 1501) hx hb (hts (.arrayClass .byte) (by decide +kernel)) rfl hK hP hD hS hA (fun _ => rfl) (by decide) (by decide) (by decide) (Nat.le_of_ble_eq_true rfl) (Nat.le_of_ble_eq_true rfl) dX5_init_91 (fun q17 cA18 H hK hP hD hS => ?_)
  have hP : va_P (dC, dI) vwCl [(h0, .inr (5, [.ref q11, .ref q13, .ref q15, .null, .null, .null, .null, .null, .ref q1, .int 0, .int 0, .int 0, .ref q3, .ref q5, .ref p0, .int 1])), (q17, .inl (cA18, 1501, .inl (fun _ => 0)))] H := hP
  have hD : va_D A [(h0, .inr (5, [.ref q11, .ref q13, .ref q15, .null, .null, .null, .null, .null, .ref q1, .int 0, .int 0, .int 0, .ref q3, .ref q5, .ref p0, .int 1])), (q17, .inl (cA18, 1501, .inl (fun _ => 0)))] := hD
  have hK : va_K (dC, dI) vwCl [(cA18, .byte)] s := hK
  refine W.widen (k := 7) (n := 6263) (Nat.le_of_ble_eq_true rfl) (Nat.le_of_ble_eq_true rfl) ?_
  have hP := hP.sub (ws' := [(h0, .inr (5, [.ref q11, .ref q13, .ref q15, .null, .null, .null, .null, .null, .ref q1, .int 0, .int 0, .int 0, .ref q3, .ref q5, .ref p0, .int 1]))]) [0] rfl
  have hD := hD.sub (ws' := [(h0, .inr (5, [.ref q11, .ref q13, .ref q15, .null, .null, .null, .null, .null, .ref q1, .int 0, .int 0, .int 0, .ref q3, .ref q5, .ref p0, .int 1]))]) [0] (by decide) rfl
  have hK := hK.sub (tys' := []) [] rfl
  refine va_putF (D := (dC, dI)) (ci := 5) (v := .ref q17) (ty := .array .byte) (C := RX5) (T := TX5) (N := 16) hx hb hts hi5 tyX5 tyX5_ok nmX5 hown hK hP hD hS 0 rfl rfl 3 (by decide) (hts (.fieldLink RX5 60 "CrateHelpers$Tree" "why" "[B") (by decide +kernel)) (fun _ h9 => h9) rfl hin rfl (by decide +kernel) rfl rfl (Nat.le_of_ble_eq_true rfl) dX5_init_93 (fun H locs hP hD hS => ?_)
  have hP : va_P (dC, dI) vwCl [(h0, .inr (5, [.ref q11, .ref q13, .ref q15, .ref q17, .null, .null, .null, .null, .ref q1, .int 0, .int 0, .int 0, .ref q3, .ref q5, .ref p0, .int 1]))] H := hP
  have hD : va_D A [(h0, .inr (5, [.ref q11, .ref q13, .ref q15, .ref q17, .null, .null, .null, .null, .ref q1, .int 0, .int 0, .int 0, .ref q3, .ref q5, .ref p0, .int 1]))] := hD
  refine lv_aload_n hx hb dX5_init_96 rfl (lv_at hl 1 rfl) ?_
  refine lv_iload_n hx hb dX5_init_97 rfl (lv_at hl 0 rfl) ?_
  refine va_newa (atype := .byte) (ty := .byte) (a0 := (1501, .inl (fun _ => 0))) (N' := 1501) hx hb (hts (.arrayClass .byte) (by decide +kernel)) rfl hK hP hD hS hA (fun _ => rfl) (by decide) (by decide) (by decide) (Nat.le_of_ble_eq_true rfl) (Nat.le_of_ble_eq_true rfl) dX5_init_98 (fun q19 cA20 H hK hP hD hS => ?_)
  have hP : va_P (dC, dI) vwCl [(h0, .inr (5, [.ref q11, .ref q13, .ref q15, .ref q17, .null, .null, .null, .null, .ref q1, .int 0, .int 0, .int 0, .ref q3, .ref q5, .ref p0, .int 1])), (q19, .inl (cA20, 1501, .inl (fun _ => 0)))] H := hP
  have hD : va_D A [(h0, .inr (5, [.ref q11, .ref q13, .ref q15, .ref q17, .null, .null, .null, .null, .ref q1, .int 0, .int 0, .int 0, .ref q3, .ref q5, .ref p0, .int 1])), (q19, .inl (cA20, 1501, .inl (fun _ => 0)))] := hD
  have hK : va_K (dC, dI) vwCl [(cA20, .byte)] s := hK
  refine W.widen (k := 8) (n := 7764) (Nat.le_of_ble_eq_true rfl) (Nat.le_of_ble_eq_true rfl) ?_
  have hP := hP.sub (ws' := [(h0, .inr (5, [.ref q11, .ref q13, .ref q15, .ref q17, .null, .null, .null, .null, .ref q1, .int 0, .int 0, .int 0, .ref q3, .ref q5, .ref p0, .int 1]))]) [0] rfl
  have hD := hD.sub (ws' := [(h0, .inr (5, [.ref q11, .ref q13, .ref q15, .ref q17, .null, .null, .null, .null, .ref q1, .int 0, .int 0, .int 0, .ref q3, .ref q5, .ref p0, .int 1]))]) [0] (by decide) rfl
  have hK := hK.sub (tys' := []) [] rfl
  refine va_putF (D := (dC, dI)) (ci := 5) (v := .ref q19) (ty := .array .byte) (C := RX5) (T := TX5) (N := 16) hx hb hts hi5 tyX5 tyX5_ok nmX5 hown hK hP hD hS 0 rfl rfl 4 (by decide) (hts (.fieldLink RX5 63 "CrateHelpers$Tree" "stage" "[B") (by decide +kernel)) (fun _ h9 => h9) rfl hin rfl (by decide +kernel) rfl rfl (Nat.le_of_ble_eq_true rfl) dX5_init_100 (fun H locs hP hD hS => ?_)
  have hP : va_P (dC, dI) vwCl [(h0, .inr (5, [.ref q11, .ref q13, .ref q15, .ref q17, .ref q19, .null, .null, .null, .ref q1, .int 0, .int 0, .int 0, .ref q3, .ref q5, .ref p0, .int 1]))] H := hP
  have hD : va_D A [(h0, .inr (5, [.ref q11, .ref q13, .ref q15, .ref q17, .ref q19, .null, .null, .null, .ref q1, .int 0, .int 0, .int 0, .ref q3, .ref q5, .ref p0, .int 1]))] := hD
  refine lv_aload_n hx hb dX5_init_103 rfl (lv_at hl 1 rfl) ?_
  refine lv_iload_n hx hb dX5_init_104 rfl (lv_at hl 0 rfl) ?_
  refine va_newa (atype := .byte) (ty := .byte) (a0 := (1501, .inl (fun _ => 0))) (N' := 1501) hx hb (hts (.arrayClass .byte) (by decide +kernel)) rfl hK hP hD hS hA (fun _ => rfl) (by decide) (by decide) (by decide) (Nat.le_of_ble_eq_true rfl) (Nat.le_of_ble_eq_true rfl) dX5_init_105 (fun q21 cA22 H hK hP hD hS => ?_)
  have hP : va_P (dC, dI) vwCl [(h0, .inr (5, [.ref q11, .ref q13, .ref q15, .ref q17, .ref q19, .null, .null, .null, .ref q1, .int 0, .int 0, .int 0, .ref q3, .ref q5, .ref p0, .int 1])), (q21, .inl (cA22, 1501, .inl (fun _ => 0)))] H := hP
  have hD : va_D A [(h0, .inr (5, [.ref q11, .ref q13, .ref q15, .ref q17, .ref q19, .null, .null, .null, .ref q1, .int 0, .int 0, .int 0, .ref q3, .ref q5, .ref p0, .int 1])), (q21, .inl (cA22, 1501, .inl (fun _ => 0)))] := hD
  have hK : va_K (dC, dI) vwCl [(cA22, .byte)] s := hK
  refine W.widen (k := 9) (n := 9265) (Nat.le_of_ble_eq_true rfl) (Nat.le_of_ble_eq_true rfl) ?_
  have hP := hP.sub (ws' := [(h0, .inr (5, [.ref q11, .ref q13, .ref q15, .ref q17, .ref q19, .null, .null, .null, .ref q1, .int 0, .int 0, .int 0, .ref q3, .ref q5, .ref p0, .int 1]))]) [0] rfl
  have hD := hD.sub (ws' := [(h0, .inr (5, [.ref q11, .ref q13, .ref q15, .ref q17, .ref q19, .null, .null, .null, .ref q1, .int 0, .int 0, .int 0, .ref q3, .ref q5, .ref p0, .int 1]))]) [0] (by decide) rfl
  have hK := hK.sub (tys' := []) [] rfl
  refine va_putF (D := (dC, dI)) (ci := 5) (v := .ref q21) (ty := .array .byte) (C := RX5) (T := TX5) (N := 16) hx hb hts hi5 tyX5 tyX5_ok nmX5 hown hK hP hD hS 0 rfl rfl 5 (by decide) (hts (.fieldLink RX5 66 "CrateHelpers$Tree" "doneBy" "[B") (by decide +kernel)) (fun _ h9 => h9) rfl hin rfl (by decide +kernel) rfl rfl (Nat.le_of_ble_eq_true rfl) dX5_init_107 (fun H locs hP hD hS => ?_)
  have hP : va_P (dC, dI) vwCl [(h0, .inr (5, [.ref q11, .ref q13, .ref q15, .ref q17, .ref q19, .ref q21, .null, .null, .ref q1, .int 0, .int 0, .int 0, .ref q3, .ref q5, .ref p0, .int 1]))] H := hP
  have hD : va_D A [(h0, .inr (5, [.ref q11, .ref q13, .ref q15, .ref q17, .ref q19, .ref q21, .null, .null, .ref q1, .int 0, .int 0, .int 0, .ref q3, .ref q5, .ref p0, .int 1]))] := hD
  refine lv_aload_n hx hb dX5_init_110 rfl (lv_at hl 1 rfl) ?_
  refine lv_iload_n hx hb dX5_init_111 rfl (lv_at hl 0 rfl) ?_
  refine va_newa (atype := .short) (ty := .short) (a0 := (1501, .inl (fun _ => 0))) (N' := 1501) hx hb (hts (.arrayClass .short) (by decide +kernel)) rfl hK hP hD hS hA (fun _ => rfl) (by decide) (by decide) (by decide) (Nat.le_of_ble_eq_true rfl) (Nat.le_of_ble_eq_true rfl) dX5_init_112 (fun q23 cA24 H hK hP hD hS => ?_)
  have hP : va_P (dC, dI) vwCl [(h0, .inr (5, [.ref q11, .ref q13, .ref q15, .ref q17, .ref q19, .ref q21, .null, .null, .ref q1, .int 0, .int 0, .int 0, .ref q3, .ref q5, .ref p0, .int 1])), (q23, .inl (cA24, 1501, .inl (fun _ => 0)))] H := hP
  have hD : va_D A [(h0, .inr (5, [.ref q11, .ref q13, .ref q15, .ref q17, .ref q19, .ref q21, .null, .null, .ref q1, .int 0, .int 0, .int 0, .ref q3, .ref q5, .ref p0, .int 1])), (q23, .inl (cA24, 1501, .inl (fun _ => 0)))] := hD
  have hK : va_K (dC, dI) vwCl [(cA24, .short)] s := hK
  refine W.widen (k := 10) (n := 10766) (Nat.le_of_ble_eq_true rfl) (Nat.le_of_ble_eq_true rfl) ?_
  have hP := hP.sub (ws' := [(h0, .inr (5, [.ref q11, .ref q13, .ref q15, .ref q17, .ref q19, .ref q21, .null, .null, .ref q1, .int 0, .int 0, .int 0, .ref q3, .ref q5, .ref p0, .int 1]))]) [0] rfl
  have hD := hD.sub (ws' := [(h0, .inr (5, [.ref q11, .ref q13, .ref q15, .ref q17, .ref q19, .ref q21, .null, .null, .ref q1, .int 0, .int 0, .int 0, .ref q3, .ref q5, .ref p0, .int 1]))]) [0] (by decide) rfl
  have hK := hK.sub (tys' := []) [] rfl
  refine va_putF (D := (dC, dI)) (ci := 5) (v := .ref q23) (ty := .array .short) (C := RX5) (T := TX5) (N := 16) hx hb hts hi5 tyX5 tyX5_ok nmX5 hown hK hP hD hS 0 rfl rfl 6 (by decide) (hts (.fieldLink RX5 69 "CrateHelpers$Tree" "firstBelow" "[S") (by decide +kernel)) (fun _ h9 => h9) rfl hin rfl (by decide +kernel) rfl rfl (Nat.le_of_ble_eq_true rfl) dX5_init_114 (fun H locs hP hD hS => ?_)
  have hP : va_P (dC, dI) vwCl [(h0, .inr (5, [.ref q11, .ref q13, .ref q15, .ref q17, .ref q19, .ref q21, .ref q23, .null, .ref q1, .int 0, .int 0, .int 0, .ref q3, .ref q5, .ref p0, .int 1]))] H := hP
  have hD : va_D A [(h0, .inr (5, [.ref q11, .ref q13, .ref q15, .ref q17, .ref q19, .ref q21, .ref q23, .null, .ref q1, .int 0, .int 0, .int 0, .ref q3, .ref q5, .ref p0, .int 1]))] := hD
  refine lv_aload_n hx hb dX5_init_117 rfl (lv_at hl 1 rfl) ?_
  refine lv_iload_n hx hb dX5_init_118 rfl (lv_at hl 0 rfl) ?_
  refine va_newa (atype := .boolean) (ty := .boolean) (a0 := (1501, .inl (fun _ => 0))) (N' := 1501) hx hb (hts (.arrayClass .boolean) (by decide +kernel)) rfl hK hP hD hS hA (fun _ => rfl) (by decide) (by decide) (by decide) (Nat.le_of_ble_eq_true rfl) (Nat.le_of_ble_eq_true rfl) dX5_init_119 (fun q25 cA26 H hK hP hD hS => ?_)
  have hP : va_P (dC, dI) vwCl [(h0, .inr (5, [.ref q11, .ref q13, .ref q15, .ref q17, .ref q19, .ref q21, .ref q23, .null, .ref q1, .int 0, .int 0, .int 0, .ref q3, .ref q5, .ref p0, .int 1])), (q25, .inl (cA26, 1501, .inl (fun _ => 0)))] H := hP
  have hD : va_D A [(h0, .inr (5, [.ref q11, .ref q13, .ref q15, .ref q17, .ref q19, .ref q21, .ref q23, .null, .ref q1, .int 0, .int 0, .int 0, .ref q3, .ref q5, .ref p0, .int 1])), (q25, .inl (cA26, 1501, .inl (fun _ => 0)))] := hD
  have hK : va_K (dC, dI) vwCl [(cA26, .boolean)] s := hK
  refine W.widen (k := 11) (n := 12267) (Nat.le_of_ble_eq_true rfl) (Nat.le_of_ble_eq_true rfl) ?_
  have hP := hP.sub (ws' := [(h0, .inr (5, [.ref q11, .ref q13, .ref q15, .ref q17, .ref q19, .ref q21, .ref q23, .null, .ref q1, .int 0, .int 0, .int 0, .ref q3, .ref q5, .ref p0, .int 1]))]) [0] rfl
  have hD := hD.sub (ws' := [(h0, .inr (5, [.ref q11, .ref q13, .ref q15, .ref q17, .ref q19, .ref q21, .ref q23, .null, .ref q1, .int 0, .int 0, .int 0, .ref q3, .ref q5, .ref p0, .int 1]))]) [0] (by decide) rfl
  have hK := hK.sub (tys' := []) [] rfl
  refine va_putF (D := (dC, dI)) (ci := 5) (v := .ref q25) (ty := .array .boolean) (C := RX5) (T := TX5) (N := 16) hx hb hts hi5 tyX5 tyX5_ok nmX5 hown hK hP hD hS 0 rfl rfl 7 (by decide) (hts (.fieldLink RX5 73 "CrateHelpers$Tree" "isReached" "[Z") (by decide +kernel)) (fun _ h9 => h9) rfl hin rfl (by decide +kernel) rfl rfl (Nat.le_of_ble_eq_true rfl) dX5_init_121 (fun H locs hP hD hS => ?_)
  have hP : va_P (dC, dI) vwCl [(h0, .inr (5, [.ref q11, .ref q13, .ref q15, .ref q17, .ref q19, .ref q21, .ref q23, .ref q25, .ref q1, .int 0, .int 0, .int 0, .ref q3, .ref q5, .ref p0, .int 1]))] H := hP
  have hD : va_D A [(h0, .inr (5, [.ref q11, .ref q13, .ref q15, .ref q17, .ref q19, .ref q21, .ref q23, .ref q25, .ref q1, .int 0, .int 0, .int 0, .ref q3, .ref q5, .ref p0, .int 1]))] := hD
  have hP9 := hP.sub (ws' := [(h0, .inr (5, [.ref q11, .ref q13, .ref q15, .ref q17, .ref q19, .ref q21, .ref q23, .ref q25, .ref q1, .int 0, .int 0, .int 0, .ref q3, .ref q5, .ref p0, .int 1]))]) [0] rfl
  have hD9 := hD.sub (ws' := [(h0, .inr (5, [.ref q11, .ref q13, .ref q15, .ref q17, .ref q19, .ref q21, .ref q23, .ref q25, .ref q1, .int 0, .int 0, .int 0, .ref q3, .ref q5, .ref p0, .int 1]))]) [0] (by decide) rfl
  have hK9 := hK.sub (tys' := []) [] rfl
  exact W.vret hx hb hr (fun t ht hW => ⟨⟨(), rfl, trivial, q11, q13, q15, q17, q19, q21, q23, q25, q1, q3, q5, by rw [ht]; exact hP9, va_K.moved hW.alike hK9, hD9⟩, hS.F ht⟩) hS.2.2 dX5_init_124
set_option maxHeartbeats 4000000 in
set_option maxRecDepth 100000 in
/-- Solving(any, team): what it holds is not told here -/
theorem c_X3_init (l : Launch) (dC : Nat → ClassId) (dI : Nat → Nat → Nat) (sz : Nat) (h0 : Nat) (p0 : Nat) (t0 : Nat) : Met l yX3_init wsX3_init ({ frames := 3, cells := 14, slots := 13973, locals := 110 }) (va_Pc [.ref h0, .ref p0, .ref t0] (fun U => U.heap.size = sz ∧ va_P (dC, dI) vwCl [(h0, .inr (3, [.null, .null, .int 0, .int 0, .null, .null]))] U.heap ∧ va_K (dC, dI) vwCl [] U ∧ va_D (fun _ => True) [(h0, .inr (3, [.null, .null, .int 0, .int 0, .null, .null]))] ∧ nwX U)) (va_Qv (fun (_ : Unit) => True) (fun (_ : Unit) (_ : State) => True) (va_A [(h0, .inr (3, [.null, .null, .int 0, .int 0, .null, .null]))] sz)) 14 13973 (va_A [(h0, .inr (3, [.null, .null, .int 0, .int 0, .null, .null]))] sz) := by
  refine Met.ofW (cc := cX3_init) (maxL := 3) (ret := none) (by decide) rfl ?_
  intro p e s m args below meth c s₁ B hml hv
  obtain ⟨rfl, hsz, hP, hK, hD0, hN⟩ := hv
  have hx := B.exec
  have hb := B.bytes
  have hr := B.returns
  have hts := atoms_spec (ws := wsX3_init) B.pre
  have hown : s.vm.findClass RX3 = some m.cls := findClass_of_methodNamed B.named
  have hlocks := B.notSynchronized
  have hin : meth.name = "<init>" := (name_of_methodNamed B.named B.method).1
  have hi3 : ∀ w ∈ u_ws RX3 TX3 6, w ∈ wsX3_init := fun w h => List.mem_cons_of_mem _ (List.mem_append_left _ (List.mem_append_left _ (List.mem_append_right _ h)))
  have hi5 : ∀ w ∈ u_ws RX5 TX5 16, w ∈ wsX3_init := fun w h => List.mem_cons_of_mem _ (List.mem_append_left _ (List.mem_append_right _ h))
  have hi0 : ∀ w ∈ u_ws RX0 TX0 3, w ∈ wsX3_init := fun w h => List.mem_cons_of_mem _ (List.mem_append_right _ h)
  subst hsz
  have hD := hD0.self (sz := s.heap.size)
  generalize hAe : va_A [(h0, .inr (3, [.null, .null, .int 0, .int 0, .null, .null]))] s.heap.size = A at hD ⊢
  have hA : ∀ q : Nat, s.heap.size ≤ q → A q := fun q h => by rw [← hAe]; exact Or.inr h
  have hS : va_S A s.heap s.heap [] := va_S.rf
  have hP : va_P (dC, dI) vwCl [(h0, .inr (3, [.null, .null, .int 0, .int 0, .null, .null]))] s.heap := hP
  have hl := lv_entry ([.ref h0, .ref p0, .ref t0]) (n := 3) (Nat.le_of_ble_eq_true rfl)
  rw [lg_entry_eq]
  generalize (lg_sl ([.ref h0, .ref p0, .ref t0]) ++ List.replicate (3 - (lg_sl ([.ref h0, .ref p0, .ref t0])).length) Slot.unset).toArray = ls at hl ⊢
  have hl : lv_has ls 3 [(0, .ref h0), (1, .ref p0), (2, .ref t0)] := hl
  refine lv_aload_n hx hb dX3_init_0 rfl (lv_at hl 0 rfl) ?_
  refine W.objInit hx hb hown (hts (.methodLink RX3 3 objectInit) (by decide +kernel)) (hts (.instanceMethod objectInit) (by decide +kernel)) (hts _ (List.mem_of_getElem? (i := 3) rfl)) rfl (by rw [hml]; exact hl.1) rfl dX3_init_1 (Nat.le_of_ble_eq_true rfl) (Nat.le_of_ble_eq_true rfl) ?_
  refine W.eq (g2 := F0 m 4 ls []) rfl ?_
  refine lv_aload_n hx hb dX3_init_4 rfl (lv_at hl 0 rfl) ?_
  refine lv_iconst (v := 0) hx hb dX3_init_5 (by decide) ?_
  refine va_put (D := (dC, dI)) (ci := 3) (v := .int 0) (ty := .int) (C := RX3) (T := TX3) (N := 6) hx hb hts hi3 tyX3 tyX3_ok nmX3 hown hK hP hD hS 0 rfl rfl 2 (by decide) (hts (.fieldLink RX3 9 "CrateHelpers$Solving" "limit" "I") (by decide +kernel)) (fun _ h9 => h9) rfl (by decide +kernel) rfl rfl (Nat.le_of_ble_eq_true rfl) dX3_init_6 (fun H locs hP hD hS => ?_)
  have hP : va_P (dC, dI) vwCl [(h0, .inr (3, [.null, .null, .int 0, .int 0, .null, .null]))] H := hP
  have hD : va_D A [(h0, .inr (3, [.null, .null, .int 0, .int 0, .null, .null]))] := hD
  refine lv_aload_n hx hb dX3_init_9 rfl (lv_at hl 0 rfl) ?_
  refine lv_iconst (v := 0) hx hb dX3_init_10 (by decide) ?_
  refine va_put (D := (dC, dI)) (ci := 3) (v := .int 0) (ty := .int) (C := RX3) (T := TX3) (N := 6) hx hb hts hi3 tyX3 tyX3_ok nmX3 hown hK hP hD hS 0 rfl rfl 3 (by decide) (hts (.fieldLink RX3 15 "CrateHelpers$Solving" "turns" "I") (by decide +kernel)) (fun _ h9 => h9) rfl (by decide +kernel) rfl rfl (Nat.le_of_ble_eq_true rfl) dX3_init_11 (fun H locs hP hD hS => ?_)
  have hP : va_P (dC, dI) vwCl [(h0, .inr (3, [.null, .null, .int 0, .int 0, .null, .null]))] H := hP
  have hD : va_D A [(h0, .inr (3, [.null, .null, .int 0, .int 0, .null, .null]))] := hD
  refine lv_aload_n hx hb dX3_init_14 rfl (lv_at hl 0 rfl) ?_
  refine lv_iconst (v := 5) hx hb dX3_init_15 (by decide) ?_
  refine va_newa (atype := .int) (ty := .int) (a0 := (5, .inl (fun _ => 0))) (N' := 5) hx hb (hts (.arrayClass .int) (by decide +kernel)) rfl hK hP hD hS hA (fun _ => rfl) (by decide) (by decide) (by decide) (Nat.le_of_ble_eq_true rfl) (Nat.le_of_ble_eq_true rfl) dX3_init_16 (fun q1 cA2 H hK hP hD hS => ?_)
  have hP : va_P (dC, dI) vwCl [(h0, .inr (3, [.null, .null, .int 0, .int 0, .null, .null])), (q1, .inl (cA2, 5, .inl (fun _ => 0)))] H := hP
  have hD : va_D A [(h0, .inr (3, [.null, .null, .int 0, .int 0, .null, .null])), (q1, .inl (cA2, 5, .inl (fun _ => 0)))] := hD
  have hK : va_K (dC, dI) vwCl [(cA2, .int)] s := hK
  refine W.widen (k := 1) (n := 5) (Nat.le_of_ble_eq_true rfl) (Nat.le_of_ble_eq_true rfl) ?_
  have hP := hP.sub (ws' := [(h0, .inr (3, [.null, .null, .int 0, .int 0, .null, .null]))]) [0] rfl
  have hD := hD.sub (ws' := [(h0, .inr (3, [.null, .null, .int 0, .int 0, .null, .null]))]) [0] (by decide) rfl
  have hK := hK.sub (tys' := []) [] rfl
  refine va_putF (D := (dC, dI)) (ci := 3) (v := .ref q1) (ty := .array .int) (C := RX3) (T := TX3) (N := 6) hx hb hts hi3 tyX3 tyX3_ok nmX3 hown hK hP hD hS 0 rfl rfl 4 (by decide) (hts (.fieldLink RX3 18 "CrateHelpers$Solving" "holds" "[I") (by decide +kernel)) (fun _ h9 => h9) rfl hin rfl (by decide +kernel) rfl rfl (Nat.le_of_ble_eq_true rfl) dX3_init_18 (fun H locs hP hD hS => ?_)
  have hP : va_P (dC, dI) vwCl [(h0, .inr (3, [.null, .null, .int 0, .int 0, .ref q1, .null]))] H := hP
  have hD : va_D A [(h0, .inr (3, [.null, .null, .int 0, .int 0, .ref q1, .null]))] := hD
  refine lv_aload_n hx hb dX3_init_21 rfl (lv_at hl 0 rfl) ?_
  refine lv_iconst (v := 5) hx hb dX3_init_22 (by decide) ?_
  refine va_newa (atype := .int) (ty := .int) (a0 := (5, .inl (fun _ => 0))) (N' := 5) hx hb (hts (.arrayClass .int) (by decide +kernel)) rfl hK hP hD hS hA (fun _ => rfl) (by decide) (by decide) (by decide) (Nat.le_of_ble_eq_true rfl) (Nat.le_of_ble_eq_true rfl) dX3_init_23 (fun q3 cA4 H hK hP hD hS => ?_)
  have hP : va_P (dC, dI) vwCl [(h0, .inr (3, [.null, .null, .int 0, .int 0, .ref q1, .null])), (q3, .inl (cA4, 5, .inl (fun _ => 0)))] H := hP
  have hD : va_D A [(h0, .inr (3, [.null, .null, .int 0, .int 0, .ref q1, .null])), (q3, .inl (cA4, 5, .inl (fun _ => 0)))] := hD
  have hK : va_K (dC, dI) vwCl [(cA4, .int)] s := hK
  refine W.widen (k := 2) (n := 10) (Nat.le_of_ble_eq_true rfl) (Nat.le_of_ble_eq_true rfl) ?_
  have hP := hP.sub (ws' := [(h0, .inr (3, [.null, .null, .int 0, .int 0, .ref q1, .null]))]) [0] rfl
  have hD := hD.sub (ws' := [(h0, .inr (3, [.null, .null, .int 0, .int 0, .ref q1, .null]))]) [0] (by decide) rfl
  have hK := hK.sub (tys' := []) [] rfl
  refine va_putF (D := (dC, dI)) (ci := 3) (v := .ref q3) (ty := .array .int) (C := RX3) (T := TX3) (N := 6) hx hb hts hi3 tyX3 tyX3_ok nmX3 hown hK hP hD hS 0 rfl rfl 5 (by decide) (hts (.fieldLink RX3 22 "CrateHelpers$Solving" "had" "[I") (by decide +kernel)) (fun _ h9 => h9) rfl hin rfl (by decide +kernel) rfl rfl (Nat.le_of_ble_eq_true rfl) dX3_init_25 (fun H locs hP hD hS => ?_)
  have hP : va_P (dC, dI) vwCl [(h0, .inr (3, [.null, .null, .int 0, .int 0, .ref q1, .ref q3]))] H := hP
  have hD : va_D A [(h0, .inr (3, [.null, .null, .int 0, .int 0, .ref q1, .ref q3]))] := hD
  refine lv_aload_n hx hb dX3_init_28 rfl (lv_at hl 0 rfl) ?_
  refine va_new (ci := 5) (fs := [.null, .null, .null, .null, .null, .null, .null, .null, .null, .int 0, .int 0, .int 0, .null, .null, .null, .int 0]) (C := RX5) (T := TX5) (N := 16) hx hb hts hi5 tyX5 tyX5_ok hown (hts (.classLink RX3 25 RX5) (by decide +kernel)) (hts (.instantiable RX5 16) (by decide +kernel)) (hts (.initialized RX5) (by decide +kernel)) hK hP hD hS hA rfl (by decide +kernel) (Nat.le_of_ble_eq_true rfl) (Nat.le_of_ble_eq_true rfl) dX3_init_29 (fun q5 H hP hD hS => ?_)
  have hP : va_P (dC, dI) vwCl [(h0, .inr (3, [.null, .null, .int 0, .int 0, .ref q1, .ref q3])), (q5, .inr (5, [.null, .null, .null, .null, .null, .null, .null, .null, .null, .int 0, .int 0, .int 0, .null, .null, .null, .int 0]))] H := hP
  have hD : va_D A [(h0, .inr (3, [.null, .null, .int 0, .int 0, .ref q1, .ref q3])), (q5, .inr (5, [.null, .null, .null, .null, .null, .null, .null, .null, .null, .int 0, .int 0, .int 0, .null, .null, .null, .int 0]))] := hD
  refine W.widen (k := 3) (n := 26) (Nat.le_of_ble_eq_true rfl) (Nat.le_of_ble_eq_true rfl) ?_
  refine lv_dup hx hb dX3_init_32 rfl ?_
  refine lv_aload_n hx hb dX3_init_33 rfl (lv_at hl 1 rfl) ?_
  refine lv_sipush (v := 285) hx hb dX3_init_34 (by decide) ?_
  have hPc := hP.sub (ws' := [(q5, .inr (5, [.null, .null, .null, .null, .null, .null, .null, .null, .null, .int 0, .int 0, .int 0, .null, .null, .null, .int 0]))]) [1] rfl
  have hDc := hD.sub (ws' := [(q5, .inr (5, [.null, .null, .null, .null, .null, .null, .null, .null, .null, .int 0, .int 0, .int 0, .null, .null, .null, .int 0]))]) [1] (by decide) rfl
  have hKc := hK.sub (tys' := []) [] rfl
  have hFc := va_free (wc := [(q5, .inr (5, [.null, .null, .null, .null, .null, .null, .null, .null, .null, .int 0, .int 0, .int 0, .null, .null, .null, .int 0]))]) hD hS hA [1] rfl
  refine va_callv (va_runI (As := [.ref p0, .int 285]) (rest := [.ref q5, .ref h0]) ⟨hx, hb, hml, hown, hts⟩ (c_X5_init_285 l dC dI H.size q5 p0) (cwI 2 hts gX3_init_X5_init rfl rfl rfl (hts (.initialized RX5) (by decide +kernel)) (hts (.methodLink RX3 27 yX5_init) (by decide +kernel)) (hts (.instanceMethod yX5_init) (by decide +kernel)) rfl (by decide +kernel) ⟨Nat.le_of_ble_eq_true rfl, Nat.le_of_ble_eq_true rfl⟩) ⟨fun a U g mk q => by obtain ⟨q0, q1, qP, qK, qD, qN⟩ := q; exact ⟨q0, q1, qP, va_K.moved (u := U) (U := U.calling g mk a) (Vm.Alike.refl U.vm) qK, qD, nwX_same (u := U) (U := U.calling g mk a) rfl qN⟩, fun U hU hW => ⟨rfl, by rw [hU], by rw [hU]; exact hPc, va_K.moved hW.alike hKc, hDc.weaken (fun _ _ _ _ => trivial), nwX_moved hW hN⟩⟩ rfl rfl hl.1 rfl (lv_room (Nat.le_of_ble_eq_true rfl)) dX3_init_37 ⟨Nat.le_of_ble_eq_true rfl, Nat.le_of_ble_eq_true rfl⟩) hS (fun q _ h => hFc q h) hFc (fun u18 t H1 locs ht hvm hw hB hz1 hk1 hS => ?_)
  obtain ⟨a6, a7, a8, a9, a10, a11, a12, a13, a14, a15, a16, hP1, hK1, hD1⟩ := hB
  rw [ht] at hP1
  have hK1 := va_K.moved hvm.symm hK1
  try dsimp only at hw
  obtain ⟨hP, hD⟩ := va_join (wr := [(h0, .inr (3, [.null, .null, .int 0, .int 0, .ref q1, .ref q3]))]) (w1 := [(q5, .inr (5, [.ref a6, .ref a7, .ref a8, .ref a9, .ref a10, .ref a11, .ref a12, .ref a13, .ref a14, .int 0, .int 0, .int 0, .ref a15, .ref a16, .ref p0, .int 1]))]) hP hD [1] [0] rfl rfl (by decide) (by decide) hk1 hFc hP1 hD1
  have hK := (hK.sub (tys' := []) [] rfl).app hK1
  generalize H1 = H at hP hS ⊢
  have hP : va_P (dC, dI) vwCl [(h0, .inr (3, [.null, .null, .int 0, .int 0, .ref q1, .ref q3])), (q5, .inr (5, [.ref a6, .ref a7, .ref a8, .ref a9, .ref a10, .ref a11, .ref a12, .ref a13, .ref a14, .int 0, .int 0, .int 0, .ref a15, .ref a16, .ref p0, .int 1]))] H := hP
  have hD : va_D A [(h0, .inr (3, [.null, .null, .int 0, .int 0, .ref q1, .ref q3])), (q5, .inr (5, [.ref a6, .ref a7, .ref a8, .ref a9, .ref a10, .ref a11, .ref a12, .ref a13, .ref a14, .int 0, .int 0, .int 0, .ref a15, .ref a16, .ref p0, .int 1]))] := hD
  have hK : va_K (dC, dI) vwCl [] s := hK
  refine W.widen (k := 14) (n := 13973) (Nat.le_of_ble_eq_true rfl) (Nat.le_of_ble_eq_true rfl) ?_
  have hP := hP.sub (ws' := [(h0, .inr (3, [.null, .null, .int 0, .int 0, .ref q1, .ref q3]))]) [0] rfl
  have hD := hD.sub (ws' := [(h0, .inr (3, [.null, .null, .int 0, .int 0, .ref q1, .ref q3]))]) [0] (by decide) rfl
  refine va_put (D := (dC, dI)) (ci := 3) (v := .ref q5) (ty := .object "CrateHelpers$Tree") (C := RX3) (T := TX3) (N := 6) hx hb hts hi3 tyX3 tyX3_ok nmX3 hown hK hP hD hS 0 rfl rfl 0 (by decide) (hts (.fieldLink RX3 30 "CrateHelpers$Solving" "tree" "LCrateHelpers$Tree;") (by decide +kernel)) (fun _ h9 => h9) rfl (by decide +kernel) rfl rfl (Nat.le_of_ble_eq_true rfl) dX3_init_40 (fun H locs hP hD hS => ?_)
  have hP : va_P (dC, dI) vwCl [(h0, .inr (3, [.ref q5, .null, .int 0, .int 0, .ref q1, .ref q3]))] H := hP
  have hD : va_D A [(h0, .inr (3, [.ref q5, .null, .int 0, .int 0, .ref q1, .ref q3]))] := hD
  refine lv_aload_n hx hb dX3_init_43 rfl (lv_at hl 0 rfl) ?_
  refine lv_aload_n hx hb dX3_init_44 rfl (lv_at hl 2 rfl) ?_
  refine va_put (D := (dC, dI)) (ci := 3) (v := .ref t0) (ty := .object "CrateHelpers$Team") (C := RX3) (T := TX3) (N := 6) hx hb hts hi3 tyX3 tyX3_ok nmX3 hown hK hP hD hS 0 rfl rfl 1 (by decide) (hts (.fieldLink RX3 34 "CrateHelpers$Solving" "team" "LCrateHelpers$Team;") (by decide +kernel)) (fun _ h9 => h9) rfl (by decide +kernel) rfl rfl (Nat.le_of_ble_eq_true rfl) dX3_init_45 (fun H locs hP hD hS => ?_)
  have hP : va_P (dC, dI) vwCl [(h0, .inr (3, [.ref q5, .ref t0, .int 0, .int 0, .ref q1, .ref q3]))] H := hP
  have hD : va_D A [(h0, .inr (3, [.ref q5, .ref t0, .int 0, .int 0, .ref q1, .ref q3]))] := hD
  exact W.vret hx hb hr (fun t ht hW => ⟨⟨(), rfl, trivial, trivial⟩, hS.F ht⟩) hS.2.2 dX3_init_48
