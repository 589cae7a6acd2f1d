set_option maxHeartbeats 4000000 in
set_option maxRecDepth 100000 in
/-- problem on a fresh object -/
theorem c_X6_problem (l : Launch) (dC : Nat → ClassId) (dI : Nat → Nat → Nat) (sz : Nat) (h0 : Nat) (a0 : Nat) (tm : Nat) (a4 : Nat) (le : Nat) (aq : Nat) (aj : Nat) (a12 : Nat) (sr : Nat) (a14 : Nat) (a15 : Nat) (a16 : Nat) : Met l yX6_problem wsX6_problem ({ frames := 3, cells := 0, slots := 0, locals := 120 }) (va_Pc [.ref h0] (fun U => U.heap.size = sz ∧ va_P (dC, dI) vwCl [(h0, .inr (6, [.ref a0, .int 0, .ref tm, .int 0, .ref a4, .int (-9), .ref le, .int (-9), .int 0, .int 0, .ref aq, .ref aj, .ref a12, .ref sr, .ref a14, .ref a15, .ref a16, .int 0]))] U.heap ∧ va_K (dC, dI) vwCl [] U ∧ va_D (fun _ => True) [(h0, .inr (6, [.ref a0, .int 0, .ref tm, .int 0, .ref a4, .int (-9), .ref le, .int (-9), .int 0, .int 0, .ref aq, .ref aj, .ref a12, .ref sr, .ref a14, .ref a15, .ref a16, .int 0]))])) (va_Qi (fun (r : Int32) (_ : Unit) => r = 0) (fun (_ : Unit) (_ : State) => True) (va_A [(h0, .inr (6, [.ref a0, .int 0, .ref tm, .int 0, .ref a4, .int (-9), .ref le, .int (-9), .int 0, .int 0, .ref aq, .ref aj, .ref a12, .ref sr, .ref a14, .ref a15, .ref a16, .int 0]))] sz)) 0 0 (va_A [(h0, .inr (6, [.ref a0, .int 0, .ref tm, .int 0, .ref a4, .int (-9), .ref le, .int (-9), .int 0, .int 0, .ref aq, .ref aj, .ref a12, .ref sr, .ref a14, .ref a15, .ref a16, .int 0]))] sz) := by
  refine Met.ofW (cc := cX6_problem) (maxL := 1) (ret := (some .int)) (by decide) rfl ?_
  intro p e s m args below meth c s₁ B hml hv
  obtain ⟨rfl, hsz, hP, hK, hD0⟩ := hv
  have hx := B.exec
  have hb := B.bytes
  have hr := B.returns
  have hts := atoms_spec (ws := wsX6_problem) B.pre
  have hown : s.vm.findClass RX6 = some m.cls := findClass_of_methodNamed B.named
  have hlocks := B.notSynchronized
  have hi6 : ∀ w ∈ u_ws RX6 TX6 18, w ∈ wsX6_problem := fun w h => List.mem_cons_of_mem _ (List.mem_append_right _ h)
  subst hsz
  have hD := hD0.self (sz := s.heap.size)
  generalize hAe : va_A [(h0, .inr (6, [.ref a0, .int 0, .ref tm, .int 0, .ref a4, .int (-9), .ref le, .int (-9), .int 0, .int 0, .ref aq, .ref aj, .ref a12, .ref sr, .ref a14, .ref a15, .ref a16, .int 0]))] s.heap.size = A at hD ⊢
  have hA : ∀ q : Nat, s.heap.size ≤ q → A q := fun q h => by rw [← hAe]; exact Or.inr h
  have hS : va_S A s.heap s.heap [] := va_S.rf
  have hP : va_P (dC, dI) vwCl [(h0, .inr (6, [.ref a0, .int 0, .ref tm, .int 0, .ref a4, .int (-9), .ref le, .int (-9), .int 0, .int 0, .ref aq, .ref aj, .ref a12, .ref sr, .ref a14, .ref a15, .ref a16, .int 0]))] s.heap := hP
  have hl := lv_entry ([.ref h0]) (n := 1) (Nat.le_of_ble_eq_true rfl)
  rw [lg_entry_eq]
  generalize (lg_sl ([.ref h0]) ++ List.replicate (1 - (lg_sl ([.ref h0])).length) Slot.unset).toArray = ls at hl ⊢
  have hl : lv_has ls 1 [(0, .ref h0)] := hl
  refine lv_aload_n hx hb dX6_problem_0 rfl (lv_at hl 0 rfl) ?_
  refine va_get (D := (dC, dI)) (ci := 6) (v := .int (-9)) (C := RX6) (T := TX6) (N := 18) hx hb hts hi6 hown hK hP 0 rfl rfl 5 (by decide) (hts (.fieldLink RX6 29 "CrateHelpers" "underWay" "I") (by decide +kernel)) (fun _ h9 => h9) rfl dX6_problem_1 ?_
  refine lv_bipush (v := (-9)) hx hb dX6_problem_4 (by decide) ?_
  refine lv_icmp_eq (tgt := 12) hx hb dX6_problem_6 (by decide) (fun _ => ?_) (fun c_1 => absurd c_1 (by decide))
  refine lv_aload_n hx hb dX6_problem_12 rfl (lv_at hl 0 rfl) ?_
  refine va_get (D := (dC, dI)) (ci := 6) (v := .int 0) (C := RX6) (T := TX6) (N := 18) hx hb hts hi6 hown hK hP 0 rfl rfl 1 (by decide) (hts (.fieldLink RX6 15 "CrateHelpers" "problemCount" "I") (by decide +kernel)) (fun _ h9 => h9) rfl dX6_problem_13 ?_
  refine lv_iconst (v := 5) hx hb dX6_problem_16 (by decide) ?_
  refine lv_icmp_lt (tgt := 23) hx hb dX6_problem_17 (by decide) (fun _ => ?_) (fun c_2 => absurd c_2 (by decide))
  refine lv_aload_n hx hb dX6_problem_23 rfl (lv_at hl 0 rfl) ?_
  refine lv_dup hx hb dX6_problem_24 rfl ?_
  refine va_get (D := (dC, dI)) (ci := 6) (v := .int 0) (C := RX6) (T := TX6) (N := 18) hx hb hts hi6 hown hK hP 0 rfl rfl 1 (by decide) (hts (.fieldLink RX6 15 "CrateHelpers" "problemCount" "I") (by decide +kernel)) (fun _ h9 => h9) rfl dX6_problem_25 ?_
  refine lv_dup_x1 hx hb dX6_problem_28 rfl rfl ?_
  refine lv_iconst (v := 1) hx hb dX6_problem_29 (by decide) ?_
  refine lv_iadd hx hb dX6_problem_30 ?_
  refine lv_topi (fun z3 ez3 => ?_)
  obtain rfl : z3 = 1 := ez3.trans (by decide)
  refine va_put (D := (dC, dI)) (ci := 6) (v := .int 1) (ty := .int) (C := RX6) (T := TX6) (N := 18) hx hb hts hi6 tyX6 tyX6_ok nmX6 hown hK hP hD hS 0 rfl rfl 1 (by decide) (hts (.fieldLink RX6 15 "CrateHelpers" "problemCount" "I") (by decide +kernel)) (fun _ h9 => h9) rfl (by decide +kernel) rfl rfl (Nat.le_of_ble_eq_true rfl) dX6_problem_31 (fun H locs hP hD hS => ?_)
  have hP : va_P (dC, dI) vwCl [(h0, .inr (6, [.ref a0, .int 1, .ref tm, .int 0, .ref a4, .int (-9), .ref le, .int (-9), .int 0, .int 0, .ref aq, .ref aj, .ref a12, .ref sr, .ref a14, .ref a15, .ref a16, .int 0]))] H := hP
  have hD : va_D A [(h0, .inr (6, [.ref a0, .int 1, .ref tm, .int 0, .ref a4, .int (-9), .ref le, .int (-9), .int 0, .int 0, .ref aq, .ref aj, .ref a12, .ref sr, .ref a14, .ref a15, .ref a16, .int 0]))] := hD
  exact W.iret (v := 0) hx hb hr (fun t ht hW => ⟨⟨0, (), rfl, rfl, trivial⟩, hS.F ht⟩) hS.2.2 dX6_problem_34
set_option maxHeartbeats 4000000 in
set_option maxRecDepth 100000 in
/-- variable on a fresh object -/
theorem c_X6_variable (l : Launch) (dC : Nat → ClassId) (dI : Nat → Nat → Nat) (sz : Nat) (h0 : Nat) (a0 : Nat) (tm : Nat) (a4 : Nat) (le : Nat) (aq : Nat) (aj : Nat) (a12 : Nat) (sr : Nat) (a14 : Nat) (a15 : Nat) (a16 : Nat) (p0 : Int32) (p1 : Int32) (p2 : Int32) : Met l yX6_variable wsX6_variable ({ frames := 3, cells := 0, slots := 0, locals := 120 }) (va_Pc [.ref h0, .int p0, .int p1, .int p2] (fun U => U.heap.size = sz ∧ va_P (dC, dI) vwCl [(h0, .inr (6, [.ref a0, .int 0, .ref tm, .int 0, .ref a4, .int (-9), .ref le, .int (-9), .int 0, .int 0, .ref aq, .ref aj, .ref a12, .ref sr, .ref a14, .ref a15, .ref a16, .int 0]))] U.heap ∧ va_K (dC, dI) vwCl [] U ∧ va_D (fun _ => True) [(h0, .inr (6, [.ref a0, .int 0, .ref tm, .int 0, .ref a4, .int (-9), .ref le, .int (-9), .int 0, .int 0, .ref aq, .ref aj, .ref a12, .ref sr, .ref a14, .ref a15, .ref a16, .int 0]))])) (va_Qi (fun (r : Int32) (_ : Unit) => r = -1) (fun (_ : Unit) (_ : State) => True) (va_A [(h0, .inr (6, [.ref a0, .int 0, .ref tm, .int 0, .ref a4, .int (-9), .ref le, .int (-9), .int 0, .int 0, .ref aq, .ref aj, .ref a12, .ref sr, .ref a14, .ref a15, .ref a16, .int 0]))] sz)) 0 0 (va_A [(h0, .inr (6, [.ref a0, .int 0, .ref tm, .int 0, .ref a4, .int (-9), .ref le, .int (-9), .int 0, .int 0, .ref aq, .ref aj, .ref a12, .ref sr, .ref a14, .ref a15, .ref a16, .int 0]))] sz) := by
  refine Met.ofW (cc := cX6_variable) (maxL := 5) (ret := (some .int)) (by decide) rfl ?_
  intro p e s m args below meth c s₁ B hml hv
  obtain ⟨rfl, hsz, hP, hK, hD0⟩ := hv
  have hx := B.exec
  have hb := B.bytes
  have hr := B.returns
  have hts := atoms_spec (ws := wsX6_variable) B.pre
  have hown : s.vm.findClass RX6 = some m.cls := findClass_of_methodNamed B.named
  have hlocks := B.notSynchronized
  have hi6 : ∀ w ∈ u_ws RX6 TX6 18, w ∈ wsX6_variable := fun w h => List.mem_cons_of_mem _ (List.mem_append_left _ (List.mem_append_right _ h))
  have hi1 : ∀ w ∈ u_ws RX1 TX1 9, w ∈ wsX6_variable := fun w h => List.mem_cons_of_mem _ (List.mem_append_right _ h)
  subst hsz
  have hD := hD0.self (sz := s.heap.size)
  generalize hAe : va_A [(h0, .inr (6, [.ref a0, .int 0, .ref tm, .int 0, .ref a4, .int (-9), .ref le, .int (-9), .int 0, .int 0, .ref aq, .ref aj, .ref a12, .ref sr, .ref a14, .ref a15, .ref a16, .int 0]))] s.heap.size = A at hD ⊢
  have hA : ∀ q : Nat, s.heap.size ≤ q → A q := fun q h => by rw [← hAe]; exact Or.inr h
  have hS : va_S A s.heap s.heap [] := va_S.rf
  have hP : va_P (dC, dI) vwCl [(h0, .inr (6, [.ref a0, .int 0, .ref tm, .int 0, .ref a4, .int (-9), .ref le, .int (-9), .int 0, .int 0, .ref aq, .ref aj, .ref a12, .ref sr, .ref a14, .ref a15, .ref a16, .int 0]))] s.heap := hP
  have hl := lv_entry ([.ref h0, .int p0, .int p1, .int p2]) (n := 5) (Nat.le_of_ble_eq_true rfl)
  rw [lg_entry_eq]
  generalize (lg_sl ([.ref h0, .int p0, .int p1, .int p2]) ++ List.replicate (5 - (lg_sl ([.ref h0, .int p0, .int p1, .int p2])).length) Slot.unset).toArray = ls at hl ⊢
  have hl : lv_has ls 5 [(0, .ref h0), (1, .int p0), (2, .int p1), (3, .int p2)] := hl
  refine lv_aload_n hx hb dX6_variable_0 rfl (lv_at hl 0 rfl) ?_
  refine lv_iload_n hx hb dX6_variable_1 rfl (lv_at hl 1 rfl) ?_
  have hPc := hP.sub (ws' := [(h0, .inr (6, [.ref a0, .int 0, .ref tm, .int 0, .ref a4, .int (-9), .ref le, .int (-9), .int 0, .int 0, .ref aq, .ref aj, .ref a12, .ref sr, .ref a14, .ref a15, .ref a16, .int 0]))]) [0] rfl
  have hDc := hD.sub (ws' := [(h0, .inr (6, [.ref a0, .int 0, .ref tm, .int 0, .ref a4, .int (-9), .ref le, .int (-9), .int 0, .int 0, .ref aq, .ref aj, .ref a12, .ref sr, .ref a14, .ref a15, .ref a16, .int 0]))]) [0] (by decide) rfl
  have hKc := hK.sub (tys' := []) [] rfl
  have hFc := va_free (wc := [(h0, .inr (6, [.ref a0, .int 0, .ref tm, .int 0, .ref a4, .int (-9), .ref le, .int (-9), .int 0, .int 0, .ref aq, .ref aj, .ref a12, .ref sr, .ref a14, .ref a15, .ref a16, .int 0]))]) hD hS hA [0] rfl
  refine va_calli (va_runV (As := [.int p0]) (rest := []) ⟨hx, hb, hml, hown, hts⟩ (c_X6_isProblem l dC dI s.heap.size h0 a0 tm a4 le aq aj a12 sr a14 a15 a16 p0) (cwV 1 hts gX6_variable_X6_isProblem rfl rfl rfl (by decide +kernel) ⟨Nat.le_of_ble_eq_true rfl, Nat.le_of_ble_eq_true rfl⟩) ⟨fun a U g mk q => by obtain ⟨q0, q1, qP, qK, qD⟩ := q; exact ⟨q0, q1, qP, va_K.moved (u := U) (U := U.calling g mk a) (Vm.Alike.refl U.vm) qK, qD⟩, va_recv hKc hPc (ci := 6) (q0 := 0) rfl rfl, fun U hU hW => ⟨rfl, by rw [hU], by rw [hU]; exact hPc, va_K.moved hW.alike hKc, hDc.weaken (fun _ _ _ _ => trivial)⟩⟩ rfl rfl hl.1 rfl (lv_room (Nat.le_of_ble_eq_true rfl)) dX6_variable_2 ⟨Nat.le_of_ble_eq_true rfl, Nat.le_of_ble_eq_true rfl⟩) hS (fun q _ h => hFc q h) hFc (fun r1 u2 t H1 locs ht hvm hw hB hz1 hk1 hS => ?_)
  obtain ⟨hP1, hK1, hD1⟩ := hB
  rw [ht] at hP1
  have hK1 := va_K.moved hvm.symm hK1
  try dsimp only at hw
  obtain ⟨hP, hD⟩ := va_join (wr := []) (w1 := [(h0, .inr (6, [.ref a0, .int 0, .ref tm, .int 0, .ref a4, .int (-9), .ref le, .int (-9), .int 0, .int 0, .ref aq, .ref aj, .ref a12, .ref sr, .ref a14, .ref a15, .ref a16, .int 0]))]) hP hD [0] [] rfl rfl (by decide) (by decide) hk1 hFc hP1 hD1
  have hK := (hK.sub (tys' := []) [] rfl).app hK1
  generalize H1 = H at hP hS ⊢
  have hP : va_P (dC, dI) vwCl [(h0, .inr (6, [.ref a0, .int 0, .ref tm, .int 0, .ref a4, .int (-9), .ref le, .int (-9), .int 0, .int 0, .ref aq, .ref aj, .ref a12, .ref sr, .ref a14, .ref a15, .ref a16, .int 0]))] H := hP
  have hD : va_D A [(h0, .inr (6, [.ref a0, .int 0, .ref tm, .int 0, .ref a4, .int (-9), .ref le, .int (-9), .int 0, .int 0, .ref aq, .ref aj, .ref a12, .ref sr, .ref a14, .ref a15, .ref a16, .int 0]))] := hD
  have hK : va_K (dC, dI) vwCl [] s := hK
  obtain rfl : r1 = 0 := hw
  refine lv_if_eq (tgt := 27) hx hb dX6_variable_5 (by decide) (fun _ => ?_) (fun c_3 => absurd c_3 (by decide))
  refine lv_iconst (v := (-1)) hx hb dX6_variable_27 (by decide) ?_
  exact W.iret (v := (-1)) hx hb hr (fun t ht hW => ⟨⟨(-1), (), rfl, rfl, trivial⟩, hS.F ht⟩) hS.2.2 dX6_variable_28
set_option maxHeartbeats 4000000 in
set_option maxRecDepth 100000 in
/-- cost on a fresh object -/
theorem c_X6_cost (l : Launch) (dC : Nat → ClassId) (dI : Nat → Nat → Nat) (sz : Nat) (h0 : Nat) (a0 : Nat) (tm : Nat) (a4 : Nat) (le : Nat) (aq : Nat) (aj : Nat) (a12 : Nat) (sr : Nat) (a14 : Nat) (a15 : Nat) (a16 : Nat) (p0 : Int32) (p1 : Int32) (p2 : Int32) (p3 : Int32) : Met l yX6_cost wsX6_cost ({ frames := 3, cells := 0, slots := 0, locals := 120 }) (va_Pc [.ref h0, .int p0, .int p1, .int p2, .int p3] (fun U => U.heap.size = sz ∧ va_P (dC, dI) vwCl [(h0, .inr (6, [.ref a0, .int 0, .ref tm, .int 0, .ref a4, .int (-9), .ref le, .int (-9), .int 0, .int 0, .ref aq, .ref aj, .ref a12, .ref sr, .ref a14, .ref a15, .ref a16, .int 0]))] U.heap ∧ va_K (dC, dI) vwCl [] U ∧ va_D (fun _ => True) [(h0, .inr (6, [.ref a0, .int 0, .ref tm, .int 0, .ref a4, .int (-9), .ref le, .int (-9), .int 0, .int 0, .ref aq, .ref aj, .ref a12, .ref sr, .ref a14, .ref a15, .ref a16, .int 0]))])) (va_Qi (fun (r : Int32) (_ : Unit) => r = -1000000) (fun (_ : Unit) (_ : State) => True) (va_A [(h0, .inr (6, [.ref a0, .int 0, .ref tm, .int 0, .ref a4, .int (-9), .ref le, .int (-9), .int 0, .int 0, .ref aq, .ref aj, .ref a12, .ref sr, .ref a14, .ref a15, .ref a16, .int 0]))] sz)) 0 0 (va_A [(h0, .inr (6, [.ref a0, .int 0, .ref tm, .int 0, .ref a4, .int (-9), .ref le, .int (-9), .int 0, .int 0, .ref aq, .ref aj, .ref a12, .ref sr, .ref a14, .ref a15, .ref a16, .int 0]))] sz) := by
  refine Met.ofW (cc := cX6_cost) (maxL := 5) (ret := (some .int)) (by decide) rfl ?_
  intro p e s m args below meth c s₁ B hml hv
  obtain ⟨rfl, hsz, hP, hK, hD0⟩ := hv
  have hx := B.exec
  have hb := B.bytes
  have hr := B.returns
  have hts := atoms_spec (ws := wsX6_cost) B.pre
  have hown : s.vm.findClass RX6 = some m.cls := findClass_of_methodNamed B.named
  have hlocks := B.notSynchronized
  have hi6 : ∀ w ∈ u_ws RX6 TX6 18, w ∈ wsX6_cost := fun w h => List.mem_cons_of_mem _ (List.mem_append_left _ (List.mem_append_right _ h))
  have hi1 : ∀ w ∈ u_ws RX1 TX1 9, w ∈ wsX6_cost := fun w h => List.mem_cons_of_mem _ (List.mem_append_right _ h)
  subst hsz
  have hD := hD0.self (sz := s.heap.size)
  generalize hAe : va_A [(h0, .inr (6, [.ref a0, .int 0, .ref tm, .int 0, .ref a4, .int (-9), .ref le, .int (-9), .int 0, .int 0, .ref aq, .ref aj, .ref a12, .ref sr, .ref a14, .ref a15, .ref a16, .int 0]))] s.heap.size = A at hD ⊢
  have hA : ∀ q : Nat, s.heap.size ≤ q → A q := fun q h => by rw [← hAe]; exact Or.inr h
  have hS : va_S A s.heap s.heap [] := va_S.rf
  have hP : va_P (dC, dI) vwCl [(h0, .inr (6, [.ref a0, .int 0, .ref tm, .int 0, .ref a4, .int (-9), .ref le, .int (-9), .int 0, .int 0, .ref aq, .ref aj, .ref a12, .ref sr, .ref a14, .ref a15, .ref a16, .int 0]))] s.heap := hP
  have hl := lv_entry ([.ref h0, .int p0, .int p1, .int p2, .int p3]) (n := 5) (Nat.le_of_ble_eq_true rfl)
  rw [lg_entry_eq]
  generalize (lg_sl ([.ref h0, .int p0, .int p1, .int p2, .int p3]) ++ List.replicate (5 - (lg_sl ([.ref h0, .int p0, .int p1, .int p2, .int p3])).length) Slot.unset).toArray = ls at hl ⊢
  have hl : lv_has ls 5 [(0, .ref h0), (1, .int p0), (2, .int p1), (3, .int p2), (4, .int p3)] := hl
  refine lv_aload_n hx hb dX6_cost_0 rfl (lv_at hl 0 rfl) ?_
  refine lv_iload_n hx hb dX6_cost_1 rfl (lv_at hl 1 rfl) ?_
  have hPc := hP.sub (ws' := [(h0, .inr (6, [.ref a0, .int 0, .ref tm, .int 0, .ref a4, .int (-9), .ref le, .int (-9), .int 0, .int 0, .ref aq, .ref aj, .ref a12, .ref sr, .ref a14, .ref a15, .ref a16, .int 0]))]) [0] rfl
  have hDc := hD.sub (ws' := [(h0, .inr (6, [.ref a0, .int 0, .ref tm, .int 0, .ref a4, .int (-9), .ref le, .int (-9), .int 0, .int 0, .ref aq, .ref aj, .ref a12, .ref sr, .ref a14, .ref a15, .ref a16, .int 0]))]) [0] (by decide) rfl
  have hKc := hK.sub (tys' := []) [] rfl
  have hFc := va_free (wc := [(h0, .inr (6, [.ref a0, .int 0, .ref tm, .int 0, .ref a4, .int (-9), .ref le, .int (-9), .int 0, .int 0, .ref aq, .ref aj, .ref a12, .ref sr, .ref a14, .ref a15, .ref a16, .int 0]))]) hD hS hA [0] rfl
  refine va_calli (va_runV (As := [.int p0]) (rest := []) ⟨hx, hb, hml, hown, hts⟩ (c_X6_isProblem l dC dI s.heap.size h0 a0 tm a4 le aq aj a12 sr a14 a15 a16 p0) (cwV 1 hts gX6_cost_X6_isProblem rfl rfl rfl (by decide +kernel) ⟨Nat.le_of_ble_eq_true rfl, Nat.le_of_ble_eq_true rfl⟩) ⟨fun a U g mk q => by obtain ⟨q0, q1, qP, qK, qD⟩ := q; exact ⟨q0, q1, qP, va_K.moved (u := U) (U := U.calling g mk a) (Vm.Alike.refl U.vm) qK, qD⟩, va_recv hKc hPc (ci := 6) (q0 := 0) rfl rfl, fun U hU hW => ⟨rfl, by rw [hU], by rw [hU]; exact hPc, va_K.moved hW.alike hKc, hDc.weaken (fun _ _ _ _ => trivial)⟩⟩ rfl rfl hl.1 rfl (lv_room (Nat.le_of_ble_eq_true rfl)) dX6_cost_2 ⟨Nat.le_of_ble_eq_true rfl, Nat.le_of_ble_eq_true rfl⟩) hS (fun q _ h => hFc q h) hFc (fun r1 u2 t H1 locs ht hvm hw hB hz1 hk1 hS => ?_)
  obtain ⟨hP1, hK1, hD1⟩ := hB
  rw [ht] at hP1
  have hK1 := va_K.moved hvm.symm hK1
  try dsimp only at hw
  obtain ⟨hP, hD⟩ := va_join (wr := []) (w1 := [(h0, .inr (6, [.ref a0, .int 0, .ref tm, .int 0, .ref a4, .int (-9), .ref le, .int (-9), .int 0, .int 0, .ref aq, .ref aj, .ref a12, .ref sr, .ref a14, .ref a15, .ref a16, .int 0]))]) hP hD [0] [] rfl rfl (by decide) (by decide) hk1 hFc hP1 hD1
  have hK := (hK.sub (tys' := []) [] rfl).app hK1
  generalize H1 = H at hP hS ⊢
  have hP : va_P (dC, dI) vwCl [(h0, .inr (6, [.ref a0, .int 0, .ref tm, .int 0, .ref a4, .int (-9), .ref le, .int (-9), .int 0, .int 0, .ref aq, .ref aj, .ref a12, .ref sr, .ref a14, .ref a15, .ref a16, .int 0]))] H := hP
  have hD : va_D A [(h0, .inr (6, [.ref a0, .int 0, .ref tm, .int 0, .ref a4, .int (-9), .ref le, .int (-9), .int 0, .int 0, .ref aq, .ref aj, .ref a12, .ref sr, .ref a14, .ref a15, .ref a16, .int 0]))] := hD
  have hK : va_K (dC, dI) vwCl [] s := hK
  obtain rfl : r1 = 0 := hw
  refine lv_if_eq (tgt := 34) hx hb dX6_cost_5 (by decide) (fun _ => ?_) (fun c_3 => absurd c_3 (by decide))
  refine lv_aload_n hx hb dX6_cost_34 rfl (lv_at hl 0 rfl) ?_
  refine lv_iconst (v := (-1)) hx hb dX6_cost_35 (by decide) ?_
  have hPc := hP.sub (ws' := [(h0, .inr (6, [.ref a0, .int 0, .ref tm, .int 0, .ref a4, .int (-9), .ref le, .int (-9), .int 0, .int 0, .ref aq, .ref aj, .ref a12, .ref sr, .ref a14, .ref a15, .ref a16, .int 0]))]) [0] rfl
  have hDc := hD.sub (ws' := [(h0, .inr (6, [.ref a0, .int 0, .ref tm, .int 0, .ref a4, .int (-9), .ref le, .int (-9), .int 0, .int 0, .ref aq, .ref aj, .ref a12, .ref sr, .ref a14, .ref a15, .ref a16, .int 0]))]) [0] (by decide) rfl
  have hKc := hK.sub (tys' := []) [] rfl
  have hFc := va_free (wc := [(h0, .inr (6, [.ref a0, .int 0, .ref tm, .int 0, .ref a4, .int (-9), .ref le, .int (-9), .int 0, .int 0, .ref aq, .ref aj, .ref a12, .ref sr, .ref a14, .ref a15, .ref a16, .int 0]))]) hD hS hA [0] rfl
  refine va_calli (va_runV (As := [.int (-1)]) (rest := []) ⟨hx, hb, hml, hown, hts⟩ (c_X6_refuse l dC dI H.size h0 a0 tm a4 le aq aj a12 sr a14 a15 a16 (-1)) (cwV 1 hts gX6_cost_X6_refuse rfl rfl rfl (by decide +kernel) ⟨Nat.le_of_ble_eq_true rfl, Nat.le_of_ble_eq_true rfl⟩) ⟨fun a U g mk q => by obtain ⟨q0, q1, qP, qK, qD⟩ := q; exact ⟨q0, q1, qP, va_K.moved (u := U) (U := U.calling g mk a) (Vm.Alike.refl U.vm) qK, qD⟩, va_recv hKc hPc (ci := 6) (q0 := 0) rfl rfl, fun U hU hW => ⟨rfl, by rw [hU], by rw [hU]; exact hPc, va_K.moved hW.alike hKc, hDc.weaken (fun _ _ _ _ => trivial)⟩⟩ rfl rfl hl.1 rfl (lv_room (Nat.le_of_ble_eq_true rfl)) dX6_cost_36 ⟨Nat.le_of_ble_eq_true rfl, Nat.le_of_ble_eq_true rfl⟩) hS (fun q _ h => hFc q h) hFc (fun r4 u5 t H1 locs ht hvm hw hB hz1 hk1 hS => ?_)
  obtain ⟨hP, hD⟩ := va_join (wr := []) (w1 := []) hP hD [0] [] rfl rfl (by decide) (by decide) hk1 hFc (va_Pnil _ _ _) (va_Dnil _)
  generalize H1 = H at hP hS ⊢
  have hP : va_P (dC, dI) vwCl [] H := hP
  have hD : va_D A [] := hD
  have hK : va_K (dC, dI) vwCl [] s := hK
  obtain rfl : r4 = -1000000 := hw
  exact W.iret (v := (-1000000)) hx hb hr (fun t ht hW => ⟨⟨(-1000000), (), rfl, rfl, trivial⟩, hS.F ht⟩) hS.2.2 dX6_cost_39
set_option maxHeartbeats 4000000 in
set_option maxRecDepth 100000 in
/-- rule on a fresh object -/
theorem c_X6_rule (l : Launch) (dC : Nat → ClassId) (dI : Nat → Nat → Nat) (sz : Nat) (h0 : Nat) (a0 : Nat) (tm : Nat) (a4 : Nat) (le : Nat) (aq : Nat) (aj : Nat) (a12 : Nat) (sr : Nat) (a14 : Nat) (a15 : Nat) (a16 : Nat) (p0 : Int32) (p1 : Int32) (p2 : Int32) : Met l yX6_rule wsX6_rule ({ frames := 3, cells := 0, slots := 0, locals := 120 }) (va_Pc [.ref h0, .int p0, .int p1, .int p2] (fun U => U.heap.size = sz ∧ va_P (dC, dI) vwCl [(h0, .inr (6, [.ref a0, .int 0, .ref tm, .int 0, .ref a4, .int (-9), .ref le, .int (-9), .int 0, .int 0, .ref aq, .ref aj, .ref a12, .ref sr, .ref a14, .ref a15, .ref a16, .int 0]))] U.heap ∧ va_K (dC, dI) vwCl [] U ∧ va_D (fun _ => True) [(h0, .inr (6, [.ref a0, .int 0, .ref tm, .int 0, .ref a4, .int (-9), .ref le, .int (-9), .int 0, .int 0, .ref aq, .ref aj, .ref a12, .ref sr, .ref a14, .ref a15, .ref a16, .int 0]))])) (va_Qi (fun (r : Int32) (_ : Unit) => r = -1) (fun (_ : Unit) (_ : State) => True) (va_A [(h0, .inr (6, [.ref a0, .int 0, .ref tm, .int 0, .ref a4, .int (-9), .ref le, .int (-9), .int 0, .int 0, .ref aq, .ref aj, .ref a12, .ref sr, .ref a14, .ref a15, .ref a16, .int 0]))] sz)) 0 0 (va_A [(h0, .inr (6, [.ref a0, .int 0, .ref tm, .int 0, .ref a4, .int (-9), .ref le, .int (-9), .int 0, .int 0, .ref aq, .ref aj, .ref a12, .ref sr, .ref a14, .ref a15, .ref a16, .int 0]))] sz) := by
  refine Met.ofW (cc := cX6_rule) (maxL := 5) (ret := (some .int)) (by decide) rfl ?_
  intro p e s m args below meth c s₁ B hml hv
  obtain ⟨rfl, hsz, hP, hK, hD0⟩ := hv
  have hx := B.exec
  have hb := B.bytes
  have hr := B.returns
  have hts := atoms_spec (ws := wsX6_rule) B.pre
  have hown : s.vm.findClass RX6 = some m.cls := findClass_of_methodNamed B.named
  have hlocks := B.notSynchronized
  have hi6 : ∀ w ∈ u_ws RX6 TX6 18, w ∈ wsX6_rule := fun w h => List.mem_cons_of_mem _ (List.mem_append_left _ (List.mem_append_left _ (List.mem_append_right _ h)))
  have hi1 : ∀ w ∈ u_ws RX1 TX1 9, w ∈ wsX6_rule := fun w h => List.mem_cons_of_mem _ (List.mem_append_left _ (List.mem_append_right _ h))
  have hi2 : ∀ w ∈ u_ws RX2 TX2 7, w ∈ wsX6_rule := fun w h => List.mem_cons_of_mem _ (List.mem_append_right _ h)
  subst hsz
  have hD := hD0.self (sz := s.heap.size)
  generalize hAe : va_A [(h0, .inr (6, [.ref a0, .int 0, .ref tm, .int 0, .ref a4, .int (-9), .ref le, .int (-9), .int 0, .int 0, .ref aq, .ref aj, .ref a12, .ref sr, .ref a14, .ref a15, .ref a16, .int 0]))] s.heap.size = A at hD ⊢
  have hA : ∀ q : Nat, s.heap.size ≤ q → A q := fun q h => by rw [← hAe]; exact Or.inr h
  have hS : va_S A s.heap s.heap [] := va_S.rf
  have hP : va_P (dC, dI) vwCl [(h0, .inr (6, [.ref a0, .int 0, .ref tm, .int 0, .ref a4, .int (-9), .ref le, .int (-9), .int 0, .int 0, .ref aq, .ref aj, .ref a12, .ref sr, .ref a14, .ref a15, .ref a16, .int 0]))] s.heap := hP
  have hl := lv_entry ([.ref h0, .int p0, .int p1, .int p2]) (n := 5) (Nat.le_of_ble_eq_true rfl)
  rw [lg_entry_eq]
  generalize (lg_sl ([.ref h0, .int p0, .int p1, .int p2]) ++ List.replicate (5 - (lg_sl ([.ref h0, .int p0, .int p1, .int p2])).length) Slot.unset).toArray = ls at hl ⊢
  have hl : lv_has ls 5 [(0, .ref h0), (1, .int p0), (2, .int p1), (3, .int p2)] := hl
  refine lv_aload_n hx hb dX6_rule_0 rfl (lv_at hl 0 rfl) ?_
  refine lv_iload_n hx hb dX6_rule_1 rfl (lv_at hl 1 rfl) ?_
  have hPc := hP.sub (ws' := [(h0, .inr (6, [.ref a0, .int 0, .ref tm, .int 0, .ref a4, .int (-9), .ref le, .int (-9), .int 0, .int 0, .ref aq, .ref aj, .ref a12, .ref sr, .ref a14, .ref a15, .ref a16, .int 0]))]) [0] rfl
  have hDc := hD.sub (ws' := [(h0, .inr (6, [.ref a0, .int 0, .ref tm, .int 0, .ref a4, .int (-9), .ref le, .int (-9), .int 0, .int 0, .ref aq, .ref aj, .ref a12, .ref sr, .ref a14, .ref a15, .ref a16, .int 0]))]) [0] (by decide) rfl
  have hKc := hK.sub (tys' := []) [] rfl
  have hFc := va_free (wc := [(h0, .inr (6, [.ref a0, .int 0, .ref tm, .int 0, .ref a4, .int (-9), .ref le, .int (-9), .int 0, .int 0, .ref aq, .ref aj, .ref a12, .ref sr, .ref a14, .ref a15, .ref a16, .int 0]))]) hD hS hA [0] rfl
  refine va_calli (va_runV (As := [.int p0]) (rest := []) ⟨hx, hb, hml, hown, hts⟩ (c_X6_isProblem l dC dI s.heap.size h0 a0 tm a4 le aq aj a12 sr a14 a15 a16 p0) (cwV 1 hts gX6_rule_X6_isProblem rfl rfl rfl (by decide +kernel) ⟨Nat.le_of_ble_eq_true rfl, Nat.le_of_ble_eq_true rfl⟩) ⟨fun a U g mk q => by obtain ⟨q0, q1, qP, qK, qD⟩ := q; exact ⟨q0, q1, qP, va_K.moved (u := U) (U := U.calling g mk a) (Vm.Alike.refl U.vm) qK, qD⟩, va_recv hKc hPc (ci := 6) (q0 := 0) rfl rfl, fun U hU hW => ⟨rfl, by rw [hU], by rw [hU]; exact hPc, va_K.moved hW.alike hKc, hDc.weaken (fun _ _ _ _ => trivial)⟩⟩ rfl rfl hl.1 rfl (lv_room (Nat.le_of_ble_eq_true rfl)) dX6_rule_2 ⟨Nat.le_of_ble_eq_true rfl, Nat.le_of_ble_eq_true rfl⟩) hS (fun q _ h => hFc q h) hFc (fun r1 u2 t H1 locs ht hvm hw hB hz1 hk1 hS => ?_)
  obtain ⟨hP1, hK1, hD1⟩ := hB
  rw [ht] at hP1
  have hK1 := va_K.moved hvm.symm hK1
  try dsimp only at hw
  obtain ⟨hP, hD⟩ := va_join (wr := []) (w1 := [(h0, .inr (6, [.ref a0, .int 0, .ref tm, .int 0, .ref a4, .int (-9), .ref le, .int (-9), .int 0, .int 0, .ref aq, .ref aj, .ref a12, .ref sr, .ref a14, .ref a15, .ref a16, .int 0]))]) hP hD [0] [] rfl rfl (by decide) (by decide) hk1 hFc hP1 hD1
  have hK := (hK.sub (tys' := []) [] rfl).app hK1
  generalize H1 = H at hP hS ⊢
  have hP : va_P (dC, dI) vwCl [(h0, .inr (6, [.ref a0, .int 0, .ref tm, .int 0, .ref a4, .int (-9), .ref le, .int (-9), .int 0, .int 0, .ref aq, .ref aj, .ref a12, .ref sr, .ref a14, .ref a15, .ref a16, .int 0]))] H := hP
  have hD : va_D A [(h0, .inr (6, [.ref a0, .int 0, .ref tm, .int 0, .ref a4, .int (-9), .ref le, .int (-9), .int 0, .int 0, .ref aq, .ref aj, .ref a12, .ref sr, .ref a14, .ref a15, .ref a16, .int 0]))] := hD
  have hK : va_K (dC, dI) vwCl [] s := hK
  obtain rfl : r1 = 0 := hw
  refine lv_if_eq (tgt := 25) hx hb dX6_rule_5 (by decide) (fun _ => ?_) (fun c_3 => absurd c_3 (by decide))
  refine lv_iconst (v := (-1)) hx hb dX6_rule_25 (by decide) ?_
  exact W.iret (v := (-1)) hx hb hr (fun t ht hW => ⟨⟨(-1), (), rfl, rfl, trivial⟩, hS.F ht⟩) hS.2.2 dX6_rule_26
set_option maxHeartbeats 4000000 in
set_option maxRecDepth 100000 in
/-- part on a fresh object -/
theorem c_X6_part (l : Launch) (dC : Nat → ClassId) (dI : Nat → Nat → Nat) (sz : Nat) (h0 : Nat) (a0 : Nat) (tm : Nat) (a4 : Nat) (le : Nat) (aq : Nat) (aj : Nat) (a12 : Nat) (sr : Nat) (a14 : Nat) (a15 : Nat) (a16 : Nat) (p0 : Int32) (p1 : Int32) (p2 : Int32) (p3 : Int32) : Met l yX6_part wsX6_part ({ frames := 3, cells := 0, slots := 0, locals := 120 }) (va_Pc [.ref h0, .int p0, .int p1, .int p2, .int p3] (fun U => U.heap.size = sz ∧ va_P (dC, dI) vwCl [(h0, .inr (6, [.ref a0, .int 0, .ref tm, .int 0, .ref a4, .int (-9), .ref le, .int (-9), .int 0, .int 0, .ref aq, .ref aj, .ref a12, .ref sr, .ref a14, .ref a15, .ref a16, .int 0]))] U.heap ∧ va_K (dC, dI) vwCl [] U ∧ va_D (fun _ => True) [(h0, .inr (6, [.ref a0, .int 0, .ref tm, .int 0, .ref a4, .int (-9), .ref le, .int (-9), .int 0, .int 0, .ref aq, .ref aj, .ref a12, .ref sr, .ref a14, .ref a15, .ref a16, .int 0]))])) (va_Qi (fun (r : Int32) (_ : Unit) => r = -1) (fun (_ : Unit) (_ : State) => True) (va_A [(h0, .inr (6, [.ref a0, .int 0, .ref tm, .int 0, .ref a4, .int (-9), .ref le, .int (-9), .int 0, .int 0, .ref aq, .ref aj, .ref a12, .ref sr, .ref a14, .ref a15, .ref a16, .int 0]))] sz)) 0 0 (va_A [(h0, .inr (6, [.ref a0, .int 0, .ref tm, .int 0, .ref a4, .int (-9), .ref le, .int (-9), .int 0, .int 0, .ref aq, .ref aj, .ref a12, .ref sr, .ref a14, .ref a15, .ref a16, .int 0]))] sz) := by
  refine Met.ofW (cc := cX6_part) (maxL := 6) (ret := (some .int)) (by decide) rfl ?_
  intro p e s m args below meth c s₁ B hml hv
  obtain ⟨rfl, hsz, hP, hK, hD0⟩ := hv
  have hx := B.exec
  have hb := B.bytes
  have hr := B.returns
  have hts := atoms_spec (ws := wsX6_part) B.pre
  have hown : s.vm.findClass RX6 = some m.cls := findClass_of_methodNamed B.named
  have hlocks := B.notSynchronized
  have hi6 : ∀ w ∈ u_ws RX6 TX6 18, w ∈ wsX6_part := fun w h => List.mem_cons_of_mem _ (List.mem_append_left _ (List.mem_append_left _ (List.mem_append_right _ h)))
  have hi1 : ∀ w ∈ u_ws RX1 TX1 9, w ∈ wsX6_part := fun w h => List.mem_cons_of_mem _ (List.mem_append_left _ (List.mem_append_right _ h))
  have hi2 : ∀ w ∈ u_ws RX2 TX2 7, w ∈ wsX6_part := fun w h => List.mem_cons_of_mem _ (List.mem_append_right _ h)
  subst hsz
  have hD := hD0.self (sz := s.heap.size)
  generalize hAe : va_A [(h0, .inr (6, [.ref a0, .int 0, .ref tm, .int 0, .ref a4, .int (-9), .ref le, .int (-9), .int 0, .int 0, .ref aq, .ref aj, .ref a12, .ref sr, .ref a14, .ref a15, .ref a16, .int 0]))] s.heap.size = A at hD ⊢
  have hA : ∀ q : Nat, s.heap.size ≤ q → A q := fun q h => by rw [← hAe]; exact Or.inr h
  have hS : va_S A s.heap s.heap [] := va_S.rf
  have hP : va_P (dC, dI) vwCl [(h0, .inr (6, [.ref a0, .int 0, .ref tm, .int 0, .ref a4, .int (-9), .ref le, .int (-9), .int 0, .int 0, .ref aq, .ref aj, .ref a12, .ref sr, .ref a14, .ref a15, .ref a16, .int 0]))] s.heap := hP
  have hl := lv_entry ([.ref h0, .int p0, .int p1, .int p2, .int p3]) (n := 6) (Nat.le_of_ble_eq_true rfl)
  rw [lg_entry_eq]
  generalize (lg_sl ([.ref h0, .int p0, .int p1, .int p2, .int p3]) ++ List.replicate (6 - (lg_sl ([.ref h0, .int p0, .int p1, .int p2, .int p3])).length) Slot.unset).toArray = ls at hl ⊢
  have hl : lv_has ls 6 [(0, .ref h0), (1, .int p0), (2, .int p1), (3, .int p2), (4, .int p3)] := hl
  refine lv_aload_n hx hb dX6_part_0 rfl (lv_at hl 0 rfl) ?_
  refine lv_iload_n hx hb dX6_part_1 rfl (lv_at hl 1 rfl) ?_
  have hPc := hP.sub (ws' := [(h0, .inr (6, [.ref a0, .int 0, .ref tm, .int 0, .ref a4, .int (-9), .ref le, .int (-9), .int 0, .int 0, .ref aq, .ref aj, .ref a12, .ref sr, .ref a14, .ref a15, .ref a16, .int 0]))]) [0] rfl
  have hDc := hD.sub (ws' := [(h0, .inr (6, [.ref a0, .int 0, .ref tm, .int 0, .ref a4, .int (-9), .ref le, .int (-9), .int 0, .int 0, .ref aq, .ref aj, .ref a12, .ref sr, .ref a14, .ref a15, .ref a16, .int 0]))]) [0] (by decide) rfl
  have hKc := hK.sub (tys' := []) [] rfl
  have hFc := va_free (wc := [(h0, .inr (6, [.ref a0, .int 0, .ref tm, .int 0, .ref a4, .int (-9), .ref le, .int (-9), .int 0, .int 0, .ref aq, .ref aj, .ref a12, .ref sr, .ref a14, .ref a15, .ref a16, .int 0]))]) hD hS hA [0] rfl
  refine va_calli (va_runV (As := [.int p0]) (rest := []) ⟨hx, hb, hml, hown, hts⟩ (c_X6_isProblem l dC dI s.heap.size h0 a0 tm a4 le aq aj a12 sr a14 a15 a16 p0) (cwV 1 hts gX6_part_X6_isProblem rfl rfl rfl (by decide +kernel) ⟨Nat.le_of_ble_eq_true rfl, Nat.le_of_ble_eq_true rfl⟩) ⟨fun a U g mk q => by obtain ⟨q0, q1, qP, qK, qD⟩ := q; exact ⟨q0, q1, qP, va_K.moved (u := U) (U := U.calling g mk a) (Vm.Alike.refl U.vm) qK, qD⟩, va_recv hKc hPc (ci := 6) (q0 := 0) rfl rfl, fun U hU hW => ⟨rfl, by rw [hU], by rw [hU]; exact hPc, va_K.moved hW.alike hKc, hDc.weaken (fun _ _ _ _ => trivial)⟩⟩ rfl rfl hl.1 rfl (lv_room (Nat.le_of_ble_eq_true rfl)) dX6_part_2 ⟨Nat.le_of_ble_eq_true rfl, Nat.le_of_ble_eq_true rfl⟩) hS (fun q _ h => hFc q h) hFc (fun r1 u2 t H1 locs ht hvm hw hB hz1 hk1 hS => ?_)
  obtain ⟨hP1, hK1, hD1⟩ := hB
  rw [ht] at hP1
  have hK1 := va_K.moved hvm.symm hK1
  try dsimp only at hw
  obtain ⟨hP, hD⟩ := va_join (wr := []) (w1 := [(h0, .inr (6, [.ref a0, .int 0, .ref tm, .int 0, .ref a4, .int (-9), .ref le, .int (-9), .int 0, .int 0, .ref aq, .ref aj, .ref a12, .ref sr, .ref a14, .ref a15, .ref a16, .int 0]))]) hP hD [0] [] rfl rfl (by decide) (by decide) hk1 hFc hP1 hD1
  have hK := (hK.sub (tys' := []) [] rfl).app hK1
  generalize H1 = H at hP hS ⊢
  have hP : va_P (dC, dI) vwCl [(h0, .inr (6, [.ref a0, .int 0, .ref tm, .int 0, .ref a4, .int (-9), .ref le, .int (-9), .int 0, .int 0, .ref aq, .ref aj, .ref a12, .ref sr, .ref a14, .ref a15, .ref a16, .int 0]))] H := hP
  have hD : va_D A [(h0, .inr (6, [.ref a0, .int 0, .ref tm, .int 0, .ref a4, .int (-9), .ref le, .int (-9), .int 0, .int 0, .ref aq, .ref aj, .ref a12, .ref sr, .ref a14, .ref a15, .ref a16, .int 0]))] := hD
  have hK : va_K (dC, dI) vwCl [] s := hK
  obtain rfl : r1 = 0 := hw
  refine lv_if_eq (tgt := 20) hx hb dX6_part_5 (by decide) (fun _ => ?_) (fun c_3 => absurd c_3 (by decide))
  refine lv_iconst (v := (-1)) hx hb dX6_part_20 (by decide) ?_
  exact W.iret (v := (-1)) hx hb hr (fun t ht hW => ⟨⟨(-1), (), rfl, rfl, trivial⟩, hS.F ht⟩) hS.2.2 dX6_part_21
set_option maxHeartbeats 4000000 in
set_option maxRecDepth 100000 in
/-- number on a fresh object -/
theorem c_X6_number (l : Launch) (dC : Nat → ClassId) (dI : Nat → Nat → Nat) (sz : Nat) (h0 : Nat) (a0 : Nat) (tm : Nat) (a4 : Nat) (le : Nat) (aq : Nat) (aj : Nat) (a12 : Nat) (sr : Nat) (a14 : Nat) (a15 : Nat) (a16 : Nat) (p0 : Int32) (p1 : Int32) (p2 : Int32) : Met l yX6_number wsX6_number ({ frames := 3, cells := 0, slots := 0, locals := 120 }) (va_Pc [.ref h0, .int p0, .int p1, .int p2] (fun U => U.heap.size = sz ∧ va_P (dC, dI) vwCl [(h0, .inr (6, [.ref a0, .int 0, .ref tm, .int 0, .ref a4, .int (-9), .ref le, .int (-9), .int 0, .int 0, .ref aq, .ref aj, .ref a12, .ref sr, .ref a14, .ref a15, .ref a16, .int 0]))] U.heap ∧ va_K (dC, dI) vwCl [] U ∧ va_D (fun _ => True) [(h0, .inr (6, [.ref a0, .int 0, .ref tm, .int 0, .ref a4, .int (-9), .ref le, .int (-9), .int 0, .int 0, .ref aq, .ref aj, .ref a12, .ref sr, .ref a14, .ref a15, .ref a16, .int 0]))])) (va_Qi (fun (r : Int32) (_ : Unit) => r = -1000000) (fun (_ : Unit) (_ : State) => True) (va_A [(h0, .inr (6, [.ref a0, .int 0, .ref tm, .int 0, .ref a4, .int (-9), .ref le, .int (-9), .int 0, .int 0, .ref aq, .ref aj, .ref a12, .ref sr, .ref a14, .ref a15, .ref a16, .int 0]))] sz)) 0 0 (va_A [(h0, .inr (6, [.ref a0, .int 0, .ref tm, .int 0, .ref a4, .int (-9), .ref le, .int (-9), .int 0, .int 0, .ref aq, .ref aj, .ref a12, .ref sr, .ref a14, .ref a15, .ref a16, .int 0]))] sz) := by
  refine Met.ofW (cc := cX6_number) (maxL := 4) (ret := (some .int)) (by decide) rfl ?_
  intro p e s m args below meth c s₁ B hml hv
  obtain ⟨rfl, hsz, hP, hK, hD0⟩ := hv
  have hx := B.exec
  have hb := B.bytes
  have hr := B.returns
  have hts := atoms_spec (ws := wsX6_number) B.pre
  have hown : s.vm.findClass RX6 = some m.cls := findClass_of_methodNamed B.named
  have hlocks := B.notSynchronized
  have hi6 : ∀ w ∈ u_ws RX6 TX6 18, w ∈ wsX6_number := fun w h => List.mem_cons_of_mem _ (List.mem_append_left _ (List.mem_append_left _ (List.mem_append_right _ h)))
  have hi1 : ∀ w ∈ u_ws RX1 TX1 9, w ∈ wsX6_number := fun w h => List.mem_cons_of_mem _ (List.mem_append_left _ (List.mem_append_right _ h))
  have hi2 : ∀ w ∈ u_ws RX2 TX2 7, w ∈ wsX6_number := fun w h => List.mem_cons_of_mem _ (List.mem_append_right _ h)
  subst hsz
  have hD := hD0.self (sz := s.heap.size)
  generalize hAe : va_A [(h0, .inr (6, [.ref a0, .int 0, .ref tm, .int 0, .ref a4, .int (-9), .ref le, .int (-9), .int 0, .int 0, .ref aq, .ref aj, .ref a12, .ref sr, .ref a14, .ref a15, .ref a16, .int 0]))] s.heap.size = A at hD ⊢
  have hA : ∀ q : Nat, s.heap.size ≤ q → A q := fun q h => by rw [← hAe]; exact Or.inr h
  have hS : va_S A s.heap s.heap [] := va_S.rf
  have hP : va_P (dC, dI) vwCl [(h0, .inr (6, [.ref a0, .int 0, .ref tm, .int 0, .ref a4, .int (-9), .ref le, .int (-9), .int 0, .int 0, .ref aq, .ref aj, .ref a12, .ref sr, .ref a14, .ref a15, .ref a16, .int 0]))] s.heap := hP
  have hl := lv_entry ([.ref h0, .int p0, .int p1, .int p2]) (n := 4) (Nat.le_of_ble_eq_true rfl)
  rw [lg_entry_eq]
  generalize (lg_sl ([.ref h0, .int p0, .int p1, .int p2]) ++ List.replicate (4 - (lg_sl ([.ref h0, .int p0, .int p1, .int p2])).length) Slot.unset).toArray = ls at hl ⊢
  have hl : lv_has ls 4 [(0, .ref h0), (1, .int p0), (2, .int p1), (3, .int p2)] := hl
  refine lv_aload_n hx hb dX6_number_0 rfl (lv_at hl 0 rfl) ?_
  refine lv_iload_n hx hb dX6_number_1 rfl (lv_at hl 1 rfl) ?_
  have hPc := hP.sub (ws' := [(h0, .inr (6, [.ref a0, .int 0, .ref tm, .int 0, .ref a4, .int (-9), .ref le, .int (-9), .int 0, .int 0, .ref aq, .ref aj, .ref a12, .ref sr, .ref a14, .ref a15, .ref a16, .int 0]))]) [0] rfl
  have hDc := hD.sub (ws' := [(h0, .inr (6, [.ref a0, .int 0, .ref tm, .int 0, .ref a4, .int (-9), .ref le, .int (-9), .int 0, .int 0, .ref aq, .ref aj, .ref a12, .ref sr, .ref a14, .ref a15, .ref a16, .int 0]))]) [0] (by decide) rfl
  have hKc := hK.sub (tys' := []) [] rfl
  have hFc := va_free (wc := [(h0, .inr (6, [.ref a0, .int 0, .ref tm, .int 0, .ref a4, .int (-9), .ref le, .int (-9), .int 0, .int 0, .ref aq, .ref aj, .ref a12, .ref sr, .ref a14, .ref a15, .ref a16, .int 0]))]) hD hS hA [0] rfl
  refine va_calli (va_runV (As := [.int p0]) (rest := []) ⟨hx, hb, hml, hown, hts⟩ (c_X6_isProblem l dC dI s.heap.size h0 a0 tm a4 le aq aj a12 sr a14 a15 a16 p0) (cwV 1 hts gX6_number_X6_isProblem rfl rfl rfl (by decide +kernel) ⟨Nat.le_of_ble_eq_true rfl, Nat.le_of_ble_eq_true rfl⟩) ⟨fun a U g mk q => by obtain ⟨q0, q1, qP, qK, qD⟩ := q; exact ⟨q0, q1, qP, va_K.moved (u := U) (U := U.calling g mk a) (Vm.Alike.refl U.vm) qK, qD⟩, va_recv hKc hPc (ci := 6) (q0 := 0) rfl rfl, fun U hU hW => ⟨rfl, by rw [hU], by rw [hU]; exact hPc, va_K.moved hW.alike hKc, hDc.weaken (fun _ _ _ _ => trivial)⟩⟩ rfl rfl hl.1 rfl (lv_room (Nat.le_of_ble_eq_true rfl)) dX6_number_2 ⟨Nat.le_of_ble_eq_true rfl, Nat.le_of_ble_eq_true rfl⟩) hS (fun q _ h => hFc q h) hFc (fun r1 u2 t H1 locs ht hvm hw hB hz1 hk1 hS => ?_)
  obtain ⟨hP1, hK1, hD1⟩ := hB
  rw [ht] at hP1
  have hK1 := va_K.moved hvm.symm hK1
  try dsimp only at hw
  obtain ⟨hP, hD⟩ := va_join (wr := []) (w1 := [(h0, .inr (6, [.ref a0, .int 0, .ref tm, .int 0, .ref a4, .int (-9), .ref le, .int (-9), .int 0, .int 0, .ref aq, .ref aj, .ref a12, .ref sr, .ref a14, .ref a15, .ref a16, .int 0]))]) hP hD [0] [] rfl rfl (by decide) (by decide) hk1 hFc hP1 hD1
  have hK := (hK.sub (tys' := []) [] rfl).app hK1
  generalize H1 = H at hP hS ⊢
  have hP : va_P (dC, dI) vwCl [(h0, .inr (6, [.ref a0, .int 0, .ref tm, .int 0, .ref a4, .int (-9), .ref le, .int (-9), .int 0, .int 0, .ref aq, .ref aj, .ref a12, .ref sr, .ref a14, .ref a15, .ref a16, .int 0]))] H := hP
  have hD : va_D A [(h0, .inr (6, [.ref a0, .int 0, .ref tm, .int 0, .ref a4, .int (-9), .ref le, .int (-9), .int 0, .int 0, .ref aq, .ref aj, .ref a12, .ref sr, .ref a14, .ref a15, .ref a16, .int 0]))] := hD
  have hK : va_K (dC, dI) vwCl [] s := hK
  obtain rfl : r1 = 0 := hw
  refine lv_if_eq (tgt := 28) hx hb dX6_number_5 (by decide) (fun _ => ?_) (fun c_3 => absurd c_3 (by decide))
  refine lv_aload_n hx hb dX6_number_28 rfl (lv_at hl 0 rfl) ?_
  refine lv_iconst (v := (-1)) hx hb dX6_number_29 (by decide) ?_
  have hPc := hP.sub (ws' := [(h0, .inr (6, [.ref a0, .int 0, .ref tm, .int 0, .ref a4, .int (-9), .ref le, .int (-9), .int 0, .int 0, .ref aq, .ref aj, .ref a12, .ref sr, .ref a14, .ref a15, .ref a16, .int 0]))]) [0] rfl
  have hDc := hD.sub (ws' := [(h0, .inr (6, [.ref a0, .int 0, .ref tm, .int 0, .ref a4, .int (-9), .ref le, .int (-9), .int 0, .int 0, .ref aq, .ref aj, .ref a12, .ref sr, .ref a14, .ref a15, .ref a16, .int 0]))]) [0] (by decide) rfl
  have hKc := hK.sub (tys' := []) [] rfl
  have hFc := va_free (wc := [(h0, .inr (6, [.ref a0, .int 0, .ref tm, .int 0, .ref a4, .int (-9), .ref le, .int (-9), .int 0, .int 0, .ref aq, .ref aj, .ref a12, .ref sr, .ref a14, .ref a15, .ref a16, .int 0]))]) hD hS hA [0] rfl
  refine va_calli (va_runV (As := [.int (-1)]) (rest := []) ⟨hx, hb, hml, hown, hts⟩ (c_X6_refuse l dC dI H.size h0 a0 tm a4 le aq aj a12 sr a14 a15 a16 (-1)) (cwV 1 hts gX6_number_X6_refuse rfl rfl rfl (by decide +kernel) ⟨Nat.le_of_ble_eq_true rfl, Nat.le_of_ble_eq_true rfl⟩) ⟨fun a U g mk q => by obtain ⟨q0, q1, qP, qK, qD⟩ := q; exact ⟨q0, q1, qP, va_K.moved (u := U) (U := U.calling g mk a) (Vm.Alike.refl U.vm) qK, qD⟩, va_recv hKc hPc (ci := 6) (q0 := 0) rfl rfl, fun U hU hW => ⟨rfl, by rw [hU], by rw [hU]; exact hPc, va_K.moved hW.alike hKc, hDc.weaken (fun _ _ _ _ => trivial)⟩⟩ rfl rfl hl.1 rfl (lv_room (Nat.le_of_ble_eq_true rfl)) dX6_number_30 ⟨Nat.le_of_ble_eq_true rfl, Nat.le_of_ble_eq_true rfl⟩) hS (fun q _ h => hFc q h) hFc (fun r4 u5 t H1 locs ht hvm hw hB hz1 hk1 hS => ?_)
  obtain ⟨hP, hD⟩ := va_join (wr := []) (w1 := []) hP hD [0] [] rfl rfl (by decide) (by decide) hk1 hFc (va_Pnil _ _ _) (va_Dnil _)
  generalize H1 = H at hP hS ⊢
  have hP : va_P (dC, dI) vwCl [] H := hP
  have hD : va_D A [] := hD
  have hK : va_K (dC, dI) vwCl [] s := hK
  obtain rfl : r4 = -1000000 := hw
  exact W.iret (v := (-1000000)) hx hb hr (fun t ht hW => ⟨⟨(-1000000), (), rfl, rfl, trivial⟩, hS.F ht⟩) hS.2.2 dX6_number_33
set_option maxHeartbeats 4000000 in
set_option maxRecDepth 100000 in
/-- helpers on a fresh object -/
theorem c_X6_helpers (l : Launch) (dC : Nat → ClassId) (dI : Nat → Nat → Nat) (sz : Nat) (h0 : Nat) (a0 : Nat) (tm : Nat) (a4 : Nat) (le : Nat) (aq : Nat) (aj : Nat) (a12 : Nat) (sr : Nat) (a14 : Nat) (a15 : Nat) (a16 : Nat) (t1 : Nat) (t2 : Nat) (t3 : Nat) (t4 : Nat) (t5 : Nat) (k1 : ClassId) (p0 : Int32) : Met l yX6_helpers wsX6_helpers ({ frames := 3, cells := 0, slots := 0, locals := 120 }) (va_Pc [.ref h0, .int p0] (fun U => U.heap.size = sz ∧ va_P (dC, dI) vwCl [(h0, .inr (6, [.ref a0, .int 0, .ref tm, .int 0, .ref a4, .int (-9), .ref le, .int (-9), .int 0, .int 0, .ref aq, .ref aj, .ref a12, .ref sr, .ref a14, .ref a15, .ref a16, .int 0])), (tm, .inr (4, [.int 1, .int 0, .ref t1, .ref t2, .ref t3, .ref t4, .ref t5])), (t1, .inl (k1, 5, .inl (fun _ => 0)))] U.heap ∧ va_K (dC, dI) vwCl [(k1, .int)] U ∧ va_D (fun _ => True) [(h0, .inr (6, [.ref a0, .int 0, .ref tm, .int 0, .ref a4, .int (-9), .ref le, .int (-9), .int 0, .int 0, .ref aq, .ref aj, .ref a12, .ref sr, .ref a14, .ref a15, .ref a16, .int 0])), (tm, .inr (4, [.int 1, .int 0, .ref t1, .ref t2, .ref t3, .ref t4, .ref t5])), (t1, .inl (k1, 5, .inl (fun _ => 0)))])) (va_Qi (fun (r : Int32) (_ : Unit) => r = an_helpers p0) (fun (_ : Unit) (_ : State) => True) (va_A [(h0, .inr (6, [.ref a0, .int 0, .ref tm, .int 0, .ref a4, .int (-9), .ref le, .int (-9), .int 0, .int 0, .ref aq, .ref aj, .ref a12, .ref sr, .ref a14, .ref a15, .ref a16, .int 0])), (tm, .inr (4, [.int 1, .int 0, .ref t1, .ref t2, .ref t3, .ref t4, .ref t5])), (t1, .inl (k1, 5, .inl (fun _ => 0)))] sz)) 0 0 (va_A [(h0, .inr (6, [.ref a0, .int 0, .ref tm, .int 0, .ref a4, .int (-9), .ref le, .int (-9), .int 0, .int 0, .ref aq, .ref aj, .ref a12, .ref sr, .ref a14, .ref a15, .ref a16, .int 0])), (tm, .inr (4, [.int 1, .int 0, .ref t1, .ref t2, .ref t3, .ref t4, .ref t5])), (t1, .inl (k1, 5, .inl (fun _ => 0)))] sz) := by
  refine Met.ofW (cc := cX6_helpers) (maxL := 3) (ret := (some .int)) (by decide) rfl ?_
  intro p e s m args below meth c s₁ B hml hv
  obtain ⟨rfl, hsz, hP, hK, hD0⟩ := hv
  have hx := B.exec
  have hb := B.bytes
  have hr := B.returns
  have hts := atoms_spec (ws := wsX6_helpers) B.pre
  have hown : s.vm.findClass RX6 = some m.cls := findClass_of_methodNamed B.named
  have hlocks := B.notSynchronized
  have hi6 : ∀ w ∈ u_ws RX6 TX6 18, w ∈ wsX6_helpers := fun w h => List.mem_cons_of_mem _ (List.mem_append_left _ (List.mem_append_right _ h))
  have hi4 : ∀ w ∈ u_ws RX4 TX4 7, w ∈ wsX6_helpers := fun w h => List.mem_cons_of_mem _ (List.mem_append_right _ h)
  subst hsz
  have hD := hD0.self (sz := s.heap.size)
  generalize hAe : va_A [(h0, .inr (6, [.ref a0, .int 0, .ref tm, .int 0, .ref a4, .int (-9), .ref le, .int (-9), .int 0, .int 0, .ref aq, .ref aj, .ref a12, .ref sr, .ref a14, .ref a15, .ref a16, .int 0])), (tm, .inr (4, [.int 1, .int 0, .ref t1, .ref t2, .ref t3, .ref t4, .ref t5])), (t1, .inl (k1, 5, .inl (fun _ => 0)))] s.heap.size = A at hD ⊢
  have hA : ∀ q : Nat, s.heap.size ≤ q → A q := fun q h => by rw [← hAe]; exact Or.inr h
  have hS : va_S A s.heap s.heap [] := va_S.rf
  have hP : va_P (dC, dI) vwCl [(h0, .inr (6, [.ref a0, .int 0, .ref tm, .int 0, .ref a4, .int (-9), .ref le, .int (-9), .int 0, .int 0, .ref aq, .ref aj, .ref a12, .ref sr, .ref a14, .ref a15, .ref a16, .int 0])), (tm, .inr (4, [.int 1, .int 0, .ref t1, .ref t2, .ref t3, .ref t4, .ref t5])), (t1, .inl (k1, 5, .inl (fun _ => 0)))] s.heap := hP
  have hl := lv_entry ([.ref h0, .int p0]) (n := 3) (Nat.le_of_ble_eq_true rfl)
  rw [lg_entry_eq]
  generalize (lg_sl ([.ref h0, .int p0]) ++ List.replicate (3 - (lg_sl ([.ref h0, .int p0])).length) Slot.unset).toArray = ls at hl ⊢
  have hl : lv_has ls 3 [(0, .ref h0), (1, .int p0)] := hl
  refine lv_iload_n hx hb dX6_helpers_0 rfl (lv_at hl 1 rfl) ?_
  refine lv_iconst (v := 1) hx hb dX6_helpers_1 (by decide) ?_
  refine lv_iconst (v := 5) hx hb dX6_helpers_2 (by decide) ?_
  have hPc := hP.sub (ws' := []) [] rfl
  have hDc := hD.sub (ws' := []) [] (by decide) rfl
  have hKc := hK.sub (tys' := []) [] rfl
  have hFc := va_free (wc := []) hD hS hA [] rfl
  refine va_calli (va_runS (As := [.int p0, .int 1, .int 5]) (rest := []) ⟨hx, hb, hml, hown, hts⟩ (c_X6_isWithin l dC dI s.heap.size p0 1 5) (va_cwS 3 hts gX6_helpers_X6_isWithin rfl rfl rfl (by decide +kernel) ⟨Nat.le_of_ble_eq_true rfl, Nat.le_of_ble_eq_true rfl⟩) ⟨fun a U g mk q => by obtain ⟨q0, q1, qP, qK, qD⟩ := q; exact ⟨q0, q1, qP, va_K.moved (u := U) (U := U.calling g mk a) (Vm.Alike.refl U.vm) qK, qD⟩, fun U hU hW => ⟨rfl, by rw [hU], by rw [hU]; exact hPc, va_K.moved hW.alike hKc, hDc.weaken (fun _ _ _ _ => trivial)⟩⟩ rfl rfl hl.1 rfl (lv_room (Nat.le_of_ble_eq_true rfl)) dX6_helpers_3 ⟨Nat.le_of_ble_eq_true rfl, Nat.le_of_ble_eq_true rfl⟩) hS (fun q _ h => hFc q h) hFc (fun r1 u2 t H1 locs ht hvm hw hB hz1 hk1 hS => ?_)
  obtain ⟨hP, hD⟩ := va_join (wr := [(h0, .inr (6, [.ref a0, .int 0, .ref tm, .int 0, .ref a4, .int (-9), .ref le, .int (-9), .int 0, .int 0, .ref aq, .ref aj, .ref a12, .ref sr, .ref a14, .ref a15, .ref a16, .int 0])), (tm, .inr (4, [.int 1, .int 0, .ref t1, .ref t2, .ref t3, .ref t4, .ref t5])), (t1, .inl (k1, 5, .inl (fun _ => 0)))]) (w1 := []) hP hD [] [0, 1, 2] rfl rfl (by decide) (by decide) hk1 hFc (va_Pnil _ _ _) (va_Dnil _)
  generalize H1 = H at hP hS ⊢
  have hP : va_P (dC, dI) vwCl [(h0, .inr (6, [.ref a0, .int 0, .ref tm, .int 0, .ref a4, .int (-9), .ref le, .int (-9), .int 0, .int 0, .ref aq, .ref aj, .ref a12, .ref sr, .ref a14, .ref a15, .ref a16, .int 0])), (tm, .inr (4, [.int 1, .int 0, .ref t1, .ref t2, .ref t3, .ref t4, .ref t5])), (t1, .inl (k1, 5, .inl (fun _ => 0)))] H := hP
  have hD : va_D A [(h0, .inr (6, [.ref a0, .int 0, .ref tm, .int 0, .ref a4, .int (-9), .ref le, .int (-9), .int 0, .int 0, .ref aq, .ref aj, .ref a12, .ref sr, .ref a14, .ref a15, .ref a16, .int 0])), (tm, .inr (4, [.int 1, .int 0, .ref t1, .ref t2, .ref t3, .ref t4, .ref t5])), (t1, .inl (k1, 5, .inl (fun _ => 0)))] := hD
  have hK : va_K (dC, dI) vwCl [(k1, .int)] s := hK
  rcases hw with ⟨rfl, hc3⟩ | ⟨rfl, hc3⟩
  · refine lv_if_ne (tgt := 11) hx hb dX6_helpers_6 (by decide) (fun _ => ?_) (fun c_4 => absurd c_4 (by decide))
    refine lv_aload_n hx hb dX6_helpers_11 rfl (lv_at hl 0 rfl) ?_
    refine va_get (D := (dC, dI)) (ci := 6) (v := .int (-9)) (C := RX6) (T := TX6) (N := 18) hx hb hts hi6 hown hK hP 0 rfl rfl 5 (by decide) (hts (.fieldLink RX6 29 "CrateHelpers" "underWay" "I") (by decide +kernel)) (fun _ h9 => h9) rfl dX6_helpers_12 ?_
    refine lv_bipush (v := (-9)) hx hb dX6_helpers_15 (by decide) ?_
    refine lv_icmp_eq (tgt := 23) hx hb dX6_helpers_17 (by decide) (fun _ => ?_) (fun c_5 => absurd c_5 (by decide))
    refine lv_aload_n hx hb dX6_helpers_23 rfl (lv_at hl 0 rfl) ?_
    refine va_get (D := (dC, dI)) (ci := 6) (v := .ref tm) (C := RX6) (T := TX6) (N := 18) hx hb hts hi6 hown hK hP 0 rfl rfl 2 (by decide) (hts (.fieldLink RX6 22 "CrateHelpers" "team" "LCrateHelpers$Team;") (by decide +kernel)) (fun _ h9 => h9) rfl dX6_helpers_24 ?_
    refine va_get (D := (dC, dI)) (ci := 4) (v := .int 1) (C := RX4) (T := TX4) (N := 7) hx hb hts hi4 hown hK hP 1 rfl rfl 0 (by decide) (hts (.fieldLink RX6 158 "CrateHelpers$Team" "size" "I") (by decide +kernel)) (fun _ h9 => h9) rfl dX6_helpers_27 ?_
    refine lv_istore_n (lv' := [(2, .int 1), (0, .ref h0), (1, .int p0)]) hx hb dX6_helpers_30 rfl hl (by decide) rfl (fun ls hl => ?_)
    refine lv_aload_n hx hb dX6_helpers_31 rfl (lv_at hl 1 rfl) ?_
    refine va_get (D := (dC, dI)) (ci := 6) (v := .ref tm) (C := RX6) (T := TX6) (N := 18) hx hb hts hi6 hown hK hP 0 rfl rfl 2 (by decide) (hts (.fieldLink RX6 22 "CrateHelpers" "team" "LCrateHelpers$Team;") (by decide +kernel)) (fun _ h9 => h9) rfl dX6_helpers_32 ?_
    refine lv_iload_n hx hb dX6_helpers_35 rfl (lv_at hl 2 rfl) ?_
    have hPc := hP.sub (ws' := [(tm, .inr (4, [.int 1, .int 0, .ref t1, .ref t2, .ref t3, .ref t4, .ref t5])), (t1, .inl (k1, 5, .inl (fun _ => 0)))]) [1, 2] rfl
    have hDc := hD.sub (ws' := [(tm, .inr (4, [.int 1, .int 0, .ref t1, .ref t2, .ref t3, .ref t4, .ref t5])), (t1, .inl (k1, 5, .inl (fun _ => 0)))]) [1, 2] (by decide) rfl
    have hKc := hK.sub (tys' := [(k1, .int)]) [0] rfl
    have hFc := va_free (wc := [(tm, .inr (4, [.int 1, .int 0, .ref t1, .ref t2, .ref t3, .ref t4, .ref t5])), (t1, .inl (k1, 5, .inl (fun _ => 0)))]) hD hS hA [1, 2] rfl
    refine va_callv (va_runV (As := [.int p0]) (rest := []) ⟨hx, hb, hml, hown, hts⟩ (c_X4_become l dC dI H.size tm t1 t2 t3 t4 t5 k1 p0) (cwV 1 hts gX6_helpers_X4_become rfl rfl rfl (by decide +kernel) ⟨Nat.le_of_ble_eq_true rfl, Nat.le_of_ble_eq_true rfl⟩) ⟨fun a U g mk q => by obtain ⟨q0, q1, qP, qK, qD⟩ := q; exact ⟨q0, q1, qP, va_K.moved (u := U) (U := U.calling g mk a) (Vm.Alike.refl U.vm) qK, qD⟩, va_recv hKc hPc (ci := 4) (q0 := 0) rfl rfl, fun U hU hW => ⟨rfl, by rw [hU], by rw [hU]; exact hPc, va_K.moved hW.alike hKc, hDc.weaken (fun _ _ _ _ => trivial)⟩⟩ rfl rfl hl.1 rfl (lv_room (Nat.le_of_ble_eq_true rfl)) dX6_helpers_36 ⟨Nat.le_of_ble_eq_true rfl, Nat.le_of_ble_eq_true rfl⟩) hS (fun q _ h => hFc q h) hFc (fun u7 t H1 locs ht hvm hw hB hz1 hk1 hS => ?_)
    obtain ⟨hP, hD⟩ := va_join (wr := [(h0, .inr (6, [.ref a0, .int 0, .ref tm, .int 0, .ref a4, .int (-9), .ref le, .int (-9), .int 0, .int 0, .ref aq, .ref aj, .ref a12, .ref sr, .ref a14, .ref a15, .ref a16, .int 0]))]) (w1 := []) hP hD [1, 2] [0] rfl rfl (by decide) (by decide) hk1 hFc (va_Pnil _ _ _) (va_Dnil _)
    generalize H1 = H at hP hS ⊢
    have hP : va_P (dC, dI) vwCl [(h0, .inr (6, [.ref a0, .int 0, .ref tm, .int 0, .ref a4, .int (-9), .ref le, .int (-9), .int 0, .int 0, .ref aq, .ref aj, .ref a12, .ref sr, .ref a14, .ref a15, .ref a16, .int 0]))] H := hP
    have hD : va_D A [(h0, .inr (6, [.ref a0, .int 0, .ref tm, .int 0, .ref a4, .int (-9), .ref le, .int (-9), .int 0, .int 0, .ref aq, .ref aj, .ref a12, .ref sr, .ref a14, .ref a15, .ref a16, .int 0]))] := hD
    have hK : va_K (dC, dI) vwCl [(k1, .int)] s := hK
    refine lv_iload_n hx hb dX6_helpers_39 rfl (lv_at hl 0 rfl) ?_
    exact W.iret (v := 1) hx hb hr (fun t ht hW => ⟨⟨1, (), rfl, by unfold an_helpers; rw [if_pos hc3], trivial⟩, hS.F ht⟩) hS.2.2 dX6_helpers_40
  · refine lv_if_ne (tgt := 11) hx hb dX6_helpers_6 (by decide) (fun c_8 => absurd c_8 (by decide)) (fun _ => ?_)
    refine lv_iconst (v := (-1)) hx hb dX6_helpers_9 (by decide) ?_
    exact W.iret (v := (-1)) hx hb hr (fun t ht hW => ⟨⟨(-1), (), rfl, by unfold an_helpers; rw [if_neg hc3], trivial⟩, hS.F ht⟩) hS.2.2 dX6_helpers_10
set_option maxHeartbeats 4000000 in
set_option maxRecDepth 100000 in
/-- fail on a fresh object -/
theorem c_X6_fail (l : Launch) (dC : Nat → ClassId) (dI : Nat → Nat → Nat) (sz : Nat) (h0 : Nat) (a0 : Nat) (tm : Nat) (a4 : Nat) (le : Nat) (aq : Nat) (aj : Nat) (a12 : Nat) (sr : Nat) (a14 : Nat) (a15 : Nat) (a16 : Nat) (t1 : Nat) (t2 : Nat) (t3 : Nat) (t4 : Nat) (t5 : Nat) (k1 : ClassId) (p0 : Int32) (p1 : Int32) : Met l yX6_fail wsX6_fail ({ frames := 3, cells := 0, slots := 0, locals := 120 }) (va_Pc [.ref h0, .int p0, .int p1] (fun U => U.heap.size = sz ∧ va_P (dC, dI) vwCl [(h0, .inr (6, [.ref a0, .int 0, .ref tm, .int 0, .ref a4, .int (-9), .ref le, .int (-9), .int 0, .int 0, .ref aq, .ref aj, .ref a12, .ref sr, .ref a14, .ref a15, .ref a16, .int 0])), (tm, .inr (4, [.int 1, .int 0, .ref t1, .ref t2, .ref t3, .ref t4, .ref t5])), (t1, .inl (k1, 5, .inl (fun _ => 0)))] U.heap ∧ va_K (dC, dI) vwCl [(k1, .int)] U ∧ va_D (fun _ => True) [(h0, .inr (6, [.ref a0, .int 0, .ref tm, .int 0, .ref a4, .int (-9), .ref le, .int (-9), .int 0, .int 0, .ref aq, .ref aj, .ref a12, .ref sr, .ref a14, .ref a15, .ref a16, .int 0])), (tm, .inr (4, [.int 1, .int 0, .ref t1, .ref t2, .ref t3, .ref t4, .ref t5])), (t1, .inl (k1, 5, .inl (fun _ => 0)))])) (va_Qi (fun (r : Int32) (_ : Unit) => r = an_fail p0 p1) (fun (_ : Unit) (_ : State) => True) (va_A [(h0, .inr (6, [.ref a0, .int 0, .ref tm, .int 0, .ref a4, .int (-9), .ref le, .int (-9), .int 0, .int 0, .ref aq, .ref aj, .ref a12, .ref sr, .ref a14, .ref a15, .ref a16, .int 0])), (tm, .inr (4, [.int 1, .int 0, .ref t1, .ref t2, .ref t3, .ref t4, .ref t5])), (t1, .inl (k1, 5, .inl (fun _ => 0)))] sz)) 0 0 (va_A [(h0, .inr (6, [.ref a0, .int 0, .ref tm, .int 0, .ref a4, .int (-9), .ref le, .int (-9), .int 0, .int 0, .ref aq, .ref aj, .ref a12, .ref sr, .ref a14, .ref a15, .ref a16, .int 0])), (tm, .inr (4, [.int 1, .int 0, .ref t1, .ref t2, .ref t3, .ref t4, .ref t5])), (t1, .inl (k1, 5, .inl (fun _ => 0)))] sz) := by
  refine Met.ofW (cc := cX6_fail) (maxL := 3) (ret := (some .int)) (by decide) rfl ?_
  intro p e s m args below meth c s₁ B hml hv
  obtain ⟨rfl, hsz, hP, hK, hD0⟩ := hv
  have hx := B.exec
  have hb := B.bytes
  have hr := B.returns
  have hts := atoms_spec (ws := wsX6_fail) B.pre
  have hown : s.vm.findClass RX6 = some m.cls := findClass_of_methodNamed B.named
  have hlocks := B.notSynchronized
  have hi6 : ∀ w ∈ u_ws RX6 TX6 18, w ∈ wsX6_fail := fun w h => List.mem_cons_of_mem _ (List.mem_append_left _ (List.mem_append_right _ h))
  have hi4 : ∀ w ∈ u_ws RX4 TX4 7, w ∈ wsX6_fail := fun w h => List.mem_cons_of_mem _ (List.mem_append_right _ h)
  subst hsz
  have hD := hD0.self (sz := s.heap.size)
  generalize hAe : va_A [(h0, .inr (6, [.ref a0, .int 0, .ref tm, .int 0, .ref a4, .int (-9), .ref le, .int (-9), .int 0, .int 0, .ref aq, .ref aj, .ref a12, .ref sr, .ref a14, .ref a15, .ref a16, .int 0])), (tm, .inr (4, [.int 1, .int 0, .ref t1, .ref t2, .ref t3, .ref t4, .ref t5])), (t1, .inl (k1, 5, .inl (fun _ => 0)))] s.heap.size = A at hD ⊢
  have hA : ∀ q : Nat, s.heap.size ≤ q → A q := fun q h => by rw [← hAe]; exact Or.inr h
  have hS : va_S A s.heap s.heap [] := va_S.rf
  have hP : va_P (dC, dI) vwCl [(h0, .inr (6, [.ref a0, .int 0, .ref tm, .int 0, .ref a4, .int (-9), .ref le, .int (-9), .int 0, .int 0, .ref aq, .ref aj, .ref a12, .ref sr, .ref a14, .ref a15, .ref a16, .int 0])), (tm, .inr (4, [.int 1, .int 0, .ref t1, .ref t2, .ref t3, .ref t4, .ref t5])), (t1, .inl (k1, 5, .inl (fun _ => 0)))] s.heap := hP
  have hl := lv_entry ([.ref h0, .int p0, .int p1]) (n := 3) (Nat.le_of_ble_eq_true rfl)
  rw [lg_entry_eq]
  generalize (lg_sl ([.ref h0, .int p0, .int p1]) ++ List.replicate (3 - (lg_sl ([.ref h0, .int p0, .int p1])).length) Slot.unset).toArray = ls at hl ⊢
  have hl : lv_has ls 3 [(0, .ref h0), (1, .int p0), (2, .int p1)] := hl
  refine lv_iload_n hx hb dX6_fail_0 rfl (lv_at hl 1 rfl) ?_
  refine lv_iconst (v := 0) hx hb dX6_fail_1 (by decide) ?_
  refine lv_aload_n hx hb dX6_fail_2 rfl (lv_at hl 0 rfl) ?_
  refine va_get (D := (dC, dI)) (ci := 6) (v := .ref tm) (C := RX6) (T := TX6) (N := 18) hx hb hts hi6 hown hK hP 0 rfl rfl 2 (by decide) (hts (.fieldLink RX6 22 "CrateHelpers" "team" "LCrateHelpers$Team;") (by decide +kernel)) (fun _ h9 => h9) rfl dX6_fail_3 ?_
  refine va_get (D := (dC, dI)) (ci := 4) (v := .int 1) (C := RX4) (T := TX4) (N := 7) hx hb hts hi4 hown hK hP 1 rfl rfl 0 (by decide) (hts (.fieldLink RX6 158 "CrateHelpers$Team" "size" "I") (by decide +kernel)) (fun _ h9 => h9) rfl dX6_fail_6 ?_
  refine lv_iconst (v := 1) hx hb dX6_fail_9 (by decide) ?_
  refine lv_isub hx hb dX6_fail_10 ?_
  refine lv_topi (fun z1 ez1 => ?_)
  obtain rfl : z1 = 0 := ez1.trans (by decide)
  have hPc := hP.sub (ws' := []) [] rfl
  have hDc := hD.sub (ws' := []) [] (by decide) rfl
  have hKc := hK.sub (tys' := []) [] rfl
  have hFc := va_free (wc := []) hD hS hA [] rfl
  refine va_calli (va_runS (As := [.int p0, .int 0, .int 0]) (rest := []) ⟨hx, hb, hml, hown, hts⟩ (c_X6_isWithin l dC dI s.heap.size p0 0 0) (va_cwS 3 hts gX6_fail_X6_isWithin rfl rfl rfl (by decide +kernel) ⟨Nat.le_of_ble_eq_true rfl, Nat.le_of_ble_eq_true rfl⟩) ⟨fun a U g mk q => by obtain ⟨q0, q1, qP, qK, qD⟩ := q; exact ⟨q0, q1, qP, va_K.moved (u := U) (U := U.calling g mk a) (Vm.Alike.refl U.vm) qK, qD⟩, fun U hU hW => ⟨rfl, by rw [hU], by rw [hU]; exact hPc, va_K.moved hW.alike hKc, hDc.weaken (fun _ _ _ _ => trivial)⟩⟩ rfl rfl hl.1 rfl (lv_room (Nat.le_of_ble_eq_true rfl)) dX6_fail_11 ⟨Nat.le_of_ble_eq_true rfl, Nat.le_of_ble_eq_true rfl⟩) hS (fun q _ h => hFc q h) hFc (fun r2 u3 t H1 locs ht hvm hw hB hz1 hk1 hS => ?_)
  obtain ⟨hP, hD⟩ := va_join (wr := [(h0, .inr (6, [.ref a0, .int 0, .ref tm, .int 0, .ref a4, .int (-9), .ref le, .int (-9), .int 0, .int 0, .ref aq, .ref aj, .ref a12, .ref sr, .ref a14, .ref a15, .ref a16, .int 0])), (tm, .inr (4, [.int 1, .int 0, .ref t1, .ref t2, .ref t3, .ref t4, .ref t5])), (t1, .inl (k1, 5, .inl (fun _ => 0)))]) (w1 := []) hP hD [] [0, 1, 2] rfl rfl (by decide) (by decide) hk1 hFc (va_Pnil _ _ _) (va_Dnil _)
  generalize H1 = H at hP hS ⊢
  have hP : va_P (dC, dI) vwCl [(h0, .inr (6, [.ref a0, .int 0, .ref tm, .int 0, .ref a4, .int (-9), .ref le, .int (-9), .int 0, .int 0, .ref aq, .ref aj, .ref a12, .ref sr, .ref a14, .ref a15, .ref a16, .int 0])), (tm, .inr (4, [.int 1, .int 0, .ref t1, .ref t2, .ref t3, .ref t4, .ref t5])), (t1, .inl (k1, 5, .inl (fun _ => 0)))] H := hP
  have hD : va_D A [(h0, .inr (6, [.ref a0, .int 0, .ref tm, .int 0, .ref a4, .int (-9), .ref le, .int (-9), .int 0, .int 0, .ref aq, .ref aj, .ref a12, .ref sr, .ref a14, .ref a15, .ref a16, .int 0])), (tm, .inr (4, [.int 1, .int 0, .ref t1, .ref t2, .ref t3, .ref t4, .ref t5])), (t1, .inl (k1, 5, .inl (fun _ => 0)))] := hD
  have hK : va_K (dC, dI) vwCl [(k1, .int)] s := hK
  rcases hw with ⟨rfl, hc4⟩ | ⟨rfl, hc4⟩
  · have hi_hc4 : vp_in p0 1 := in_of (n := 0) hc4.1 (show p0 ≤ nI 0 from hc4.2) (by decide)
    refine lv_if_eq (tgt := 28) hx hb dX6_fail_14 (by decide) (fun c_5 => absurd c_5 (by decide)) (fun _ => ?_)
    refine lv_iload_n hx hb dX6_fail_17 rfl (lv_at hl 2 rfl) ?_
    refine lv_iconst (v := 0) hx hb dX6_fail_18 (by decide) ?_
    refine lv_sipush (v := 200) hx hb dX6_fail_19 (by decide) ?_
    have hPc := hP.sub (ws' := []) [] rfl
    have hDc := hD.sub (ws' := []) [] (by decide) rfl
    have hKc := hK.sub (tys' := []) [] rfl
    have hFc := va_free (wc := []) hD hS hA [] rfl
    refine va_calli (va_runS (As := [.int p1, .int 0, .int 200]) (rest := []) ⟨hx, hb, hml, hown, hts⟩ (c_X6_isWithin l dC dI H.size p1 0 200) (va_cwS 3 hts gX6_fail_X6_isWithin rfl rfl rfl (by decide +kernel) ⟨Nat.le_of_ble_eq_true rfl, Nat.le_of_ble_eq_true rfl⟩) ⟨fun a U g mk q => by obtain ⟨q0, q1, qP, qK, qD⟩ := q; exact ⟨q0, q1, qP, va_K.moved (u := U) (U := U.calling g mk a) (Vm.Alike.refl U.vm) qK, qD⟩, fun U hU hW => ⟨rfl, by rw [hU], by rw [hU]; exact hPc, va_K.moved hW.alike hKc, hDc.weaken (fun _ _ _ _ => trivial)⟩⟩ rfl rfl hl.1 rfl (lv_room (Nat.le_of_ble_eq_true rfl)) dX6_fail_22 ⟨Nat.le_of_ble_eq_true rfl, Nat.le_of_ble_eq_true rfl⟩) hS (fun q _ h => hFc q h) hFc (fun r6 u7 t H1 locs ht hvm hw hB hz1 hk1 hS => ?_)
    obtain ⟨hP, hD⟩ := va_join (wr := [(h0, .inr (6, [.ref a0, .int 0, .ref tm, .int 0, .ref a4, .int (-9), .ref le, .int (-9), .int 0, .int 0, .ref aq, .ref aj, .ref a12, .ref sr, .ref a14, .ref a15, .ref a16, .int 0])), (tm, .inr (4, [.int 1, .int 0, .ref t1, .ref t2, .ref t3, .ref t4, .ref t5])), (t1, .inl (k1, 5, .inl (fun _ => 0)))]) (w1 := []) hP hD [] [0, 1, 2] rfl rfl (by decide) (by decide) hk1 hFc (va_Pnil _ _ _) (va_Dnil _)
    generalize H1 = H at hP hS ⊢
    have hP : va_P (dC, dI) vwCl [(h0, .inr (6, [.ref a0, .int 0, .ref tm, .int 0, .ref a4, .int (-9), .ref le, .int (-9), .int 0, .int 0, .ref aq, .ref aj, .ref a12, .ref sr, .ref a14, .ref a15, .ref a16, .int 0])), (tm, .inr (4, [.int 1, .int 0, .ref t1, .ref t2, .ref t3, .ref t4, .ref t5])), (t1, .inl (k1, 5, .inl (fun _ => 0)))] H := hP
    have hD : va_D A [(h0, .inr (6, [.ref a0, .int 0, .ref tm, .int 0, .ref a4, .int (-9), .ref le, .int (-9), .int 0, .int 0, .ref aq, .ref aj, .ref a12, .ref sr, .ref a14, .ref a15, .ref a16, .int 0])), (tm, .inr (4, [.int 1, .int 0, .ref t1, .ref t2, .ref t3, .ref t4, .ref t5])), (t1, .inl (k1, 5, .inl (fun _ => 0)))] := hD
    have hK : va_K (dC, dI) vwCl [(k1, .int)] s := hK
    rcases hw with ⟨rfl, hc8⟩ | ⟨rfl, hc8⟩
    · have hi_hc8 : vp_in p1 201 := in_of (n := 200) hc8.1 (show p1 ≤ nI 200 from hc8.2) (by decide)
      refine lv_if_ne (tgt := 30) hx hb dX6_fail_25 (by decide) (fun _ => ?_) (fun c_9 => absurd c_9 (by decide))
      refine lv_aload_n hx hb dX6_fail_30 rfl (lv_at hl 0 rfl) ?_
      refine va_get (D := (dC, dI)) (ci := 6) (v := .int (-9)) (C := RX6) (T := TX6) (N := 18) hx hb hts hi6 hown hK hP 0 rfl rfl 5 (by decide) (hts (.fieldLink RX6 29 "CrateHelpers" "underWay" "I") (by decide +kernel)) (fun _ h9 => h9) rfl dX6_fail_31 ?_
      refine lv_bipush (v := (-9)) hx hb dX6_fail_34 (by decide) ?_
      refine lv_icmp_eq (tgt := 42) hx hb dX6_fail_36 (by decide) (fun _ => ?_) (fun c_10 => absurd c_10 (by decide))
      refine lv_aload_n hx hb dX6_fail_42 rfl (lv_at hl 0 rfl) ?_
      refine va_get (D := (dC, dI)) (ci := 6) (v := .ref tm) (C := RX6) (T := TX6) (N := 18) hx hb hts hi6 hown hK hP 0 rfl rfl 2 (by decide) (hts (.fieldLink RX6 22 "CrateHelpers" "team" "LCrateHelpers$Team;") (by decide +kernel)) (fun _ h9 => h9) rfl dX6_fail_43 ?_
      refine va_get (D := (dC, dI)) (ci := 4) (v := .ref t1) (C := RX4) (T := TX4) (N := 7) hx hb hts hi4 hown hK hP 1 rfl rfl 2 (by decide) (hts (.fieldLink RX6 165 "CrateHelpers$Team" "failAt" "[I") (by decide +kernel)) (fun _ h9 => h9) rfl dX6_fail_46 ?_
      refine lv_iload_n hx hb dX6_fail_49 rfl (lv_at hl 1 rfl) ?_
      refine lv_iload_n hx hb dX6_fail_50 rfl (lv_at hl 2 rfl) ?_
      refine va_iast hx hb hK hP hD hS 2 0 rfl rfl (in_le hi_hc4 (by decide)) dX6_fail_51 (fun H locs hP hD hS => ?_)
      have hP : va_P (dC, dI) vwCl [(h0, .inr (6, [.ref a0, .int 0, .ref tm, .int 0, .ref a4, .int (-9), .ref le, .int (-9), .int 0, .int 0, .ref aq, .ref aj, .ref a12, .ref sr, .ref a14, .ref a15, .ref a16, .int 0])), (tm, .inr (4, [.int 1, .int 0, .ref t1, .ref t2, .ref t3, .ref t4, .ref t5])), (t1, .inl (k1, 5, .inl (upd (fun _ => 0) (p0 : Int32).toNatClampNeg p1)))] H := hP
      have hD : va_D A [(h0, .inr (6, [.ref a0, .int 0, .ref tm, .int 0, .ref a4, .int (-9), .ref le, .int (-9), .int 0, .int 0, .ref aq, .ref aj, .ref a12, .ref sr, .ref a14, .ref a15, .ref a16, .int 0])), (tm, .inr (4, [.int 1, .int 0, .ref t1, .ref t2, .ref t3, .ref t4, .ref t5])), (t1, .inl (k1, 5, .inl (upd (fun _ => 0) (p0 : Int32).toNatClampNeg p1)))] := hD
      refine lv_iconst (v := 1) hx hb dX6_fail_52 (by decide) ?_
      exact W.iret (v := 1) hx hb hr (fun t ht hW => ⟨⟨1, (), rfl, by unfold an_fail; rw [if_pos hc4, if_pos hc8], trivial⟩, hS.F ht⟩) hS.2.2 dX6_fail_53
    · refine lv_if_ne (tgt := 30) hx hb dX6_fail_25 (by decide) (fun c_11 => absurd c_11 (by decide)) (fun _ => ?_)
      refine lv_iconst (v := (-1)) hx hb dX6_fail_28 (by decide) ?_
      exact W.iret (v := (-1)) hx hb hr (fun t ht hW => ⟨⟨(-1), (), rfl, by unfold an_fail; rw [if_pos hc4, if_neg hc8], trivial⟩, hS.F ht⟩) hS.2.2 dX6_fail_29
  · refine lv_if_eq (tgt := 28) hx hb dX6_fail_14 (by decide) (fun _ => ?_) (fun c_12 => absurd c_12 (by decide))
    refine lv_iconst (v := (-1)) hx hb dX6_fail_28 (by decide) ?_
    exact W.iret (v := (-1)) hx hb hr (fun t ht hW => ⟨⟨(-1), (), rfl, by unfold an_fail; rw [if_neg hc4], trivial⟩, hS.F ht⟩) hS.2.2 dX6_fail_29
set_option maxHeartbeats 4000000 in
set_option maxRecDepth 100000 in
/-- turn on a fresh object -/
theorem c_X6_turn (l : Launch) (dC : Nat → ClassId) (dI : Nat → Nat → Nat) (sz : Nat) (h0 : Nat) (a0 : Nat) (tm : Nat) (a4 : Nat) (le : Nat) (aq : Nat) (aj : Nat) (a12 : Nat) (sr : Nat) (a14 : Nat) (a15 : Nat) (a16 : Nat) (t1 : Nat) (t2 : Nat) (t3 : Nat) (t4 : Nat) (t5 : Nat) (k2 : ClassId) (p0 : Int32) : Met l yX6_turn wsX6_turn ({ frames := 3, cells := 0, slots := 0, locals := 120 }) (va_Pc [.ref h0, .int p0] (fun U => U.heap.size = sz ∧ va_P (dC, dI) vwCl [(h0, .inr (6, [.ref a0, .int 0, .ref tm, .int 0, .ref a4, .int (-9), .ref le, .int (-9), .int 0, .int 0, .ref aq, .ref aj, .ref a12, .ref sr, .ref a14, .ref a15, .ref a16, .int 0])), (tm, .inr (4, [.int 1, .int 0, .ref t1, .ref t2, .ref t3, .ref t4, .ref t5])), (t2, .inl (k2, 200, .inl (fun _ => 0)))] U.heap ∧ va_K (dC, dI) vwCl [(k2, .int)] U ∧ va_D (fun _ => True) [(h0, .inr (6, [.ref a0, .int 0, .ref tm, .int 0, .ref a4, .int (-9), .ref le, .int (-9), .int 0, .int 0, .ref aq, .ref aj, .ref a12, .ref sr, .ref a14, .ref a15, .ref a16, .int 0])), (tm, .inr (4, [.int 1, .int 0, .ref t1, .ref t2, .ref t3, .ref t4, .ref t5])), (t2, .inl (k2, 200, .inl (fun _ => 0)))])) (va_Qi (fun (r : Int32) (_ : Unit) => r = an_turn p0) (fun (_ : Unit) (_ : State) => True) (va_A [(h0, .inr (6, [.ref a0, .int 0, .ref tm, .int 0, .ref a4, .int (-9), .ref le, .int (-9), .int 0, .int 0, .ref aq, .ref aj, .ref a12, .ref sr, .ref a14, .ref a15, .ref a16, .int 0])), (tm, .inr (4, [.int 1, .int 0, .ref t1, .ref t2, .ref t3, .ref t4, .ref t5])), (t2, .inl (k2, 200, .inl (fun _ => 0)))] sz)) 0 0 (va_A [(h0, .inr (6, [.ref a0, .int 0, .ref tm, .int 0, .ref a4, .int (-9), .ref le, .int (-9), .int 0, .int 0, .ref aq, .ref aj, .ref a12, .ref sr, .ref a14, .ref a15, .ref a16, .int 0])), (tm, .inr (4, [.int 1, .int 0, .ref t1, .ref t2, .ref t3, .ref t4, .ref t5])), (t2, .inl (k2, 200, .inl (fun _ => 0)))] sz) := by
  refine Met.ofW (cc := cX6_turn) (maxL := 2) (ret := (some .int)) (by decide) rfl ?_
  intro p e s m args below meth c s₁ B hml hv
  obtain ⟨rfl, hsz, hP, hK, hD0⟩ := hv
  have hx := B.exec
  have hb := B.bytes
  have hr := B.returns
  have hts := atoms_spec (ws := wsX6_turn) B.pre
  have hown : s.vm.findClass RX6 = some m.cls := findClass_of_methodNamed B.named
  have hlocks := B.notSynchronized
  have hi6 : ∀ w ∈ u_ws RX6 TX6 18, w ∈ wsX6_turn := fun w h => List.mem_cons_of_mem _ (List.mem_append_left _ (List.mem_append_right _ h))
  have hi4 : ∀ w ∈ u_ws RX4 TX4 7, w ∈ wsX6_turn := fun w h => List.mem_cons_of_mem _ (List.mem_append_right _ h)
  subst hsz
  have hD := hD0.self (sz := s.heap.size)
  generalize hAe : va_A [(h0, .inr (6, [.ref a0, .int 0, .ref tm, .int 0, .ref a4, .int (-9), .ref le, .int (-9), .int 0, .int 0, .ref aq, .ref aj, .ref a12, .ref sr, .ref a14, .ref a15, .ref a16, .int 0])), (tm, .inr (4, [.int 1, .int 0, .ref t1, .ref t2, .ref t3, .ref t4, .ref t5])), (t2, .inl (k2, 200, .inl (fun _ => 0)))] s.heap.size = A at hD ⊢
  have hA : ∀ q : Nat, s.heap.size ≤ q → A q := fun q h => by rw [← hAe]; exact Or.inr h
  have hS : va_S A s.heap s.heap [] := va_S.rf
  have hP : va_P (dC, dI) vwCl [(h0, .inr (6, [.ref a0, .int 0, .ref tm, .int 0, .ref a4, .int (-9), .ref le, .int (-9), .int 0, .int 0, .ref aq, .ref aj, .ref a12, .ref sr, .ref a14, .ref a15, .ref a16, .int 0])), (tm, .inr (4, [.int 1, .int 0, .ref t1, .ref t2, .ref t3, .ref t4, .ref t5])), (t2, .inl (k2, 200, .inl (fun _ => 0)))] s.heap := hP
  have hl := lv_entry ([.ref h0, .int p0]) (n := 2) (Nat.le_of_ble_eq_true rfl)
  rw [lg_entry_eq]
  generalize (lg_sl ([.ref h0, .int p0]) ++ List.replicate (2 - (lg_sl ([.ref h0, .int p0])).length) Slot.unset).toArray = ls at hl ⊢
  have hl : lv_has ls 2 [(0, .ref h0), (1, .int p0)] := hl
  refine lv_iload_n hx hb dX6_turn_0 rfl (lv_at hl 1 rfl) ?_
  refine lv_iconst (v := 0) hx hb dX6_turn_1 (by decide) ?_
  refine lv_iconst (v := 4) hx hb dX6_turn_2 (by decide) ?_
  have hPc := hP.sub (ws' := []) [] rfl
  have hDc := hD.sub (ws' := []) [] (by decide) rfl
  have hKc := hK.sub (tys' := []) [] rfl
  have hFc := va_free (wc := []) hD hS hA [] rfl
  refine va_calli (va_runS (As := [.int p0, .int 0, .int 4]) (rest := []) ⟨hx, hb, hml, hown, hts⟩ (c_X6_isWithin l dC dI s.heap.size p0 0 4) (va_cwS 3 hts gX6_turn_X6_isWithin rfl rfl rfl (by decide +kernel) ⟨Nat.le_of_ble_eq_true rfl, Nat.le_of_ble_eq_true rfl⟩) ⟨fun a U g mk q => by obtain ⟨q0, q1, qP, qK, qD⟩ := q; exact ⟨q0, q1, qP, va_K.moved (u := U) (U := U.calling g mk a) (Vm.Alike.refl U.vm) qK, qD⟩, fun U hU hW => ⟨rfl, by rw [hU], by rw [hU]; exact hPc, va_K.moved hW.alike hKc, hDc.weaken (fun _ _ _ _ => trivial)⟩⟩ rfl rfl hl.1 rfl (lv_room (Nat.le_of_ble_eq_true rfl)) dX6_turn_3 ⟨Nat.le_of_ble_eq_true rfl, Nat.le_of_ble_eq_true rfl⟩) hS (fun q _ h => hFc q h) hFc (fun r1 u2 t H1 locs ht hvm hw hB hz1 hk1 hS => ?_)
  obtain ⟨hP, hD⟩ := va_join (wr := [(h0, .inr (6, [.ref a0, .int 0, .ref tm, .int 0, .ref a4, .int (-9), .ref le, .int (-9), .int 0, .int 0, .ref aq, .ref aj, .ref a12, .ref sr, .ref a14, .ref a15, .ref a16, .int 0])), (tm, .inr (4, [.int 1, .int 0, .ref t1, .ref t2, .ref t3, .ref t4, .ref t5])), (t2, .inl (k2, 200, .inl (fun _ => 0)))]) (w1 := []) hP hD [] [0, 1, 2] rfl rfl (by decide) (by decide) hk1 hFc (va_Pnil _ _ _) (va_Dnil _)
  generalize H1 = H at hP hS ⊢
  have hP : va_P (dC, dI) vwCl [(h0, .inr (6, [.ref a0, .int 0, .ref tm, .int 0, .ref a4, .int (-9), .ref le, .int (-9), .int 0, .int 0, .ref aq, .ref aj, .ref a12, .ref sr, .ref a14, .ref a15, .ref a16, .int 0])), (tm, .inr (4, [.int 1, .int 0, .ref t1, .ref t2, .ref t3, .ref t4, .ref t5])), (t2, .inl (k2, 200, .inl (fun _ => 0)))] H := hP
  have hD : va_D A [(h0, .inr (6, [.ref a0, .int 0, .ref tm, .int 0, .ref a4, .int (-9), .ref le, .int (-9), .int 0, .int 0, .ref aq, .ref aj, .ref a12, .ref sr, .ref a14, .ref a15, .ref a16, .int 0])), (tm, .inr (4, [.int 1, .int 0, .ref t1, .ref t2, .ref t3, .ref t4, .ref t5])), (t2, .inl (k2, 200, .inl (fun _ => 0)))] := hD
  have hK : va_K (dC, dI) vwCl [(k2, .int)] s := hK
  rcases hw with ⟨rfl, hc3⟩ | ⟨rfl, hc3⟩
  · have hi_hc3 : vp_in p0 5 := in_of (n := 4) hc3.1 (show p0 ≤ nI 4 from hc3.2) (by decide)
    refine lv_if_ne (tgt := 11) hx hb dX6_turn_6 (by decide) (fun _ => ?_) (fun c_4 => absurd c_4 (by decide))
    refine lv_aload_n hx hb dX6_turn_11 rfl (lv_at hl 0 rfl) ?_
    refine va_get (D := (dC, dI)) (ci := 6) (v := .int (-9)) (C := RX6) (T := TX6) (N := 18) hx hb hts hi6 hown hK hP 0 rfl rfl 5 (by decide) (hts (.fieldLink RX6 29 "CrateHelpers" "underWay" "I") (by decide +kernel)) (fun _ h9 => h9) rfl dX6_turn_12 ?_
    refine lv_bipush (v := (-9)) hx hb dX6_turn_15 (by decide) ?_
    refine lv_icmp_eq (tgt := 23) hx hb dX6_turn_17 (by decide) (fun _ => ?_) (fun c_5 => absurd c_5 (by decide))
    refine lv_aload_n hx hb dX6_turn_23 rfl (lv_at hl 0 rfl) ?_
    refine va_get (D := (dC, dI)) (ci := 6) (v := .ref tm) (C := RX6) (T := TX6) (N := 18) hx hb hts hi6 hown hK hP 0 rfl rfl 2 (by decide) (hts (.fieldLink RX6 22 "CrateHelpers" "team" "LCrateHelpers$Team;") (by decide +kernel)) (fun _ h9 => h9) rfl dX6_turn_24 ?_
    refine va_get (D := (dC, dI)) (ci := 4) (v := .int 0) (C := RX4) (T := TX4) (N := 7) hx hb hts hi4 hown hK hP 1 rfl rfl 1 (by decide) (hts (.fieldLink RX6 168 "CrateHelpers$Team" "scheduled" "I") (by decide +kernel)) (fun _ h9 => h9) rfl dX6_turn_27 ?_
    refine lv_sipush (v := 200) hx hb dX6_turn_30 (by decide) ?_
    refine lv_icmp_lt (tgt := 39) hx hb dX6_turn_33 (by decide) (fun _ => ?_) (fun c_6 => absurd c_6 (by decide))
    refine lv_aload_n hx hb dX6_turn_39 rfl (lv_at hl 0 rfl) ?_
    refine va_get (D := (dC, dI)) (ci := 6) (v := .ref tm) (C := RX6) (T := TX6) (N := 18) hx hb hts hi6 hown hK hP 0 rfl rfl 2 (by decide) (hts (.fieldLink RX6 22 "CrateHelpers" "team" "LCrateHelpers$Team;") (by decide +kernel)) (fun _ h9 => h9) rfl dX6_turn_40 ?_
    refine va_get (D := (dC, dI)) (ci := 4) (v := .ref t2) (C := RX4) (T := TX4) (N := 7) hx hb hts hi4 hown hK hP 1 rfl rfl 3 (by decide) (hts (.fieldLink RX6 171 "CrateHelpers$Team" "schedule" "[I") (by decide +kernel)) (fun _ h9 => h9) rfl dX6_turn_43 ?_
    refine lv_aload_n hx hb dX6_turn_46 rfl (lv_at hl 0 rfl) ?_
    refine va_get (D := (dC, dI)) (ci := 6) (v := .ref tm) (C := RX6) (T := TX6) (N := 18) hx hb hts hi6 hown hK hP 0 rfl rfl 2 (by decide) (hts (.fieldLink RX6 22 "CrateHelpers" "team" "LCrateHelpers$Team;") (by decide +kernel)) (fun _ h9 => h9) rfl dX6_turn_47 ?_
    refine va_get (D := (dC, dI)) (ci := 4) (v := .int 0) (C := RX4) (T := TX4) (N := 7) hx hb hts hi4 hown hK hP 1 rfl rfl 1 (by decide) (hts (.fieldLink RX6 168 "CrateHelpers$Team" "scheduled" "I") (by decide +kernel)) (fun _ h9 => h9) rfl dX6_turn_50 ?_
    refine lv_iload_n hx hb dX6_turn_53 rfl (lv_at hl 1 rfl) ?_
    refine va_iast hx hb hK hP hD hS 2 0 rfl rfl (by unfold vp_in; decide) dX6_turn_54 (fun H locs hP hD hS => ?_)
    have hP : va_P (dC, dI) vwCl [(h0, .inr (6, [.ref a0, .int 0, .ref tm, .int 0, .ref a4, .int (-9), .ref le, .int (-9), .int 0, .int 0, .ref aq, .ref aj, .ref a12, .ref sr, .ref a14, .ref a15, .ref a16, .int 0])), (tm, .inr (4, [.int 1, .int 0, .ref t1, .ref t2, .ref t3, .ref t4, .ref t5])), (t2, .inl (k2, 200, .inl (upd (fun _ => 0) (0 : Int32).toNatClampNeg p0)))] H := hP
    have hD : va_D A [(h0, .inr (6, [.ref a0, .int 0, .ref tm, .int 0, .ref a4, .int (-9), .ref le, .int (-9), .int 0, .int 0, .ref aq, .ref aj, .ref a12, .ref sr, .ref a14, .ref a15, .ref a16, .int 0])), (tm, .inr (4, [.int 1, .int 0, .ref t1, .ref t2, .ref t3, .ref t4, .ref t5])), (t2, .inl (k2, 200, .inl (upd (fun _ => 0) (0 : Int32).toNatClampNeg p0)))] := hD
    refine lv_aload_n hx hb dX6_turn_55 rfl (lv_at hl 0 rfl) ?_
    refine va_get (D := (dC, dI)) (ci := 6) (v := .ref tm) (C := RX6) (T := TX6) (N := 18) hx hb hts hi6 hown hK hP 0 rfl rfl 2 (by decide) (hts (.fieldLink RX6 22 "CrateHelpers" "team" "LCrateHelpers$Team;") (by decide +kernel)) (fun _ h9 => h9) rfl dX6_turn_56 ?_
    refine lv_dup hx hb dX6_turn_59 rfl ?_
    refine va_get (D := (dC, dI)) (ci := 4) (v := .int 0) (C := RX4) (T := TX4) (N := 7) hx hb hts hi4 hown hK hP 1 rfl rfl 1 (by decide) (hts (.fieldLink RX6 168 "CrateHelpers$Team" "scheduled" "I") (by decide +kernel)) (fun _ h9 => h9) rfl dX6_turn_60 ?_
    refine lv_iconst (v := 1) hx hb dX6_turn_63 (by decide) ?_
    refine lv_iadd hx hb dX6_turn_64 ?_
    refine lv_topi (fun z7 ez7 => ?_)
    obtain rfl : z7 = 1 := ez7.trans (by decide)
    refine va_put (D := (dC, dI)) (ci := 4) (v := .int 1) (ty := .int) (C := RX4) (T := TX4) (N := 7) hx hb hts hi4 tyX4 tyX4_ok nmX4 hown hK hP hD hS 1 rfl rfl 1 (by decide) (hts (.fieldLink RX6 168 "CrateHelpers$Team" "scheduled" "I") (by decide +kernel)) (fun _ h9 => h9) rfl (by decide +kernel) rfl rfl (Nat.le_of_ble_eq_true rfl) dX6_turn_65 (fun H locs hP hD hS => ?_)
    have hP : va_P (dC, dI) vwCl [(h0, .inr (6, [.ref a0, .int 0, .ref tm, .int 0, .ref a4, .int (-9), .ref le, .int (-9), .int 0, .int 0, .ref aq, .ref aj, .ref a12, .ref sr, .ref a14, .ref a15, .ref a16, .int 0])), (tm, .inr (4, [.int 1, .int 1, .ref t1, .ref t2, .ref t3, .ref t4, .ref t5])), (t2, .inl (k2, 200, .inl (upd (fun _ => 0) (0 : Int32).toNatClampNeg p0)))] H := hP
    have hD : va_D A [(h0, .inr (6, [.ref a0, .int 0, .ref tm, .int 0, .ref a4, .int (-9), .ref le, .int (-9), .int 0, .int 0, .ref aq, .ref aj, .ref a12, .ref sr, .ref a14, .ref a15, .ref a16, .int 0])), (tm, .inr (4, [.int 1, .int 1, .ref t1, .ref t2, .ref t3, .ref t4, .ref t5])), (t2, .inl (k2, 200, .inl (upd (fun _ => 0) (0 : Int32).toNatClampNeg p0)))] := hD
    refine lv_aload_n hx hb dX6_turn_68 rfl (lv_at hl 0 rfl) ?_
    refine va_get (D := (dC, dI)) (ci := 6) (v := .ref tm) (C := RX6) (T := TX6) (N := 18) hx hb hts hi6 hown hK hP 0 rfl rfl 2 (by decide) (hts (.fieldLink RX6 22 "CrateHelpers" "team" "LCrateHelpers$Team;") (by decide +kernel)) (fun _ h9 => h9) rfl dX6_turn_69 ?_
    refine va_get (D := (dC, dI)) (ci := 4) (v := .int 1) (C := RX4) (T := TX4) (N := 7) hx hb hts hi4 hown hK hP 1 rfl rfl 1 (by decide) (hts (.fieldLink RX6 168 "CrateHelpers$Team" "scheduled" "I") (by decide +kernel)) (fun _ h9 => h9) rfl dX6_turn_72 ?_
    exact W.iret (v := 1) hx hb hr (fun t ht hW => ⟨⟨1, (), rfl, by unfold an_turn; rw [if_pos hc3], trivial⟩, hS.F ht⟩) hS.2.2 dX6_turn_75
  · refine lv_if_ne (tgt := 11) hx hb dX6_turn_6 (by decide) (fun c_8 => absurd c_8 (by decide)) (fun _ => ?_)
    refine lv_iconst (v := (-1)) hx hb dX6_turn_9 (by decide) ?_
    exact W.iret (v := (-1)) hx hb hr (fun t ht hW => ⟨⟨(-1), (), rfl, by unfold an_turn; rw [if_neg hc3], trivial⟩, hS.F ht⟩) hS.2.2 dX6_turn_10
set_option maxHeartbeats 4000000 in
set_option maxRecDepth 100000 in
/-- plain on a fresh object -/
theorem c_X6_plain (l : Launch) (dC : Nat → ClassId) (dI : Nat → Nat → Nat) (sz : Nat) (h0 : Nat) (a0 : Nat) (tm : Nat) (a4 : Nat) (le : Nat) (aq : Nat) (aj : Nat) (a12 : Nat) (sr : Nat) (a14 : Nat) (a15 : Nat) (a16 : Nat) (t1 : Nat) (t2 : Nat) (t3 : Nat) (t4 : Nat) (t5 : Nat) : Met l yX6_plain wsX6_plain ({ frames := 3, cells := 0, slots := 0, locals := 120 }) (va_Pc [.ref h0] (fun U => U.heap.size = sz ∧ va_P (dC, dI) vwCl [(h0, .inr (6, [.ref a0, .int 0, .ref tm, .int 0, .ref a4, .int (-9), .ref le, .int (-9), .int 0, .int 0, .ref aq, .ref aj, .ref a12, .ref sr, .ref a14, .ref a15, .ref a16, .int 0])), (tm, .inr (4, [.int 1, .int 0, .ref t1, .ref t2, .ref t3, .ref t4, .ref t5]))] U.heap ∧ va_K (dC, dI) vwCl [] U ∧ va_D (fun _ => True) [(h0, .inr (6, [.ref a0, .int 0, .ref tm, .int 0, .ref a4, .int (-9), .ref le, .int (-9), .int 0, .int 0, .ref aq, .ref aj, .ref a12, .ref sr, .ref a14, .ref a15, .ref a16, .int 0])), (tm, .inr (4, [.int 1, .int 0, .ref t1, .ref t2, .ref t3, .ref t4, .ref t5]))])) (va_Qi (fun (r : Int32) (_ : Unit) => r = 0) (fun (_ : Unit) (_ : State) => True) (va_A [(h0, .inr (6, [.ref a0, .int 0, .ref tm, .int 0, .ref a4, .int (-9), .ref le, .int (-9), .int 0, .int 0, .ref aq, .ref aj, .ref a12, .ref sr, .ref a14, .ref a15, .ref a16, .int 0])), (tm, .inr (4, [.int 1, .int 0, .ref t1, .ref t2, .ref t3, .ref t4, .ref t5]))] sz)) 0 0 (va_A [(h0, .inr (6, [.ref a0, .int 0, .ref tm, .int 0, .ref a4, .int (-9), .ref le, .int (-9), .int 0, .int 0, .ref aq, .ref aj, .ref a12, .ref sr, .ref a14, .ref a15, .ref a16, .int 0])), (tm, .inr (4, [.int 1, .int 0, .ref t1, .ref t2, .ref t3, .ref t4, .ref t5]))] sz) := by
  refine Met.ofW (cc := cX6_plain) (maxL := 2) (ret := (some .int)) (by decide) rfl ?_
  intro p e s m args below meth c s₁ B hml hv
  obtain ⟨rfl, hsz, hP, hK, hD0⟩ := hv
  have hx := B.exec
  have hb := B.bytes
  have hr := B.returns
  have hts := atoms_spec (ws := wsX6_plain) B.pre
  have hown : s.vm.findClass RX6 = some m.cls := findClass_of_methodNamed B.named
  have hlocks := B.notSynchronized
  have hi6 : ∀ w ∈ u_ws RX6 TX6 18, w ∈ wsX6_plain := fun w h => List.mem_cons_of_mem _ (List.mem_append_left _ (List.mem_append_right _ h))
  have hi4 : ∀ w ∈ u_ws RX4 TX4 7, w ∈ wsX6_plain := fun w h => List.mem_cons_of_mem _ (List.mem_append_right _ h)
  subst hsz
  have hD := hD0.self (sz := s.heap.size)
  generalize hAe : va_A [(h0, .inr (6, [.ref a0, .int 0, .ref tm, .int 0, .ref a4, .int (-9), .ref le, .int (-9), .int 0, .int 0, .ref aq, .ref aj, .ref a12, .ref sr, .ref a14, .ref a15, .ref a16, .int 0])), (tm, .inr (4, [.int 1, .int 0, .ref t1, .ref t2, .ref t3, .ref t4, .ref t5]))] s.heap.size = A at hD ⊢
  have hA : ∀ q : Nat, s.heap.size ≤ q → A q := fun q h => by rw [← hAe]; exact Or.inr h
  have hS : va_S A s.heap s.heap [] := va_S.rf
  have hP : va_P (dC, dI) vwCl [(h0, .inr (6, [.ref a0, .int 0, .ref tm, .int 0, .ref a4, .int (-9), .ref le, .int (-9), .int 0, .int 0, .ref aq, .ref aj, .ref a12, .ref sr, .ref a14, .ref a15, .ref a16, .int 0])), (tm, .inr (4, [.int 1, .int 0, .ref t1, .ref t2, .ref t3, .ref t4, .ref t5]))] s.heap := hP
  have hl := lv_entry ([.ref h0]) (n := 2) (Nat.le_of_ble_eq_true rfl)
  rw [lg_entry_eq]
  generalize (lg_sl ([.ref h0]) ++ List.replicate (2 - (lg_sl ([.ref h0])).length) Slot.unset).toArray = ls at hl ⊢
  have hl : lv_has ls 2 [(0, .ref h0)] := hl
  refine lv_aload_n hx hb dX6_plain_0 rfl (lv_at hl 0 rfl) ?_
  refine va_get (D := (dC, dI)) (ci := 6) (v := .int (-9)) (C := RX6) (T := TX6) (N := 18) hx hb hts hi6 hown hK hP 0 rfl rfl 5 (by decide) (hts (.fieldLink RX6 29 "CrateHelpers" "underWay" "I") (by decide +kernel)) (fun _ h9 => h9) rfl dX6_plain_1 ?_
  refine lv_bipush (v := (-9)) hx hb dX6_plain_4 (by decide) ?_
  refine lv_icmp_eq (tgt := 12) hx hb dX6_plain_6 (by decide) (fun _ => ?_) (fun c_1 => absurd c_1 (by decide))
  refine lv_aload_n hx hb dX6_plain_12 rfl (lv_at hl 0 rfl) ?_
  refine va_get (D := (dC, dI)) (ci := 6) (v := .ref tm) (C := RX6) (T := TX6) (N := 18) hx hb hts hi6 hown hK hP 0 rfl rfl 2 (by decide) (hts (.fieldLink RX6 22 "CrateHelpers" "team" "LCrateHelpers$Team;") (by decide +kernel)) (fun _ h9 => h9) rfl dX6_plain_13 ?_
  refine va_get (D := (dC, dI)) (ci := 4) (v := .int 0) (C := RX4) (T := TX4) (N := 7) hx hb hts hi4 hown hK hP 1 rfl rfl 1 (by decide) (hts (.fieldLink RX6 168 "CrateHelpers$Team" "scheduled" "I") (by decide +kernel)) (fun _ h9 => h9) rfl dX6_plain_16 ?_
  refine lv_istore_n (lv' := [(1, .int 0), (0, .ref h0)]) hx hb dX6_plain_19 rfl hl (by decide) rfl (fun ls hl => ?_)
  refine lv_aload_n hx hb dX6_plain_20 rfl (lv_at hl 1 rfl) ?_
  refine va_get (D := (dC, dI)) (ci := 6) (v := .ref tm) (C := RX6) (T := TX6) (N := 18) hx hb hts hi6 hown hK hP 0 rfl rfl 2 (by decide) (hts (.fieldLink RX6 22 "CrateHelpers" "team" "LCrateHelpers$Team;") (by decide +kernel)) (fun _ h9 => h9) rfl dX6_plain_21 ?_
  refine lv_iconst (v := 0) hx hb dX6_plain_24 (by decide) ?_
  refine va_put (D := (dC, dI)) (ci := 4) (v := .int 0) (ty := .int) (C := RX4) (T := TX4) (N := 7) hx hb hts hi4 tyX4 tyX4_ok nmX4 hown hK hP hD hS 1 rfl rfl 1 (by decide) (hts (.fieldLink RX6 168 "CrateHelpers$Team" "scheduled" "I") (by decide +kernel)) (fun _ h9 => h9) rfl (by decide +kernel) rfl rfl (Nat.le_of_ble_eq_true rfl) dX6_plain_25 (fun H locs hP hD hS => ?_)
  have hP : va_P (dC, dI) vwCl [(h0, .inr (6, [.ref a0, .int 0, .ref tm, .int 0, .ref a4, .int (-9), .ref le, .int (-9), .int 0, .int 0, .ref aq, .ref aj, .ref a12, .ref sr, .ref a14, .ref a15, .ref a16, .int 0])), (tm, .inr (4, [.int 1, .int 0, .ref t1, .ref t2, .ref t3, .ref t4, .ref t5]))] H := hP
  have hD : va_D A [(h0, .inr (6, [.ref a0, .int 0, .ref tm, .int 0, .ref a4, .int (-9), .ref le, .int (-9), .int 0, .int 0, .ref aq, .ref aj, .ref a12, .ref sr, .ref a14, .ref a15, .ref a16, .int 0])), (tm, .inr (4, [.int 1, .int 0, .ref t1, .ref t2, .ref t3, .ref t4, .ref t5]))] := hD
  refine lv_iload_n hx hb dX6_plain_28 rfl (lv_at hl 0 rfl) ?_
  exact W.iret (v := 0) hx hb hr (fun t ht hW => ⟨⟨0, (), rfl, rfl, trivial⟩, hS.F ht⟩) hS.2.2 dX6_plain_29
set_option maxHeartbeats 4000000 in
set_option maxRecDepth 100000 in
/-- limit on a fresh object -/
theorem c_X6_limit (l : Launch) (dC : Nat → ClassId) (dI : Nat → Nat → Nat) (sz : Nat) (h0 : Nat) (a0 : Nat) (tm : Nat) (a4 : Nat) (le : Nat) (aq : Nat) (aj : Nat) (a12 : Nat) (sr : Nat) (a14 : Nat) (a15 : Nat) (a16 : Nat) (p0 : Int32) : Met l yX6_limit wsX6_limit ({ frames := 3, cells := 0, slots := 0, locals := 120 }) (va_Pc [.ref h0, .int p0] (fun U => U.heap.size = sz ∧ va_P (dC, dI) vwCl [(h0, .inr (6, [.ref a0, .int 0, .ref tm, .int 0, .ref a4, .int (-9), .ref le, .int (-9), .int 0, .int 0, .ref aq, .ref aj, .ref a12, .ref sr, .ref a14, .ref a15, .ref a16, .int 0]))] U.heap ∧ va_K (dC, dI) vwCl [] U ∧ va_D (fun _ => True) [(h0, .inr (6, [.ref a0, .int 0, .ref tm, .int 0, .ref a4, .int (-9), .ref le, .int (-9), .int 0, .int 0, .ref aq, .ref aj, .ref a12, .ref sr, .ref a14, .ref a15, .ref a16, .int 0]))])) (va_Qi (fun (r : Int32) (_ : Unit) => r = an_limit p0) (fun (_ : Unit) (_ : State) => True) (va_A [(h0, .inr (6, [.ref a0, .int 0, .ref tm, .int 0, .ref a4, .int (-9), .ref le, .int (-9), .int 0, .int 0, .ref aq, .ref aj, .ref a12, .ref sr, .ref a14, .ref a15, .ref a16, .int 0]))] sz)) 0 0 (va_A [(h0, .inr (6, [.ref a0, .int 0, .ref tm, .int 0, .ref a4, .int (-9), .ref le, .int (-9), .int 0, .int 0, .ref aq, .ref aj, .ref a12, .ref sr, .ref a14, .ref a15, .ref a16, .int 0]))] sz) := by
  refine Met.ofW (cc := cX6_limit) (maxL := 3) (ret := (some .int)) (by decide) rfl ?_
  intro p e s m args below meth c s₁ B hml hv
  obtain ⟨rfl, hsz, hP, hK, hD0⟩ := hv
  have hx := B.exec
  have hb := B.bytes
  have hr := B.returns
  have hts := atoms_spec (ws := wsX6_limit) B.pre
  have hown : s.vm.findClass RX6 = some m.cls := findClass_of_methodNamed B.named
  have hlocks := B.notSynchronized
  have hi6 : ∀ w ∈ u_ws RX6 TX6 18, w ∈ wsX6_limit := fun w h => List.mem_cons_of_mem _ (List.mem_append_right _ h)
  subst hsz
  have hD := hD0.self (sz := s.heap.size)
  generalize hAe : va_A [(h0, .inr (6, [.ref a0, .int 0, .ref tm, .int 0, .ref a4, .int (-9), .ref le, .int (-9), .int 0, .int 0, .ref aq, .ref aj, .ref a12, .ref sr, .ref a14, .ref a15, .ref a16, .int 0]))] s.heap.size = A at hD ⊢
  have hA : ∀ q : Nat, s.heap.size ≤ q → A q := fun q h => by rw [← hAe]; exact Or.inr h
  have hS : va_S A s.heap s.heap [] := va_S.rf
  have hP : va_P (dC, dI) vwCl [(h0, .inr (6, [.ref a0, .int 0, .ref tm, .int 0, .ref a4, .int (-9), .ref le, .int (-9), .int 0, .int 0, .ref aq, .ref aj, .ref a12, .ref sr, .ref a14, .ref a15, .ref a16, .int 0]))] s.heap := hP
  have hl := lv_entry ([.ref h0, .int p0]) (n := 3) (Nat.le_of_ble_eq_true rfl)
  rw [lg_entry_eq]
  generalize (lg_sl ([.ref h0, .int p0]) ++ List.replicate (3 - (lg_sl ([.ref h0, .int p0])).length) Slot.unset).toArray = ls at hl ⊢
  have hl : lv_has ls 3 [(0, .ref h0), (1, .int p0)] := hl
  refine lv_iload_n hx hb dX6_limit_0 rfl (lv_at hl 1 rfl) ?_
  refine lv_iconst (v := 0) hx hb dX6_limit_1 (by decide) ?_
  refine lv_sipush (v := 1000) hx hb dX6_limit_2 (by decide) ?_
  have hPc := hP.sub (ws' := []) [] rfl
  have hDc := hD.sub (ws' := []) [] (by decide) rfl
  have hKc := hK.sub (tys' := []) [] rfl
  have hFc := va_free (wc := []) hD hS hA [] rfl
  refine va_calli (va_runS (As := [.int p0, .int 0, .int 1000]) (rest := []) ⟨hx, hb, hml, hown, hts⟩ (c_X6_isWithin l dC dI s.heap.size p0 0 1000) (va_cwS 3 hts gX6_limit_X6_isWithin rfl rfl rfl (by decide +kernel) ⟨Nat.le_of_ble_eq_true rfl, Nat.le_of_ble_eq_true rfl⟩) ⟨fun a U g mk q => by obtain ⟨q0, q1, qP, qK, qD⟩ := q; exact ⟨q0, q1, qP, va_K.moved (u := U) (U := U.calling g mk a) (Vm.Alike.refl U.vm) qK, qD⟩, fun U hU hW => ⟨rfl, by rw [hU], by rw [hU]; exact hPc, va_K.moved hW.alike hKc, hDc.weaken (fun _ _ _ _ => trivial)⟩⟩ rfl rfl hl.1 rfl (lv_room (Nat.le_of_ble_eq_true rfl)) dX6_limit_5 ⟨Nat.le_of_ble_eq_true rfl, Nat.le_of_ble_eq_true rfl⟩) hS (fun q _ h => hFc q h) hFc (fun r1 u2 t H1 locs ht hvm hw hB hz1 hk1 hS => ?_)
  obtain ⟨hP, hD⟩ := va_join (wr := [(h0, .inr (6, [.ref a0, .int 0, .ref tm, .int 0, .ref a4, .int (-9), .ref le, .int (-9), .int 0, .int 0, .ref aq, .ref aj, .ref a12, .ref sr, .ref a14, .ref a15, .ref a16, .int 0]))]) (w1 := []) hP hD [] [0] rfl rfl (by decide) (by decide) hk1 hFc (va_Pnil _ _ _) (va_Dnil _)
  generalize H1 = H at hP hS ⊢
  have hP : va_P (dC, dI) vwCl [(h0, .inr (6, [.ref a0, .int 0, .ref tm, .int 0, .ref a4, .int (-9), .ref le, .int (-9), .int 0, .int 0, .ref aq, .ref aj, .ref a12, .ref sr, .ref a14, .ref a15, .ref a16, .int 0]))] H := hP
  have hD : va_D A [(h0, .inr (6, [.ref a0, .int 0, .ref tm, .int 0, .ref a4, .int (-9), .ref le, .int (-9), .int 0, .int 0, .ref aq, .ref aj, .ref a12, .ref sr, .ref a14, .ref a15, .ref a16, .int 0]))] := hD
  have hK : va_K (dC, dI) vwCl [] s := hK
  rcases hw with ⟨rfl, hc3⟩ | ⟨rfl, hc3⟩
  · have hi_hc3 : vp_in p0 1001 := in_of (n := 1000) hc3.1 (show p0 ≤ nI 1000 from hc3.2) (by decide)
    refine lv_if_ne (tgt := 13) hx hb dX6_limit_8 (by decide) (fun _ => ?_) (fun c_4 => absurd c_4 (by decide))
    refine lv_aload_n hx hb dX6_limit_13 rfl (lv_at hl 0 rfl) ?_
    refine va_get (D := (dC, dI)) (ci := 6) (v := .int (-9)) (C := RX6) (T := TX6) (N := 18) hx hb hts hi6 hown hK hP 0 rfl rfl 5 (by decide) (hts (.fieldLink RX6 29 "CrateHelpers" "underWay" "I") (by decide +kernel)) (fun _ h9 => h9) rfl dX6_limit_14 ?_
    refine lv_bipush (v := (-9)) hx hb dX6_limit_17 (by decide) ?_
    refine lv_icmp_eq (tgt := 25) hx hb dX6_limit_19 (by decide) (fun _ => ?_) (fun c_5 => absurd c_5 (by decide))
    refine lv_aload_n hx hb dX6_limit_25 rfl (lv_at hl 0 rfl) ?_
    refine va_get (D := (dC, dI)) (ci := 6) (v := .int 0) (C := RX6) (T := TX6) (N := 18) hx hb hts hi6 hown hK hP 0 rfl rfl 3 (by decide) (hts (.fieldLink RX6 26 "CrateHelpers" "nodeLimit" "I") (by decide +kernel)) (fun _ h9 => h9) rfl dX6_limit_26 ?_
    refine lv_istore_n (lv' := [(2, .int 0), (0, .ref h0), (1, .int p0)]) hx hb dX6_limit_29 rfl hl (by decide) rfl (fun ls hl => ?_)
    refine lv_aload_n hx hb dX6_limit_30 rfl (lv_at hl 1 rfl) ?_
    refine lv_iload_n hx hb dX6_limit_31 rfl (lv_at hl 2 rfl) ?_
    refine va_put (D := (dC, dI)) (ci := 6) (v := .int p0) (ty := .int) (C := RX6) (T := TX6) (N := 18) hx hb hts hi6 tyX6 tyX6_ok nmX6 hown hK hP hD hS 0 rfl rfl 3 (by decide) (hts (.fieldLink RX6 26 "CrateHelpers" "nodeLimit" "I") (by decide +kernel)) (fun _ h9 => h9) rfl (by decide +kernel) rfl rfl (Nat.le_of_ble_eq_true rfl) dX6_limit_32 (fun H locs hP hD hS => ?_)
    have hP : va_P (dC, dI) vwCl [(h0, .inr (6, [.ref a0, .int 0, .ref tm, .int p0, .ref a4, .int (-9), .ref le, .int (-9), .int 0, .int 0, .ref aq, .ref aj, .ref a12, .ref sr, .ref a14, .ref a15, .ref a16, .int 0]))] H := hP
    have hD : va_D A [(h0, .inr (6, [.ref a0, .int 0, .ref tm, .int p0, .ref a4, .int (-9), .ref le, .int (-9), .int 0, .int 0, .ref aq, .ref aj, .ref a12, .ref sr, .ref a14, .ref a15, .ref a16, .int 0]))] := hD
    refine lv_iload_n hx hb dX6_limit_35 rfl (lv_at hl 0 rfl) ?_
    exact W.iret (v := 0) hx hb hr (fun t ht hW => ⟨⟨0, (), rfl, by unfold an_limit; rw [if_pos hc3], trivial⟩, hS.F ht⟩) hS.2.2 dX6_limit_36
  · refine lv_if_ne (tgt := 13) hx hb dX6_limit_8 (by decide) (fun c_6 => absurd c_6 (by decide)) (fun _ => ?_)
    refine lv_iconst (v := (-1)) hx hb dX6_limit_11 (by decide) ?_
    exact W.iret (v := (-1)) hx hb hr (fun t ht hW => ⟨⟨(-1), (), rfl, by unfold an_limit; rw [if_neg hc3], trivial⟩, hS.F ht⟩) hS.2.2 dX6_limit_12
set_option maxHeartbeats 4000000 in
set_option maxRecDepth 100000 in
/-- solve on a fresh object -/
theorem c_X6_solve (l : Launch) (dC : Nat → ClassId) (dI : Nat → Nat → Nat) (sz : Nat) (h0 : Nat) (a0 : Nat) (tm : Nat) (a4 : Nat) (le : Nat) (aq : Nat) (aj : Nat) (a12 : Nat) (sr : Nat) (a14 : Nat) (a15 : Nat) (a16 : Nat) (p0 : Int32) (p1 : Int32) : Met l yX6_solve wsX6_solve ({ frames := 3, cells := 0, slots := 0, locals := 120 }) (va_Pc [.ref h0, .int p0, .int p1] (fun U => U.heap.size = sz ∧ va_P (dC, dI) vwCl [(h0, .inr (6, [.ref a0, .int 0, .ref tm, .int 0, .ref a4, .int (-9), .ref le, .int (-9), .int 0, .int 0, .ref aq, .ref aj, .ref a12, .ref sr, .ref a14, .ref a15, .ref a16, .int 0]))] U.heap ∧ va_K (dC, dI) vwCl [] U ∧ va_D (fun _ => True) [(h0, .inr (6, [.ref a0, .int 0, .ref tm, .int 0, .ref a4, .int (-9), .ref le, .int (-9), .int 0, .int 0, .ref aq, .ref aj, .ref a12, .ref sr, .ref a14, .ref a15, .ref a16, .int 0]))])) (va_Qi (fun (r : Int32) (_ : Unit) => r = -1) (fun (_ : Unit) (_ : State) => True) (va_A [(h0, .inr (6, [.ref a0, .int 0, .ref tm, .int 0, .ref a4, .int (-9), .ref le, .int (-9), .int 0, .int 0, .ref aq, .ref aj, .ref a12, .ref sr, .ref a14, .ref a15, .ref a16, .int 0]))] sz)) 0 0 (va_A [(h0, .inr (6, [.ref a0, .int 0, .ref tm, .int 0, .ref a4, .int (-9), .ref le, .int (-9), .int 0, .int 0, .ref aq, .ref aj, .ref a12, .ref sr, .ref a14, .ref a15, .ref a16, .int 0]))] sz) := by
  refine Met.ofW (cc := cX6_solve) (maxL := 5) (ret := (some .int)) (by decide) rfl ?_
  intro p e s m args below meth c s₁ B hml hv
  obtain ⟨rfl, hsz, hP, hK, hD0⟩ := hv
  have hx := B.exec
  have hb := B.bytes
  have hr := B.returns
  have hts := atoms_spec (ws := wsX6_solve) B.pre
  have hown : s.vm.findClass RX6 = some m.cls := findClass_of_methodNamed B.named
  have hlocks := B.notSynchronized
  have hi6 : ∀ w ∈ u_ws RX6 TX6 18, w ∈ wsX6_solve := fun w h => List.mem_cons_of_mem _ (List.mem_append_left _ (List.mem_append_left _ (List.mem_append_left _ (List.mem_append_left _ (List.mem_append_left _ (List.mem_append_left _ (List.mem_append_right _ h)))))))
  have hi3 : ∀ w ∈ u_ws RX3 TX3 6, w ∈ wsX6_solve := fun w h => List.mem_cons_of_mem _ (List.mem_append_left _ (List.mem_append_left _ (List.mem_append_left _ (List.mem_append_left _ (List.mem_append_left _ (List.mem_append_right _ h))))))
  have hi4 : ∀ w ∈ u_ws RX4 TX4 7, w ∈ wsX6_solve := fun w h => List.mem_cons_of_mem _ (List.mem_append_left _ (List.mem_append_left _ (List.mem_append_left _ (List.mem_append_left _ (List.mem_append_right _ h)))))
  have hi5 : ∀ w ∈ u_ws RX5 TX5 16, w ∈ wsX6_solve := fun w h => List.mem_cons_of_mem _ (List.mem_append_left _ (List.mem_append_left _ (List.mem_append_left _ (List.mem_append_right _ h))))
  have hi1 : ∀ w ∈ u_ws RX1 TX1 9, w ∈ wsX6_solve := fun w h => List.mem_cons_of_mem _ (List.mem_append_left _ (List.mem_append_left _ (List.mem_append_right _ h)))
  have hi0 : ∀ w ∈ u_ws RX0 TX0 3, w ∈ wsX6_solve := fun w h => List.mem_cons_of_mem _ (List.mem_append_left _ (List.mem_append_right _ h))
  have hi2 : ∀ w ∈ u_ws RX2 TX2 7, w ∈ wsX6_solve := fun w h => List.mem_cons_of_mem _ (List.mem_append_right _ h)
  subst hsz
  have hD := hD0.self (sz := s.heap.size)
  generalize hAe : va_A [(h0, .inr (6, [.ref a0, .int 0, .ref tm, .int 0, .ref a4, .int (-9), .ref le, .int (-9), .int 0, .int 0, .ref aq, .ref aj, .ref a12, .ref sr, .ref a14, .ref a15, .ref a16, .int 0]))] s.heap.size = A at hD ⊢
  have hA : ∀ q : Nat, s.heap.size ≤ q → A q := fun q h => by rw [← hAe]; exact Or.inr h
  have hS : va_S A s.heap s.heap [] := va_S.rf
  have hP : va_P (dC, dI) vwCl [(h0, .inr (6, [.ref a0, .int 0, .ref tm, .int 0, .ref a4, .int (-9), .ref le, .int (-9), .int 0, .int 0, .ref aq, .ref aj, .ref a12, .ref sr, .ref a14, .ref a15, .ref a16, .int 0]))] s.heap := hP
  have hl := lv_entry ([.ref h0, .int p0, .int p1]) (n := 5) (Nat.le_of_ble_eq_true rfl)
  rw [lg_entry_eq]
  generalize (lg_sl ([.ref h0, .int p0, .int p1]) ++ List.replicate (5 - (lg_sl ([.ref h0, .int p0, .int p1])).length) Slot.unset).toArray = ls at hl ⊢
  have hl : lv_has ls 5 [(0, .ref h0), (1, .int p0), (2, .int p1)] := hl
  refine lv_aload_n hx hb dX6_solve_0 rfl (lv_at hl 0 rfl) ?_
  refine lv_iload_n hx hb dX6_solve_1 rfl (lv_at hl 1 rfl) ?_
  have hPc := hP.sub (ws' := [(h0, .inr (6, [.ref a0, .int 0, .ref tm, .int 0, .ref a4, .int (-9), .ref le, .int (-9), .int 0, .int 0, .ref aq, .ref aj, .ref a12, .ref sr, .ref a14, .ref a15, .ref a16, .int 0]))]) [0] rfl
  have hDc := hD.sub (ws' := [(h0, .inr (6, [.ref a0, .int 0, .ref tm, .int 0, .ref a4, .int (-9), .ref le, .int (-9), .int 0, .int 0, .ref aq, .ref aj, .ref a12, .ref sr, .ref a14, .ref a15, .ref a16, .int 0]))]) [0] (by decide) rfl
  have hKc := hK.sub (tys' := []) [] rfl
  have hFc := va_free (wc := [(h0, .inr (6, [.ref a0, .int 0, .ref tm, .int 0, .ref a4, .int (-9), .ref le, .int (-9), .int 0, .int 0, .ref aq, .ref aj, .ref a12, .ref sr, .ref a14, .ref a15, .ref a16, .int 0]))]) hD hS hA [0] rfl
  refine va_calli (va_runV (As := [.int p0]) (rest := []) ⟨hx, hb, hml, hown, hts⟩ (c_X6_isProblem l dC dI s.heap.size h0 a0 tm a4 le aq aj a12 sr a14 a15 a16 p0) (cwV 1 hts gX6_solve_X6_isProblem rfl rfl rfl (by decide +kernel) ⟨Nat.le_of_ble_eq_true rfl, Nat.le_of_ble_eq_true rfl⟩) ⟨fun a U g mk q => by obtain ⟨q0, q1, qP, qK, qD⟩ := q; exact ⟨q0, q1, qP, va_K.moved (u := U) (U := U.calling g mk a) (Vm.Alike.refl U.vm) qK, qD⟩, va_recv hKc hPc (ci := 6) (q0 := 0) rfl rfl, fun U hU hW => ⟨rfl, by rw [hU], by rw [hU]; exact hPc, va_K.moved hW.alike hKc, hDc.weaken (fun _ _ _ _ => trivial)⟩⟩ rfl rfl hl.1 rfl (lv_room (Nat.le_of_ble_eq_true rfl)) dX6_solve_2 ⟨Nat.le_of_ble_eq_true rfl, Nat.le_of_ble_eq_true rfl⟩) hS (fun q _ h => hFc q h) hFc (fun r1 u2 t H1 locs ht hvm hw hB hz1 hk1 hS => ?_)
  obtain ⟨hP1, hK1, hD1⟩ := hB
  rw [ht] at hP1
  have hK1 := va_K.moved hvm.symm hK1
  try dsimp only at hw
  obtain ⟨hP, hD⟩ := va_join (wr := []) (w1 := [(h0, .inr (6, [.ref a0, .int 0, .ref tm, .int 0, .ref a4, .int (-9), .ref le, .int (-9), .int 0, .int 0, .ref aq, .ref aj, .ref a12, .ref sr, .ref a14, .ref a15, .ref a16, .int 0]))]) hP hD [0] [] rfl rfl (by decide) (by decide) hk1 hFc hP1 hD1
  have hK := (hK.sub (tys' := []) [] rfl).app hK1
  generalize H1 = H at hP hS ⊢
  have hP : va_P (dC, dI) vwCl [(h0, .inr (6, [.ref a0, .int 0, .ref tm, .int 0, .ref a4, .int (-9), .ref le, .int (-9), .int 0, .int 0, .ref aq, .ref aj, .ref a12, .ref sr, .ref a14, .ref a15, .ref a16, .int 0]))] H := hP
  have hD : va_D A [(h0, .inr (6, [.ref a0, .int 0, .ref tm, .int 0, .ref a4, .int (-9), .ref le, .int (-9), .int 0, .int 0, .ref aq, .ref aj, .ref a12, .ref sr, .ref a14, .ref a15, .ref a16, .int 0]))] := hD
  have hK : va_K (dC, dI) vwCl [] s := hK
  obtain rfl : r1 = 0 := hw
  refine lv_if_eq (tgt := 19) hx hb dX6_solve_5 (by decide) (fun _ => ?_) (fun c_3 => absurd c_3 (by decide))
  refine lv_iconst (v := (-1)) hx hb dX6_solve_19 (by decide) ?_
  exact W.iret (v := (-1)) hx hb hr (fun t ht hW => ⟨⟨(-1), (), rfl, rfl, trivial⟩, hS.F ht⟩) hS.2.2 dX6_solve_20
set_option maxHeartbeats 4000000 in
set_option maxRecDepth 100000 in
/-- giveUp on a fresh object -/
theorem c_X6_giveUp (l : Launch) (dC : Nat → ClassId) (dI : Nat → Nat → Nat) (sz : Nat) (h0 : Nat) (a0 : Nat) (tm : Nat) (a4 : Nat) (le : Nat) (aq : Nat) (aj : Nat) (a12 : Nat) (sr : Nat) (a14 : Nat) (a15 : Nat) (a16 : Nat) : Met l yX6_giveUp wsX6_giveUp ({ frames := 3, cells := 0, slots := 0, locals := 120 }) (va_Pc [.ref h0] (fun U => U.heap.size = sz ∧ va_P (dC, dI) vwCl [(h0, .inr (6, [.ref a0, .int 0, .ref tm, .int 0, .ref a4, .int (-9), .ref le, .int (-9), .int 0, .int 0, .ref aq, .ref aj, .ref a12, .ref sr, .ref a14, .ref a15, .ref a16, .int 0]))] U.heap ∧ va_K (dC, dI) vwCl [] U ∧ va_D (fun _ => True) [(h0, .inr (6, [.ref a0, .int 0, .ref tm, .int 0, .ref a4, .int (-9), .ref le, .int (-9), .int 0, .int 0, .ref aq, .ref aj, .ref a12, .ref sr, .ref a14, .ref a15, .ref a16, .int 0]))])) (va_Qi (fun (r : Int32) (_ : Unit) => r = -2) (fun (_ : Unit) (_ : State) => True) (va_A [(h0, .inr (6, [.ref a0, .int 0, .ref tm, .int 0, .ref a4, .int (-9), .ref le, .int (-9), .int 0, .int 0, .ref aq, .ref aj, .ref a12, .ref sr, .ref a14, .ref a15, .ref a16, .int 0]))] sz)) 0 0 (va_A [(h0, .inr (6, [.ref a0, .int 0, .ref tm, .int 0, .ref a4, .int (-9), .ref le, .int (-9), .int 0, .int 0, .ref aq, .ref aj, .ref a12, .ref sr, .ref a14, .ref a15, .ref a16, .int 0]))] sz) := by
  refine Met.ofW (cc := cX6_giveUp) (maxL := 2) (ret := (some .int)) (by decide) rfl ?_
  intro p e s m args below meth c s₁ B hml hv
  obtain ⟨rfl, hsz, hP, hK, hD0⟩ := hv
  have hx := B.exec
  have hb := B.bytes
  have hr := B.returns
  have hts := atoms_spec (ws := wsX6_giveUp) B.pre
  have hown : s.vm.findClass RX6 = some m.cls := findClass_of_methodNamed B.named
  have hlocks := B.notSynchronized
  have hi6 : ∀ w ∈ u_ws RX6 TX6 18, w ∈ wsX6_giveUp := fun w h => List.mem_cons_of_mem _ (List.mem_append_right _ h)
  subst hsz
  have hD := hD0.self (sz := s.heap.size)
  generalize hAe : va_A [(h0, .inr (6, [.ref a0, .int 0, .ref tm, .int 0, .ref a4, .int (-9), .ref le, .int (-9), .int 0, .int 0, .ref aq, .ref aj, .ref a12, .ref sr, .ref a14, .ref a15, .ref a16, .int 0]))] s.heap.size = A at hD ⊢
  have hA : ∀ q : Nat, s.heap.size ≤ q → A q := fun q h => by rw [← hAe]; exact Or.inr h
  have hS : va_S A s.heap s.heap [] := va_S.rf
  have hP : va_P (dC, dI) vwCl [(h0, .inr (6, [.ref a0, .int 0, .ref tm, .int 0, .ref a4, .int (-9), .ref le, .int (-9), .int 0, .int 0, .ref aq, .ref aj, .ref a12, .ref sr, .ref a14, .ref a15, .ref a16, .int 0]))] s.heap := hP
  have hl := lv_entry ([.ref h0]) (n := 2) (Nat.le_of_ble_eq_true rfl)
  rw [lg_entry_eq]
  generalize (lg_sl ([.ref h0]) ++ List.replicate (2 - (lg_sl ([.ref h0])).length) Slot.unset).toArray = ls at hl ⊢
  have hl : lv_has ls 2 [(0, .ref h0)] := hl
  refine lv_aload_n hx hb dX6_giveUp_0 rfl (lv_at hl 0 rfl) ?_
  refine va_get (D := (dC, dI)) (ci := 6) (v := .int (-9)) (C := RX6) (T := TX6) (N := 18) hx hb hts hi6 hown hK hP 0 rfl rfl 5 (by decide) (hts (.fieldLink RX6 29 "CrateHelpers" "underWay" "I") (by decide +kernel)) (fun _ h9 => h9) rfl dX6_giveUp_1 ?_
  refine lv_bipush (v := (-9)) hx hb dX6_giveUp_4 (by decide) ?_
  refine lv_icmp_ne (tgt := 12) hx hb dX6_giveUp_6 (by decide) (fun c_1 => absurd c_1 (by decide)) (fun _ => ?_)
  refine lv_bipush (v := (-2)) hx hb dX6_giveUp_9 (by decide) ?_
  exact W.iret (v := (-2)) hx hb hr (fun t ht hW => ⟨⟨(-2), (), rfl, rfl, trivial⟩, hS.F ht⟩) hS.2.2 dX6_giveUp_11
set_option maxHeartbeats 4000000 in
set_option maxRecDepth 100000 in
/-- told on a fresh object -/
theorem c_X6_told (l : Launch) (dC : Nat → ClassId) (dI : Nat → Nat → Nat) (sz : Nat) (h0 : Nat) (a0 : Nat) (tm : Nat) (a4 : Nat) (le : Nat) (aq : Nat) (aj : Nat) (a12 : Nat) (sr : Nat) (a14 : Nat) (a15 : Nat) (a16 : Nat) (p0 : Int32) (p1 : Int32) : Met l yX6_told wsX6_told ({ frames := 3, cells := 0, slots := 0, locals := 120 }) (va_Pc [.ref h0, .int p0, .int p1] (fun U => U.heap.size = sz ∧ va_P (dC, dI) vwCl [(h0, .inr (6, [.ref a0, .int 0, .ref tm, .int 0, .ref a4, .int (-9), .ref le, .int (-9), .int 0, .int 0, .ref aq, .ref aj, .ref a12, .ref sr, .ref a14, .ref a15, .ref a16, .int 0]))] U.heap ∧ va_K (dC, dI) vwCl [] U ∧ va_D (fun _ => True) [(h0, .inr (6, [.ref a0, .int 0, .ref tm, .int 0, .ref a4, .int (-9), .ref le, .int (-9), .int 0, .int 0, .ref aq, .ref aj, .ref a12, .ref sr, .ref a14, .ref a15, .ref a16, .int 0]))])) (va_Qi (fun (r : Int32) (_ : Unit) => r = -1) (fun (_ : Unit) (_ : State) => True) (va_A [(h0, .inr (6, [.ref a0, .int 0, .ref tm, .int 0, .ref a4, .int (-9), .ref le, .int (-9), .int 0, .int 0, .ref aq, .ref aj, .ref a12, .ref sr, .ref a14, .ref a15, .ref a16, .int 0]))] sz)) 0 0 (va_A [(h0, .inr (6, [.ref a0, .int 0, .ref tm, .int 0, .ref a4, .int (-9), .ref le, .int (-9), .int 0, .int 0, .ref aq, .ref aj, .ref a12, .ref sr, .ref a14, .ref a15, .ref a16, .int 0]))] sz) := by
  refine Met.ofW (cc := cX6_told) (maxL := 4) (ret := (some .int)) (by decide) rfl ?_
  intro p e s m args below meth c s₁ B hml hv
  obtain ⟨rfl, hsz, hP, hK, hD0⟩ := hv
  have hx := B.exec
  have hb := B.bytes
  have hr := B.returns
  have hts := atoms_spec (ws := wsX6_told) B.pre
  have hown : s.vm.findClass RX6 = some m.cls := findClass_of_methodNamed B.named
  have hlocks := B.notSynchronized
  have hi6 : ∀ w ∈ u_ws RX6 TX6 18, w ∈ wsX6_told := fun w h => List.mem_cons_of_mem _ (List.mem_append_left _ (List.mem_append_right _ h))
  have hi1 : ∀ w ∈ u_ws RX1 TX1 9, w ∈ wsX6_told := fun w h => List.mem_cons_of_mem _ (List.mem_append_right _ h)
  subst hsz
  have hD := hD0.self (sz := s.heap.size)
  generalize hAe : va_A [(h0, .inr (6, [.ref a0, .int 0, .ref tm, .int 0, .ref a4, .int (-9), .ref le, .int (-9), .int 0, .int 0, .ref aq, .ref aj, .ref a12, .ref sr, .ref a14, .ref a15, .ref a16, .int 0]))] s.heap.size = A at hD ⊢
  have hA : ∀ q : Nat, s.heap.size ≤ q → A q := fun q h => by rw [← hAe]; exact Or.inr h
  have hS : va_S A s.heap s.heap [] := va_S.rf
  have hP : va_P (dC, dI) vwCl [(h0, .inr (6, [.ref a0, .int 0, .ref tm, .int 0, .ref a4, .int (-9), .ref le, .int (-9), .int 0, .int 0, .ref aq, .ref aj, .ref a12, .ref sr, .ref a14, .ref a15, .ref a16, .int 0]))] s.heap := hP
  have hl := lv_entry ([.ref h0, .int p0, .int p1]) (n := 4) (Nat.le_of_ble_eq_true rfl)
  rw [lg_entry_eq]
  generalize (lg_sl ([.ref h0, .int p0, .int p1]) ++ List.replicate (4 - (lg_sl ([.ref h0, .int p0, .int p1])).length) Slot.unset).toArray = ls at hl ⊢
  have hl : lv_has ls 4 [(0, .ref h0), (1, .int p0), (2, .int p1)] := hl
  refine lv_aload_n hx hb dX6_told_0 rfl (lv_at hl 0 rfl) ?_
  refine lv_iload_n hx hb dX6_told_1 rfl (lv_at hl 1 rfl) ?_
  have hPc := hP.sub (ws' := [(h0, .inr (6, [.ref a0, .int 0, .ref tm, .int 0, .ref a4, .int (-9), .ref le, .int (-9), .int 0, .int 0, .ref aq, .ref aj, .ref a12, .ref sr, .ref a14, .ref a15, .ref a16, .int 0]))]) [0] rfl
  have hDc := hD.sub (ws' := [(h0, .inr (6, [.ref a0, .int 0, .ref tm, .int 0, .ref a4, .int (-9), .ref le, .int (-9), .int 0, .int 0, .ref aq, .ref aj, .ref a12, .ref sr, .ref a14, .ref a15, .ref a16, .int 0]))]) [0] (by decide) rfl
  have hKc := hK.sub (tys' := []) [] rfl
  have hFc := va_free (wc := [(h0, .inr (6, [.ref a0, .int 0, .ref tm, .int 0, .ref a4, .int (-9), .ref le, .int (-9), .int 0, .int 0, .ref aq, .ref aj, .ref a12, .ref sr, .ref a14, .ref a15, .ref a16, .int 0]))]) hD hS hA [0] rfl
  refine va_calli (va_runV (As := [.int p0]) (rest := []) ⟨hx, hb, hml, hown, hts⟩ (c_X6_isProblem l dC dI s.heap.size h0 a0 tm a4 le aq aj a12 sr a14 a15 a16 p0) (cwV 1 hts gX6_told_X6_isProblem rfl rfl rfl (by decide +kernel) ⟨Nat.le_of_ble_eq_true rfl, Nat.le_of_ble_eq_true rfl⟩) ⟨fun a U g mk q => by obtain ⟨q0, q1, qP, qK, qD⟩ := q; exact ⟨q0, q1, qP, va_K.moved (u := U) (U := U.calling g mk a) (Vm.Alike.refl U.vm) qK, qD⟩, va_recv hKc hPc (ci := 6) (q0 := 0) rfl rfl, fun U hU hW => ⟨rfl, by rw [hU], by rw [hU]; exact hPc, va_K.moved hW.alike hKc, hDc.weaken (fun _ _ _ _ => trivial)⟩⟩ rfl rfl hl.1 rfl (lv_room (Nat.le_of_ble_eq_true rfl)) dX6_told_2 ⟨Nat.le_of_ble_eq_true rfl, Nat.le_of_ble_eq_true rfl⟩) hS (fun q _ h => hFc q h) hFc (fun r1 u2 t H1 locs ht hvm hw hB hz1 hk1 hS => ?_)
  obtain ⟨hP1, hK1, hD1⟩ := hB
  rw [ht] at hP1
  have hK1 := va_K.moved hvm.symm hK1
  try dsimp only at hw
  obtain ⟨hP, hD⟩ := va_join (wr := []) (w1 := [(h0, .inr (6, [.ref a0, .int 0, .ref tm, .int 0, .ref a4, .int (-9), .ref le, .int (-9), .int 0, .int 0, .ref aq, .ref aj, .ref a12, .ref sr, .ref a14, .ref a15, .ref a16, .int 0]))]) hP hD [0] [] rfl rfl (by decide) (by decide) hk1 hFc hP1 hD1
  have hK := (hK.sub (tys' := []) [] rfl).app hK1
  generalize H1 = H at hP hS ⊢
  have hP : va_P (dC, dI) vwCl [(h0, .inr (6, [.ref a0, .int 0, .ref tm, .int 0, .ref a4, .int (-9), .ref le, .int (-9), .int 0, .int 0, .ref aq, .ref aj, .ref a12, .ref sr, .ref a14, .ref a15, .ref a16, .int 0]))] H := hP
  have hD : va_D A [(h0, .inr (6, [.ref a0, .int 0, .ref tm, .int 0, .ref a4, .int (-9), .ref le, .int (-9), .int 0, .int 0, .ref aq, .ref aj, .ref a12, .ref sr, .ref a14, .ref a15, .ref a16, .int 0]))] := hD
  have hK : va_K (dC, dI) vwCl [] s := hK
  obtain rfl : r1 = 0 := hw
  refine lv_if_eq (tgt := 17) hx hb dX6_told_5 (by decide) (fun _ => ?_) (fun c_3 => absurd c_3 (by decide))
  refine lv_iconst (v := (-1)) hx hb dX6_told_17 (by decide) ?_
  exact W.iret (v := (-1)) hx hb hr (fun t ht hW => ⟨⟨(-1), (), rfl, rfl, trivial⟩, hS.F ht⟩) hS.2.2 dX6_told_18
set_option maxHeartbeats 4000000 in
set_option maxRecDepth 100000 in
/-- answer on a fresh object -/
theorem c_X6_answer (l : Launch) (dC : Nat → ClassId) (dI : Nat → Nat → Nat) (sz : Nat) (h0 : Nat) (a0 : Nat) (tm : Nat) (a4 : Nat) (le : Nat) (aq : Nat) (aj : Nat) (a12 : Nat) (sr : Nat) (a14 : Nat) (a15 : Nat) (a16 : Nat) (p0 : Int32) (p1 : Int32) : Met l yX6_answer wsX6_answer ({ frames := 3, cells := 0, slots := 0, locals := 120 }) (va_Pc [.ref h0, .int p0, .int p1] (fun U => U.heap.size = sz ∧ va_P (dC, dI) vwCl [(h0, .inr (6, [.ref a0, .int 0, .ref tm, .int 0, .ref a4, .int (-9), .ref le, .int (-9), .int 0, .int 0, .ref aq, .ref aj, .ref a12, .ref sr, .ref a14, .ref a15, .ref a16, .int 0]))] U.heap ∧ va_K (dC, dI) vwCl [] U ∧ va_D (fun _ => True) [(h0, .inr (6, [.ref a0, .int 0, .ref tm, .int 0, .ref a4, .int (-9), .ref le, .int (-9), .int 0, .int 0, .ref aq, .ref aj, .ref a12, .ref sr, .ref a14, .ref a15, .ref a16, .int 0]))])) (va_Qi (fun (r : Int32) (_ : Unit) => r = -1) (fun (_ : Unit) (_ : State) => True) (va_A [(h0, .inr (6, [.ref a0, .int 0, .ref tm, .int 0, .ref a4, .int (-9), .ref le, .int (-9), .int 0, .int 0, .ref aq, .ref aj, .ref a12, .ref sr, .ref a14, .ref a15, .ref a16, .int 0]))] sz)) 0 0 (va_A [(h0, .inr (6, [.ref a0, .int 0, .ref tm, .int 0, .ref a4, .int (-9), .ref le, .int (-9), .int 0, .int 0, .ref aq, .ref aj, .ref a12, .ref sr, .ref a14, .ref a15, .ref a16, .int 0]))] sz) := by
  refine Met.ofW (cc := cX6_answer) (maxL := 4) (ret := (some .int)) (by decide) rfl ?_
  intro p e s m args below meth c s₁ B hml hv
  obtain ⟨rfl, hsz, hP, hK, hD0⟩ := hv
  have hx := B.exec
  have hb := B.bytes
  have hr := B.returns
  have hts := atoms_spec (ws := wsX6_answer) B.pre
  have hown : s.vm.findClass RX6 = some m.cls := findClass_of_methodNamed B.named
  have hlocks := B.notSynchronized
  have hi6 : ∀ w ∈ u_ws RX6 TX6 18, w ∈ wsX6_answer := fun w h => List.mem_cons_of_mem _ (List.mem_append_left _ (List.mem_append_right _ h))
  have hi1 : ∀ w ∈ u_ws RX1 TX1 9, w ∈ wsX6_answer := fun w h => List.mem_cons_of_mem _ (List.mem_append_right _ h)
  subst hsz
  have hD := hD0.self (sz := s.heap.size)
  generalize hAe : va_A [(h0, .inr (6, [.ref a0, .int 0, .ref tm, .int 0, .ref a4, .int (-9), .ref le, .int (-9), .int 0, .int 0, .ref aq, .ref aj, .ref a12, .ref sr, .ref a14, .ref a15, .ref a16, .int 0]))] s.heap.size = A at hD ⊢
  have hA : ∀ q : Nat, s.heap.size ≤ q → A q := fun q h => by rw [← hAe]; exact Or.inr h
  have hS : va_S A s.heap s.heap [] := va_S.rf
  have hP : va_P (dC, dI) vwCl [(h0, .inr (6, [.ref a0, .int 0, .ref tm, .int 0, .ref a4, .int (-9), .ref le, .int (-9), .int 0, .int 0, .ref aq, .ref aj, .ref a12, .ref sr, .ref a14, .ref a15, .ref a16, .int 0]))] s.heap := hP
  have hl := lv_entry ([.ref h0, .int p0, .int p1]) (n := 4) (Nat.le_of_ble_eq_true rfl)
  rw [lg_entry_eq]
  generalize (lg_sl ([.ref h0, .int p0, .int p1]) ++ List.replicate (4 - (lg_sl ([.ref h0, .int p0, .int p1])).length) Slot.unset).toArray = ls at hl ⊢
  have hl : lv_has ls 4 [(0, .ref h0), (1, .int p0), (2, .int p1)] := hl
  refine lv_aload_n hx hb dX6_answer_0 rfl (lv_at hl 0 rfl) ?_
  refine lv_iload_n hx hb dX6_answer_1 rfl (lv_at hl 1 rfl) ?_
  have hPc := hP.sub (ws' := [(h0, .inr (6, [.ref a0, .int 0, .ref tm, .int 0, .ref a4, .int (-9), .ref le, .int (-9), .int 0, .int 0, .ref aq, .ref aj, .ref a12, .ref sr, .ref a14, .ref a15, .ref a16, .int 0]))]) [0] rfl
  have hDc := hD.sub (ws' := [(h0, .inr (6, [.ref a0, .int 0, .ref tm, .int 0, .ref a4, .int (-9), .ref le, .int (-9), .int 0, .int 0, .ref aq, .ref aj, .ref a12, .ref sr, .ref a14, .ref a15, .ref a16, .int 0]))]) [0] (by decide) rfl
  have hKc := hK.sub (tys' := []) [] rfl
  have hFc := va_free (wc := [(h0, .inr (6, [.ref a0, .int 0, .ref tm, .int 0, .ref a4, .int (-9), .ref le, .int (-9), .int 0, .int 0, .ref aq, .ref aj, .ref a12, .ref sr, .ref a14, .ref a15, .ref a16, .int 0]))]) hD hS hA [0] rfl
  refine va_calli (va_runV (As := [.int p0]) (rest := []) ⟨hx, hb, hml, hown, hts⟩ (c_X6_isProblem l dC dI s.heap.size h0 a0 tm a4 le aq aj a12 sr a14 a15 a16 p0) (cwV 1 hts gX6_answer_X6_isProblem rfl rfl rfl (by decide +kernel) ⟨Nat.le_of_ble_eq_true rfl, Nat.le_of_ble_eq_true rfl⟩) ⟨fun a U g mk q => by obtain ⟨q0, q1, qP, qK, qD⟩ := q; exact ⟨q0, q1, qP, va_K.moved (u := U) (U := U.calling g mk a) (Vm.Alike.refl U.vm) qK, qD⟩, va_recv hKc hPc (ci := 6) (q0 := 0) rfl rfl, fun U hU hW => ⟨rfl, by rw [hU], by rw [hU]; exact hPc, va_K.moved hW.alike hKc, hDc.weaken (fun _ _ _ _ => trivial)⟩⟩ rfl rfl hl.1 rfl (lv_room (Nat.le_of_ble_eq_true rfl)) dX6_answer_2 ⟨Nat.le_of_ble_eq_true rfl, Nat.le_of_ble_eq_true rfl⟩) hS (fun q _ h => hFc q h) hFc (fun r1 u2 t H1 locs ht hvm hw hB hz1 hk1 hS => ?_)
  obtain ⟨hP1, hK1, hD1⟩ := hB
  rw [ht] at hP1
  have hK1 := va_K.moved hvm.symm hK1
  try dsimp only at hw
  obtain ⟨hP, hD⟩ := va_join (wr := []) (w1 := [(h0, .inr (6, [.ref a0, .int 0, .ref tm, .int 0, .ref a4, .int (-9), .ref le, .int (-9), .int 0, .int 0, .ref aq, .ref aj, .ref a12, .ref sr, .ref a14, .ref a15, .ref a16, .int 0]))]) hP hD [0] [] rfl rfl (by decide) (by decide) hk1 hFc hP1 hD1
  have hK := (hK.sub (tys' := []) [] rfl).app hK1
  generalize H1 = H at hP hS ⊢
  have hP : va_P (dC, dI) vwCl [(h0, .inr (6, [.ref a0, .int 0, .ref tm, .int 0, .ref a4, .int (-9), .ref le, .int (-9), .int 0, .int 0, .ref aq, .ref aj, .ref a12, .ref sr, .ref a14, .ref a15, .ref a16, .int 0]))] H := hP
  have hD : va_D A [(h0, .inr (6, [.ref a0, .int 0, .ref tm, .int 0, .ref a4, .int (-9), .ref le, .int (-9), .int 0, .int 0, .ref aq, .ref aj, .ref a12, .ref sr, .ref a14, .ref a15, .ref a16, .int 0]))] := hD
  have hK : va_K (dC, dI) vwCl [] s := hK
  obtain rfl : r1 = 0 := hw
  refine lv_if_eq (tgt := 21) hx hb dX6_answer_5 (by decide) (fun _ => ?_) (fun c_3 => absurd c_3 (by decide))
  refine lv_iconst (v := (-1)) hx hb dX6_answer_21 (by decide) ?_
  exact W.iret (v := (-1)) hx hb hr (fun t ht hW => ⟨⟨(-1), (), rfl, rfl, trivial⟩, hS.F ht⟩) hS.2.2 dX6_answer_22
set_option maxHeartbeats 4000000 in
set_option maxRecDepth 100000 in
/-- walked on a fresh object -/
theorem c_X6_walked (l : Launch) (dC : Nat → ClassId) (dI : Nat → Nat → Nat) (sz : Nat) (h0 : Nat) (a0 : Nat) (tm : Nat) (a4 : Nat) (le : Nat) (aq : Nat) (aj : Nat) (a12 : Nat) (sr : Nat) (a14 : Nat) (a15 : Nat) (a16 : Nat) (b1 : Nat) (b2 : Nat) (b3 : Nat) (b4 : Nat) (b5 : Nat) (b6 : Nat) (b7 : Nat) (b8 : Nat) (b9 : Nat) (b10 : Nat) (b11 : Nat) (b12 : Nat) (p0 : Int32) (p1 : Int32) : Met l yX6_walked wsX6_walked ({ frames := 3, cells := 0, slots := 0, locals := 120 }) (va_Pc [.ref h0, .int p0, .int p1] (fun U => U.heap.size = sz ∧ va_P (dC, dI) vwCl [(h0, .inr (6, [.ref a0, .int 0, .ref tm, .int 0, .ref a4, .int (-9), .ref le, .int (-9), .int 0, .int 0, .ref aq, .ref aj, .ref a12, .ref sr, .ref a14, .ref a15, .ref a16, .int 0])), (le, .inr (5, [.ref b1, .ref b2, .ref b3, .ref b4, .ref b5, .ref b6, .ref b7, .ref b8, .ref b9, .int 0, .int 0, .int 0, .ref b10, .ref b11, .ref b12, .int 1]))] U.heap ∧ va_K (dC, dI) vwCl [] U ∧ va_D (fun _ => True) [(h0, .inr (6, [.ref a0, .int 0, .ref tm, .int 0, .ref a4, .int (-9), .ref le, .int (-9), .int 0, .int 0, .ref aq, .ref aj, .ref a12, .ref sr, .ref a14, .ref a15, .ref a16, .int 0])), (le, .inr (5, [.ref b1, .ref b2, .ref b3, .ref b4, .ref b5, .ref b6, .ref b7, .ref b8, .ref b9, .int 0, .int 0, .int 0, .ref b10, .ref b11, .ref b12, .int 1]))])) (va_Qi (fun (r : Int32) (_ : Unit) => r = an_walked p0 p1) (fun (_ : Unit) (_ : State) => True) (va_A [(h0, .inr (6, [.ref a0, .int 0, .ref tm, .int 0, .ref a4, .int (-9), .ref le, .int (-9), .int 0, .int 0, .ref aq, .ref aj, .ref a12, .ref sr, .ref a14, .ref a15, .ref a16, .int 0])), (le, .inr (5, [.ref b1, .ref b2, .ref b3, .ref b4, .ref b5, .ref b6, .ref b7, .ref b8, .ref b9, .int 0, .int 0, .int 0, .ref b10, .ref b11, .ref b12, .int 1]))] sz)) 0 0 (va_A [(h0, .inr (6, [.ref a0, .int 0, .ref tm, .int 0, .ref a4, .int (-9), .ref le, .int (-9), .int 0, .int 0, .ref aq, .ref aj, .ref a12, .ref sr, .ref a14, .ref a15, .ref a16, .int 0])), (le, .inr (5, [.ref b1, .ref b2, .ref b3, .ref b4, .ref b5, .ref b6, .ref b7, .ref b8, .ref b9, .int 0, .int 0, .int 0, .ref b10, .ref b11, .ref b12, .int 1]))] sz) := by
  refine Met.ofW (cc := cX6_walked) (maxL := 4) (ret := (some .int)) (by decide) rfl ?_
  intro p e s m args below meth c s₁ B hml hv
  obtain ⟨rfl, hsz, hP, hK, hD0⟩ := hv
  have hx := B.exec
  have hb := B.bytes
  have hr := B.returns
  have hts := atoms_spec (ws := wsX6_walked) B.pre
  have hown : s.vm.findClass RX6 = some m.cls := findClass_of_methodNamed B.named
  have hlocks := B.notSynchronized
  have hi6 : ∀ w ∈ u_ws RX6 TX6 18, w ∈ wsX6_walked := fun w h => List.mem_cons_of_mem _ (List.mem_append_left _ (List.mem_append_left _ (List.mem_append_right _ h)))
  have hi5 : ∀ w ∈ u_ws RX5 TX5 16, w ∈ wsX6_walked := fun w h => List.mem_cons_of_mem _ (List.mem_append_left _ (List.mem_append_right _ h))
  have hi1 : ∀ w ∈ u_ws RX1 TX1 9, w ∈ wsX6_walked := fun w h => List.mem_cons_of_mem _ (List.mem_append_right _ h)
  subst hsz
  have hD := hD0.self (sz := s.heap.size)
  generalize hAe : va_A [(h0, .inr (6, [.ref a0, .int 0, .ref tm, .int 0, .ref a4, .int (-9), .ref le, .int (-9), .int 0, .int 0, .ref aq, .ref aj, .ref a12, .ref sr, .ref a14, .ref a15, .ref a16, .int 0])), (le, .inr (5, [.ref b1, .ref b2, .ref b3, .ref b4, .ref b5, .ref b6, .ref b7, .ref b8, .ref b9, .int 0, .int 0, .int 0, .ref b10, .ref b11, .ref b12, .int 1]))] s.heap.size = A at hD ⊢
  have hA : ∀ q : Nat, s.heap.size ≤ q → A q := fun q h => by rw [← hAe]; exact Or.inr h
  have hS : va_S A s.heap s.heap [] := va_S.rf
  have hP : va_P (dC, dI) vwCl [(h0, .inr (6, [.ref a0, .int 0, .ref tm, .int 0, .ref a4, .int (-9), .ref le, .int (-9), .int 0, .int 0, .ref aq, .ref aj, .ref a12, .ref sr, .ref a14, .ref a15, .ref a16, .int 0])), (le, .inr (5, [.ref b1, .ref b2, .ref b3, .ref b4, .ref b5, .ref b6, .ref b7, .ref b8, .ref b9, .int 0, .int 0, .int 0, .ref b10, .ref b11, .ref b12, .int 1]))] s.heap := hP
  have hl := lv_entry ([.ref h0, .int p0, .int p1]) (n := 4) (Nat.le_of_ble_eq_true rfl)
  rw [lg_entry_eq]
  generalize (lg_sl ([.ref h0, .int p0, .int p1]) ++ List.replicate (4 - (lg_sl ([.ref h0, .int p0, .int p1])).length) Slot.unset).toArray = ls at hl ⊢
  have hl : lv_has ls 4 [(0, .ref h0), (1, .int p0), (2, .int p1)] := hl
  refine lv_iload_n hx hb dX6_walked_0 rfl (lv_at hl 2 rfl) ?_
  refine lv_iconst (v := 0) hx hb dX6_walked_1 (by decide) ?_
  refine lv_bipush (v := 9) hx hb dX6_walked_2 (by decide) ?_
  have hPc := hP.sub (ws' := []) [] rfl
  have hDc := hD.sub (ws' := []) [] (by decide) rfl
  have hKc := hK.sub (tys' := []) [] rfl
  have hFc := va_free (wc := []) hD hS hA [] rfl
  refine va_calli (va_runS (As := [.int p1, .int 0, .int 9]) (rest := []) ⟨hx, hb, hml, hown, hts⟩ (c_X6_isWithin l dC dI s.heap.size p1 0 9) (va_cwS 3 hts gX6_walked_X6_isWithin rfl rfl rfl (by decide +kernel) ⟨Nat.le_of_ble_eq_true rfl, Nat.le_of_ble_eq_true rfl⟩) ⟨fun a U g mk q => by obtain ⟨q0, q1, qP, qK, qD⟩ := q; exact ⟨q0, q1, qP, va_K.moved (u := U) (U := U.calling g mk a) (Vm.Alike.refl U.vm) qK, qD⟩, fun U hU hW => ⟨rfl, by rw [hU], by rw [hU]; exact hPc, va_K.moved hW.alike hKc, hDc.weaken (fun _ _ _ _ => trivial)⟩⟩ rfl rfl hl.1 rfl (lv_room (Nat.le_of_ble_eq_true rfl)) dX6_walked_4 ⟨Nat.le_of_ble_eq_true rfl, Nat.le_of_ble_eq_true rfl⟩) hS (fun q _ h => hFc q h) hFc (fun r1 u2 t H1 locs ht hvm hw hB hz1 hk1 hS => ?_)
  obtain ⟨hP, hD⟩ := va_join (wr := [(h0, .inr (6, [.ref a0, .int 0, .ref tm, .int 0, .ref a4, .int (-9), .ref le, .int (-9), .int 0, .int 0, .ref aq, .ref aj, .ref a12, .ref sr, .ref a14, .ref a15, .ref a16, .int 0])), (le, .inr (5, [.ref b1, .ref b2, .ref b3, .ref b4, .ref b5, .ref b6, .ref b7, .ref b8, .ref b9, .int 0, .int 0, .int 0, .ref b10, .ref b11, .ref b12, .int 1]))]) (w1 := []) hP hD [] [0, 1] rfl rfl (by decide) (by decide) hk1 hFc (va_Pnil _ _ _) (va_Dnil _)
  generalize H1 = H at hP hS ⊢
  have hP : va_P (dC, dI) vwCl [(h0, .inr (6, [.ref a0, .int 0, .ref tm, .int 0, .ref a4, .int (-9), .ref le, .int (-9), .int 0, .int 0, .ref aq, .ref aj, .ref a12, .ref sr, .ref a14, .ref a15, .ref a16, .int 0])), (le, .inr (5, [.ref b1, .ref b2, .ref b3, .ref b4, .ref b5, .ref b6, .ref b7, .ref b8, .ref b9, .int 0, .int 0, .int 0, .ref b10, .ref b11, .ref b12, .int 1]))] H := hP
  have hD : va_D A [(h0, .inr (6, [.ref a0, .int 0, .ref tm, .int 0, .ref a4, .int (-9), .ref le, .int (-9), .int 0, .int 0, .ref aq, .ref aj, .ref a12, .ref sr, .ref a14, .ref a15, .ref a16, .int 0])), (le, .inr (5, [.ref b1, .ref b2, .ref b3, .ref b4, .ref b5, .ref b6, .ref b7, .ref b8, .ref b9, .int 0, .int 0, .int 0, .ref b10, .ref b11, .ref b12, .int 1]))] := hD
  have hK : va_K (dC, dI) vwCl [] s := hK
  rcases hw with ⟨rfl, hc3⟩ | ⟨rfl, hc3⟩
  · have hi_hc3 : vp_in p1 10 := in_of (n := 9) hc3.1 (show p1 ≤ nI 9 from hc3.2) (by decide)
    refine lv_if_ne (tgt := 12) hx hb dX6_walked_7 (by decide) (fun _ => ?_) (fun c_4 => absurd c_4 (by decide))
    refine lv_iload_n hx hb dX6_walked_12 rfl (lv_at hl 1 rfl) ?_
    refine lv_iconst (v := 0) hx hb dX6_walked_13 (by decide) ?_
    refine lv_aload_n hx hb dX6_walked_14 rfl (lv_at hl 0 rfl) ?_
    refine va_get (D := (dC, dI)) (ci := 6) (v := .ref le) (C := RX6) (T := TX6) (N := 18) hx hb hts hi6 hown hK hP 0 rfl rfl 6 (by decide) (hts (.fieldLink RX6 82 "CrateHelpers" "lastEnded" "LCrateHelpers$Tree;") (by decide +kernel)) (fun _ h9 => h9) rfl dX6_walked_15 ?_
    refine va_get (D := (dC, dI)) (ci := 5) (v := .int 0) (C := RX5) (T := TX5) (N := 16) hx hb hts hi5 hown hK hP 1 rfl rfl 11 (by decide) (hts (.fieldLink RX6 192 "CrateHelpers$Tree" "taken" "I") (by decide +kernel)) (fun _ h9 => h9) rfl dX6_walked_18 ?_
    refine lv_iconst (v := 1) hx hb dX6_walked_21 (by decide) ?_
    refine lv_isub hx hb dX6_walked_22 ?_
    refine lv_topi (fun z5 ez5 => ?_)
    obtain rfl : z5 = (-1) := ez5.trans (by decide)
    have hPc := hP.sub (ws' := []) [] rfl
    have hDc := hD.sub (ws' := []) [] (by decide) rfl
    have hKc := hK.sub (tys' := []) [] rfl
    have hFc := va_free (wc := []) hD hS hA [] rfl
    refine va_calli (va_runS (As := [.int p0, .int 0, .int (-1)]) (rest := []) ⟨hx, hb, hml, hown, hts⟩ (c_X6_isWithin l dC dI H.size p0 0 (-1)) (va_cwS 3 hts gX6_walked_X6_isWithin rfl rfl rfl (by decide +kernel) ⟨Nat.le_of_ble_eq_true rfl, Nat.le_of_ble_eq_true rfl⟩) ⟨fun a U g mk q => by obtain ⟨q0, q1, qP, qK, qD⟩ := q; exact ⟨q0, q1, qP, va_K.moved (u := U) (U := U.calling g mk a) (Vm.Alike.refl U.vm) qK, qD⟩, fun U hU hW => ⟨rfl, by rw [hU], by rw [hU]; exact hPc, va_K.moved hW.alike hKc, hDc.weaken (fun _ _ _ _ => trivial)⟩⟩ rfl rfl hl.1 rfl (lv_room (Nat.le_of_ble_eq_true rfl)) dX6_walked_23 ⟨Nat.le_of_ble_eq_true rfl, Nat.le_of_ble_eq_true rfl⟩) hS (fun q _ h => hFc q h) hFc (fun r6 u7 t H1 locs ht hvm hw hB hz1 hk1 hS => ?_)
    obtain ⟨hP, hD⟩ := va_join (wr := [(h0, .inr (6, [.ref a0, .int 0, .ref tm, .int 0, .ref a4, .int (-9), .ref le, .int (-9), .int 0, .int 0, .ref aq, .ref aj, .ref a12, .ref sr, .ref a14, .ref a15, .ref a16, .int 0])), (le, .inr (5, [.ref b1, .ref b2, .ref b3, .ref b4, .ref b5, .ref b6, .ref b7, .ref b8, .ref b9, .int 0, .int 0, .int 0, .ref b10, .ref b11, .ref b12, .int 1]))]) (w1 := []) hP hD [] [0, 1] rfl rfl (by decide) (by decide) hk1 hFc (va_Pnil _ _ _) (va_Dnil _)
    generalize H1 = H at hP hS ⊢
    have hP : va_P (dC, dI) vwCl [(h0, .inr (6, [.ref a0, .int 0, .ref tm, .int 0, .ref a4, .int (-9), .ref le, .int (-9), .int 0, .int 0, .ref aq, .ref aj, .ref a12, .ref sr, .ref a14, .ref a15, .ref a16, .int 0])), (le, .inr (5, [.ref b1, .ref b2, .ref b3, .ref b4, .ref b5, .ref b6, .ref b7, .ref b8, .ref b9, .int 0, .int 0, .int 0, .ref b10, .ref b11, .ref b12, .int 1]))] H := hP
    have hD : va_D A [(h0, .inr (6, [.ref a0, .int 0, .ref tm, .int 0, .ref a4, .int (-9), .ref le, .int (-9), .int 0, .int 0, .ref aq, .ref aj, .ref a12, .ref sr, .ref a14, .ref a15, .ref a16, .int 0])), (le, .inr (5, [.ref b1, .ref b2, .ref b3, .ref b4, .ref b5, .ref b6, .ref b7, .ref b8, .ref b9, .int 0, .int 0, .int 0, .ref b10, .ref b11, .ref b12, .int 1]))] := hD
    have hK : va_K (dC, dI) vwCl [] s := hK
    rcases hw with ⟨rfl, hc8⟩ | ⟨rfl, hc8⟩
    · exact absurd (Int32.le_trans hc8.1 hc8.2) (by decide)
    · refine lv_if_ne (tgt := 32) hx hb dX6_walked_26 (by decide) (fun c_9 => absurd c_9 (by decide)) (fun _ => ?_)
      refine lv_bipush (v := (-9)) hx hb dX6_walked_29 (by decide) ?_
      exact W.iret (v := (-9)) hx hb hr (fun t ht hW => ⟨⟨(-9), (), rfl, by unfold an_walked; rw [if_pos hc3], trivial⟩, hS.F ht⟩) hS.2.2 dX6_walked_31
  · refine lv_if_ne (tgt := 12) hx hb dX6_walked_7 (by decide) (fun c_10 => absurd c_10 (by decide)) (fun _ => ?_)
    refine lv_iconst (v := (-1)) hx hb dX6_walked_10 (by decide) ?_
    exact W.iret (v := (-1)) hx hb hr (fun t ht hW => ⟨⟨(-1), (), rfl, by unfold an_walked; rw [if_neg hc3], trivial⟩, hS.F ht⟩) hS.2.2 dX6_walked_11
set_option maxHeartbeats 4000000 in
set_option maxRecDepth 100000 in
/-- closed on a fresh object -/
theorem c_X6_closed (l : Launch) (dC : Nat → ClassId) (dI : Nat → Nat → Nat) (sz : Nat) (h0 : Nat) (a0 : Nat) (tm : Nat) (a4 : Nat) (le : Nat) (aq : Nat) (aj : Nat) (a12 : Nat) (sr : Nat) (a14 : Nat) (a15 : Nat) (a16 : Nat) (b1 : Nat) (b2 : Nat) (b3 : Nat) (b4 : Nat) (b5 : Nat) (b6 : Nat) (b7 : Nat) (b8 : Nat) (b9 : Nat) (b10 : Nat) (b11 : Nat) (b12 : Nat) (p0 : Int32) (p1 : Int32) (p2 : Int32) : Met l yX6_closed wsX6_closed ({ frames := 3, cells := 0, slots := 0, locals := 120 }) (va_Pc [.ref h0, .int p0, .int p1, .int p2] (fun U => U.heap.size = sz ∧ va_P (dC, dI) vwCl [(h0, .inr (6, [.ref a0, .int 0, .ref tm, .int 0, .ref a4, .int (-9), .ref le, .int (-9), .int 0, .int 0, .ref aq, .ref aj, .ref a12, .ref sr, .ref a14, .ref a15, .ref a16, .int 0])), (le, .inr (5, [.ref b1, .ref b2, .ref b3, .ref b4, .ref b5, .ref b6, .ref b7, .ref b8, .ref b9, .int 0, .int 0, .int 0, .ref b10, .ref b11, .ref b12, .int 1]))] U.heap ∧ va_K (dC, dI) vwCl [] U ∧ va_D (fun _ => True) [(h0, .inr (6, [.ref a0, .int 0, .ref tm, .int 0, .ref a4, .int (-9), .ref le, .int (-9), .int 0, .int 0, .ref aq, .ref aj, .ref a12, .ref sr, .ref a14, .ref a15, .ref a16, .int 0])), (le, .inr (5, [.ref b1, .ref b2, .ref b3, .ref b4, .ref b5, .ref b6, .ref b7, .ref b8, .ref b9, .int 0, .int 0, .int 0, .ref b10, .ref b11, .ref b12, .int 1]))])) (va_Qi (fun (r : Int32) (_ : Unit) => r = an_closed p0 p1 p2) (fun (_ : Unit) (_ : State) => True) (va_A [(h0, .inr (6, [.ref a0, .int 0, .ref tm, .int 0, .ref a4, .int (-9), .ref le, .int (-9), .int 0, .int 0, .ref aq, .ref aj, .ref a12, .ref sr, .ref a14, .ref a15, .ref a16, .int 0])), (le, .inr (5, [.ref b1, .ref b2, .ref b3, .ref b4, .ref b5, .ref b6, .ref b7, .ref b8, .ref b9, .int 0, .int 0, .int 0, .ref b10, .ref b11, .ref b12, .int 1]))] sz)) 0 0 (va_A [(h0, .inr (6, [.ref a0, .int 0, .ref tm, .int 0, .ref a4, .int (-9), .ref le, .int (-9), .int 0, .int 0, .ref aq, .ref aj, .ref a12, .ref sr, .ref a14, .ref a15, .ref a16, .int 0])), (le, .inr (5, [.ref b1, .ref b2, .ref b3, .ref b4, .ref b5, .ref b6, .ref b7, .ref b8, .ref b9, .int 0, .int 0, .int 0, .ref b10, .ref b11, .ref b12, .int 1]))] sz) := by
  refine Met.ofW (cc := cX6_closed) (maxL := 5) (ret := (some .int)) (by decide) rfl ?_
  intro p e s m args below meth c s₁ B hml hv
  obtain ⟨rfl, hsz, hP, hK, hD0⟩ := hv
  have hx := B.exec
  have hb := B.bytes
  have hr := B.returns
  have hts := atoms_spec (ws := wsX6_closed) B.pre
  have hown : s.vm.findClass RX6 = some m.cls := findClass_of_methodNamed B.named
  have hlocks := B.notSynchronized
  have hi6 : ∀ w ∈ u_ws RX6 TX6 18, w ∈ wsX6_closed := fun w h => List.mem_cons_of_mem _ (List.mem_append_left _ (List.mem_append_left _ (List.mem_append_right _ h)))
  have hi5 : ∀ w ∈ u_ws RX5 TX5 16, w ∈ wsX6_closed := fun w h => List.mem_cons_of_mem _ (List.mem_append_left _ (List.mem_append_right _ h))
  have hi1 : ∀ w ∈ u_ws RX1 TX1 9, w ∈ wsX6_closed := fun w h => List.mem_cons_of_mem _ (List.mem_append_right _ h)
  subst hsz
  have hD := hD0.self (sz := s.heap.size)
  generalize hAe : va_A [(h0, .inr (6, [.ref a0, .int 0, .ref tm, .int 0, .ref a4, .int (-9), .ref le, .int (-9), .int 0, .int 0, .ref aq, .ref aj, .ref a12, .ref sr, .ref a14, .ref a15, .ref a16, .int 0])), (le, .inr (5, [.ref b1, .ref b2, .ref b3, .ref b4, .ref b5, .ref b6, .ref b7, .ref b8, .ref b9, .int 0, .int 0, .int 0, .ref b10, .ref b11, .ref b12, .int 1]))] s.heap.size = A at hD ⊢
  have hA : ∀ q : Nat, s.heap.size ≤ q → A q := fun q h => by rw [← hAe]; exact Or.inr h
  have hS : va_S A s.heap s.heap [] := va_S.rf
  have hP : va_P (dC, dI) vwCl [(h0, .inr (6, [.ref a0, .int 0, .ref tm, .int 0, .ref a4, .int (-9), .ref le, .int (-9), .int 0, .int 0, .ref aq, .ref aj, .ref a12, .ref sr, .ref a14, .ref a15, .ref a16, .int 0])), (le, .inr (5, [.ref b1, .ref b2, .ref b3, .ref b4, .ref b5, .ref b6, .ref b7, .ref b8, .ref b9, .int 0, .int 0, .int 0, .ref b10, .ref b11, .ref b12, .int 1]))] s.heap := hP
  have hl := lv_entry ([.ref h0, .int p0, .int p1, .int p2]) (n := 5) (Nat.le_of_ble_eq_true rfl)
  rw [lg_entry_eq]
  generalize (lg_sl ([.ref h0, .int p0, .int p1, .int p2]) ++ List.replicate (5 - (lg_sl ([.ref h0, .int p0, .int p1, .int p2])).length) Slot.unset).toArray = ls at hl ⊢
  have hl : lv_has ls 5 [(0, .ref h0), (1, .int p0), (2, .int p1), (3, .int p2)] := hl
  refine lv_iload_n hx hb dX6_closed_0 rfl (lv_at hl 3 rfl) ?_
  refine lv_iconst (v := 0) hx hb dX6_closed_1 (by decide) ?_
  refine lv_iconst (v := 1) hx hb dX6_closed_2 (by decide) ?_
  have hPc := hP.sub (ws' := []) [] rfl
  have hDc := hD.sub (ws' := []) [] (by decide) rfl
  have hKc := hK.sub (tys' := []) [] rfl
  have hFc := va_free (wc := []) hD hS hA [] rfl
  refine va_calli (va_runS (As := [.int p2, .int 0, .int 1]) (rest := []) ⟨hx, hb, hml, hown, hts⟩ (c_X6_isWithin l dC dI s.heap.size p2 0 1) (va_cwS 3 hts gX6_closed_X6_isWithin rfl rfl rfl (by decide +kernel) ⟨Nat.le_of_ble_eq_true rfl, Nat.le_of_ble_eq_true rfl⟩) ⟨fun a U g mk q => by obtain ⟨q0, q1, qP, qK, qD⟩ := q; exact ⟨q0, q1, qP, va_K.moved (u := U) (U := U.calling g mk a) (Vm.Alike.refl U.vm) qK, qD⟩, fun U hU hW => ⟨rfl, by rw [hU], by rw [hU]; exact hPc, va_K.moved hW.alike hKc, hDc.weaken (fun _ _ _ _ => trivial)⟩⟩ rfl rfl hl.1 rfl (lv_room (Nat.le_of_ble_eq_true rfl)) dX6_closed_3 ⟨Nat.le_of_ble_eq_true rfl, Nat.le_of_ble_eq_true rfl⟩) hS (fun q _ h => hFc q h) hFc (fun r1 u2 t H1 locs ht hvm hw hB hz1 hk1 hS => ?_)
  obtain ⟨hP, hD⟩ := va_join (wr := [(h0, .inr (6, [.ref a0, .int 0, .ref tm, .int 0, .ref a4, .int (-9), .ref le, .int (-9), .int 0, .int 0, .ref aq, .ref aj, .ref a12, .ref sr, .ref a14, .ref a15, .ref a16, .int 0])), (le, .inr (5, [.ref b1, .ref b2, .ref b3, .ref b4, .ref b5, .ref b6, .ref b7, .ref b8, .ref b9, .int 0, .int 0, .int 0, .ref b10, .ref b11, .ref b12, .int 1]))]) (w1 := []) hP hD [] [0, 1] rfl rfl (by decide) (by decide) hk1 hFc (va_Pnil _ _ _) (va_Dnil _)
  generalize H1 = H at hP hS ⊢
  have hP : va_P (dC, dI) vwCl [(h0, .inr (6, [.ref a0, .int 0, .ref tm, .int 0, .ref a4, .int (-9), .ref le, .int (-9), .int 0, .int 0, .ref aq, .ref aj, .ref a12, .ref sr, .ref a14, .ref a15, .ref a16, .int 0])), (le, .inr (5, [.ref b1, .ref b2, .ref b3, .ref b4, .ref b5, .ref b6, .ref b7, .ref b8, .ref b9, .int 0, .int 0, .int 0, .ref b10, .ref b11, .ref b12, .int 1]))] H := hP
  have hD : va_D A [(h0, .inr (6, [.ref a0, .int 0, .ref tm, .int 0, .ref a4, .int (-9), .ref le, .int (-9), .int 0, .int 0, .ref aq, .ref aj, .ref a12, .ref sr, .ref a14, .ref a15, .ref a16, .int 0])), (le, .inr (5, [.ref b1, .ref b2, .ref b3, .ref b4, .ref b5, .ref b6, .ref b7, .ref b8, .ref b9, .int 0, .int 0, .int 0, .ref b10, .ref b11, .ref b12, .int 1]))] := hD
  have hK : va_K (dC, dI) vwCl [] s := hK
  rcases hw with ⟨rfl, hc3⟩ | ⟨rfl, hc3⟩
  · have hi_hc3 : vp_in p2 2 := in_of (n := 1) hc3.1 (show p2 ≤ nI 1 from hc3.2) (by decide)
    refine lv_if_ne (tgt := 11) hx hb dX6_closed_6 (by decide) (fun _ => ?_) (fun c_4 => absurd c_4 (by decide))
    refine lv_iload_n hx hb dX6_closed_11 rfl (lv_at hl 1 rfl) ?_
    refine lv_iconst (v := 0) hx hb dX6_closed_12 (by decide) ?_
    refine lv_aload_n hx hb dX6_closed_13 rfl (lv_at hl 0 rfl) ?_
    refine va_get (D := (dC, dI)) (ci := 6) (v := .ref le) (C := RX6) (T := TX6) (N := 18) hx hb hts hi6 hown hK hP 0 rfl rfl 6 (by decide) (hts (.fieldLink RX6 82 "CrateHelpers" "lastEnded" "LCrateHelpers$Tree;") (by decide +kernel)) (fun _ h9 => h9) rfl dX6_closed_14 ?_
    refine va_get (D := (dC, dI)) (ci := 5) (v := .int 0) (C := RX5) (T := TX5) (N := 16) hx hb hts hi5 hown hK hP 1 rfl rfl 11 (by decide) (hts (.fieldLink RX6 192 "CrateHelpers$Tree" "taken" "I") (by decide +kernel)) (fun _ h9 => h9) rfl dX6_closed_17 ?_
    refine lv_iconst (v := 1) hx hb dX6_closed_20 (by decide) ?_
    refine lv_isub hx hb dX6_closed_21 ?_
    refine lv_topi (fun z5 ez5 => ?_)
    obtain rfl : z5 = (-1) := ez5.trans (by decide)
    have hPc := hP.sub (ws' := []) [] rfl
    have hDc := hD.sub (ws' := []) [] (by decide) rfl
    have hKc := hK.sub (tys' := []) [] rfl
    have hFc := va_free (wc := []) hD hS hA [] rfl
    refine va_calli (va_runS (As := [.int p0, .int 0, .int (-1)]) (rest := []) ⟨hx, hb, hml, hown, hts⟩ (c_X6_isWithin l dC dI H.size p0 0 (-1)) (va_cwS 3 hts gX6_closed_X6_isWithin rfl rfl rfl (by decide +kernel) ⟨Nat.le_of_ble_eq_true rfl, Nat.le_of_ble_eq_true rfl⟩) ⟨fun a U g mk q => by obtain ⟨q0, q1, qP, qK, qD⟩ := q; exact ⟨q0, q1, qP, va_K.moved (u := U) (U := U.calling g mk a) (Vm.Alike.refl U.vm) qK, qD⟩, fun U hU hW => ⟨rfl, by rw [hU], by rw [hU]; exact hPc, va_K.moved hW.alike hKc, hDc.weaken (fun _ _ _ _ => trivial)⟩⟩ rfl rfl hl.1 rfl (lv_room (Nat.le_of_ble_eq_true rfl)) dX6_closed_22 ⟨Nat.le_of_ble_eq_true rfl, Nat.le_of_ble_eq_true rfl⟩) hS (fun q _ h => hFc q h) hFc (fun r6 u7 t H1 locs ht hvm hw hB hz1 hk1 hS => ?_)
    obtain ⟨hP, hD⟩ := va_join (wr := [(h0, .inr (6, [.ref a0, .int 0, .ref tm, .int 0, .ref a4, .int (-9), .ref le, .int (-9), .int 0, .int 0, .ref aq, .ref aj, .ref a12, .ref sr, .ref a14, .ref a15, .ref a16, .int 0])), (le, .inr (5, [.ref b1, .ref b2, .ref b3, .ref b4, .ref b5, .ref b6, .ref b7, .ref b8, .ref b9, .int 0, .int 0, .int 0, .ref b10, .ref b11, .ref b12, .int 1]))]) (w1 := []) hP hD [] [0, 1] rfl rfl (by decide) (by decide) hk1 hFc (va_Pnil _ _ _) (va_Dnil _)
    generalize H1 = H at hP hS ⊢
    have hP : va_P (dC, dI) vwCl [(h0, .inr (6, [.ref a0, .int 0, .ref tm, .int 0, .ref a4, .int (-9), .ref le, .int (-9), .int 0, .int 0, .ref aq, .ref aj, .ref a12, .ref sr, .ref a14, .ref a15, .ref a16, .int 0])), (le, .inr (5, [.ref b1, .ref b2, .ref b3, .ref b4, .ref b5, .ref b6, .ref b7, .ref b8, .ref b9, .int 0, .int 0, .int 0, .ref b10, .ref b11, .ref b12, .int 1]))] H := hP
    have hD : va_D A [(h0, .inr (6, [.ref a0, .int 0, .ref tm, .int 0, .ref a4, .int (-9), .ref le, .int (-9), .int 0, .int 0, .ref aq, .ref aj, .ref a12, .ref sr, .ref a14, .ref a15, .ref a16, .int 0])), (le, .inr (5, [.ref b1, .ref b2, .ref b3, .ref b4, .ref b5, .ref b6, .ref b7, .ref b8, .ref b9, .int 0, .int 0, .int 0, .ref b10, .ref b11, .ref b12, .int 1]))] := hD
    have hK : va_K (dC, dI) vwCl [] s := hK
    rcases hw with ⟨rfl, hc8⟩ | ⟨rfl, hc8⟩
    · exact absurd (Int32.le_trans hc8.1 hc8.2) (by decide)
    · refine lv_if_ne (tgt := 31) hx hb dX6_closed_25 (by decide) (fun c_9 => absurd c_9 (by decide)) (fun _ => ?_)
      refine lv_bipush (v := (-9)) hx hb dX6_closed_28 (by decide) ?_
      exact W.iret (v := (-9)) hx hb hr (fun t ht hW => ⟨⟨(-9), (), rfl, by unfold an_closed; rw [if_pos hc3], trivial⟩, hS.F ht⟩) hS.2.2 dX6_closed_30
  · refine lv_if_ne (tgt := 11) hx hb dX6_closed_6 (by decide) (fun c_10 => absurd c_10 (by decide)) (fun _ => ?_)
    refine lv_iconst (v := (-1)) hx hb dX6_closed_9 (by decide) ?_
    exact W.iret (v := (-1)) hx hb hr (fun t ht hW => ⟨⟨(-1), (), rfl, by unfold an_closed; rw [if_neg hc3], trivial⟩, hS.F ht⟩) hS.2.2 dX6_closed_10
set_option maxHeartbeats 4000000 in
set_option maxRecDepth 100000 in
/-- helper on a fresh object -/
theorem c_X6_helper (l : Launch) (dC : Nat → ClassId) (dI : Nat → Nat → Nat) (sz : Nat) (h0 : Nat) (a0 : Nat) (tm : Nat) (a4 : Nat) (le : Nat) (aq : Nat) (aj : Nat) (a12 : Nat) (sr : Nat) (a14 : Nat) (a15 : Nat) (a16 : Nat) (t1 : Nat) (t2 : Nat) (t3 : Nat) (t4 : Nat) (t5 : Nat) (k3 : ClassId) (k4 : ClassId) (k5 : ClassId) (p0 : Int32) (p1 : Int32) : Met l yX6_helper wsX6_helper ({ frames := 3, cells := 0, slots := 0, locals := 120 }) (va_Pc [.ref h0, .int p0, .int p1] (fun U => U.heap.size = sz ∧ va_P (dC, dI) vwCl [(h0, .inr (6, [.ref a0, .int 0, .ref tm, .int 0, .ref a4, .int (-9), .ref le, .int (-9), .int 0, .int 0, .ref aq, .ref aj, .ref a12, .ref sr, .ref a14, .ref a15, .ref a16, .int 0])), (tm, .inr (4, [.int 1, .int 0, .ref t1, .ref t2, .ref t3, .ref t4, .ref t5])), (t3, .inl (k3, 5, .inl (fun _ => 0))), (t4, .inl (k4, 5, .inl (fun _ => 0))), (t5, .inl (k5, 5, .inl (fun _ => 0)))] U.heap ∧ va_K (dC, dI) vwCl [(k3, .int), (k4, .int), (k5, .int)] U ∧ va_D (fun _ => True) [(h0, .inr (6, [.ref a0, .int 0, .ref tm, .int 0, .ref a4, .int (-9), .ref le, .int (-9), .int 0, .int 0, .ref aq, .ref aj, .ref a12, .ref sr, .ref a14, .ref a15, .ref a16, .int 0])), (tm, .inr (4, [.int 1, .int 0, .ref t1, .ref t2, .ref t3, .ref t4, .ref t5])), (t3, .inl (k3, 5, .inl (fun _ => 0))), (t4, .inl (k4, 5, .inl (fun _ => 0))), (t5, .inl (k5, 5, .inl (fun _ => 0)))])) (va_Qi (fun (r : Int32) (_ : Unit) => r = an_helper p0 p1) (fun (_ : Unit) (_ : State) => True) (va_A [(h0, .inr (6, [.ref a0, .int 0, .ref tm, .int 0, .ref a4, .int (-9), .ref le, .int (-9), .int 0, .int 0, .ref aq, .ref aj, .ref a12, .ref sr, .ref a14, .ref a15, .ref a16, .int 0])), (tm, .inr (4, [.int 1, .int 0, .ref t1, .ref t2, .ref t3, .ref t4, .ref t5])), (t3, .inl (k3, 5, .inl (fun _ => 0))), (t4, .inl (k4, 5, .inl (fun _ => 0))), (t5, .inl (k5, 5, .inl (fun _ => 0)))] sz)) 0 0 (va_A [(h0, .inr (6, [.ref a0, .int 0, .ref tm, .int 0, .ref a4, .int (-9), .ref le, .int (-9), .int 0, .int 0, .ref aq, .ref aj, .ref a12, .ref sr, .ref a14, .ref a15, .ref a16, .int 0])), (tm, .inr (4, [.int 1, .int 0, .ref t1, .ref t2, .ref t3, .ref t4, .ref t5])), (t3, .inl (k3, 5, .inl (fun _ => 0))), (t4, .inl (k4, 5, .inl (fun _ => 0))), (t5, .inl (k5, 5, .inl (fun _ => 0)))] sz) := by
  refine Met.ofW (cc := cX6_helper) (maxL := 3) (ret := (some .int)) (by decide) rfl ?_
  intro p e s m args below meth c s₁ B hml hv
  obtain ⟨rfl, hsz, hP, hK, hD0⟩ := hv
  have hx := B.exec
  have hb := B.bytes
  have hr := B.returns
  have hts := atoms_spec (ws := wsX6_helper) B.pre
  have hown : s.vm.findClass RX6 = some m.cls := findClass_of_methodNamed B.named
  have hlocks := B.notSynchronized
  have hi6 : ∀ w ∈ u_ws RX6 TX6 18, w ∈ wsX6_helper := fun w h => List.mem_cons_of_mem _ (List.mem_append_left _ (List.mem_append_right _ h))
  have hi4 : ∀ w ∈ u_ws RX4 TX4 7, w ∈ wsX6_helper := fun w h => List.mem_cons_of_mem _ (List.mem_append_right _ h)
  subst hsz
  have hD := hD0.self (sz := s.heap.size)
  generalize hAe : va_A [(h0, .inr (6, [.ref a0, .int 0, .ref tm, .int 0, .ref a4, .int (-9), .ref le, .int (-9), .int 0, .int 0, .ref aq, .ref aj, .ref a12, .ref sr, .ref a14, .ref a15, .ref a16, .int 0])), (tm, .inr (4, [.int 1, .int 0, .ref t1, .ref t2, .ref t3, .ref t4, .ref t5])), (t3, .inl (k3, 5, .inl (fun _ => 0))), (t4, .inl (k4, 5, .inl (fun _ => 0))), (t5, .inl (k5, 5, .inl (fun _ => 0)))] s.heap.size = A at hD ⊢
  have hA : ∀ q : Nat, s.heap.size ≤ q → A q := fun q h => by rw [← hAe]; exact Or.inr h
  have hS : va_S A s.heap s.heap [] := va_S.rf
  have hP : va_P (dC, dI) vwCl [(h0, .inr (6, [.ref a0, .int 0, .ref tm, .int 0, .ref a4, .int (-9), .ref le, .int (-9), .int 0, .int 0, .ref aq, .ref aj, .ref a12, .ref sr, .ref a14, .ref a15, .ref a16, .int 0])), (tm, .inr (4, [.int 1, .int 0, .ref t1, .ref t2, .ref t3, .ref t4, .ref t5])), (t3, .inl (k3, 5, .inl (fun _ => 0))), (t4, .inl (k4, 5, .inl (fun _ => 0))), (t5, .inl (k5, 5, .inl (fun _ => 0)))] s.heap := hP
  have hl := lv_entry ([.ref h0, .int p0, .int p1]) (n := 3) (Nat.le_of_ble_eq_true rfl)
  rw [lg_entry_eq]
  generalize (lg_sl ([.ref h0, .int p0, .int p1]) ++ List.replicate (3 - (lg_sl ([.ref h0, .int p0, .int p1])).length) Slot.unset).toArray = ls at hl ⊢
  have hl : lv_has ls 3 [(0, .ref h0), (1, .int p0), (2, .int p1)] := hl
  refine lv_iload_n hx hb dX6_helper_0 rfl (lv_at hl 1 rfl) ?_
  refine lv_iconst (v := 0) hx hb dX6_helper_1 (by decide) ?_
  refine lv_iconst (v := 4) hx hb dX6_helper_2 (by decide) ?_
  have hPc := hP.sub (ws' := []) [] rfl
  have hDc := hD.sub (ws' := []) [] (by decide) rfl
  have hKc := hK.sub (tys' := []) [] rfl
  have hFc := va_free (wc := []) hD hS hA [] rfl
  refine va_calli (va_runS (As := [.int p0, .int 0, .int 4]) (rest := []) ⟨hx, hb, hml, hown, hts⟩ (c_X6_isWithin l dC dI s.heap.size p0 0 4) (va_cwS 3 hts gX6_helper_X6_isWithin rfl rfl rfl (by decide +kernel) ⟨Nat.le_of_ble_eq_true rfl, Nat.le_of_ble_eq_true rfl⟩) ⟨fun a U g mk q => by obtain ⟨q0, q1, qP, qK, qD⟩ := q; exact ⟨q0, q1, qP, va_K.moved (u := U) (U := U.calling g mk a) (Vm.Alike.refl U.vm) qK, qD⟩, fun U hU hW => ⟨rfl, by rw [hU], by rw [hU]; exact hPc, va_K.moved hW.alike hKc, hDc.weaken (fun _ _ _ _ => trivial)⟩⟩ rfl rfl hl.1 rfl (lv_room (Nat.le_of_ble_eq_true rfl)) dX6_helper_3 ⟨Nat.le_of_ble_eq_true rfl, Nat.le_of_ble_eq_true rfl⟩) hS (fun q _ h => hFc q h) hFc (fun r1 u2 t H1 locs ht hvm hw hB hz1 hk1 hS => ?_)
  obtain ⟨hP, hD⟩ := va_join (wr := [(h0, .inr (6, [.ref a0, .int 0, .ref tm, .int 0, .ref a4, .int (-9), .ref le, .int (-9), .int 0, .int 0, .ref aq, .ref aj, .ref a12, .ref sr, .ref a14, .ref a15, .ref a16, .int 0])), (tm, .inr (4, [.int 1, .int 0, .ref t1, .ref t2, .ref t3, .ref t4, .ref t5])), (t3, .inl (k3, 5, .inl (fun _ => 0))), (t4, .inl (k4, 5, .inl (fun _ => 0))), (t5, .inl (k5, 5, .inl (fun _ => 0)))]) (w1 := []) hP hD [] [0, 1, 2, 3, 4] rfl rfl (by decide) (by decide) hk1 hFc (va_Pnil _ _ _) (va_Dnil _)
  generalize H1 = H at hP hS ⊢
  have hP : va_P (dC, dI) vwCl [(h0, .inr (6, [.ref a0, .int 0, .ref tm, .int 0, .ref a4, .int (-9), .ref le, .int (-9), .int 0, .int 0, .ref aq, .ref aj, .ref a12, .ref sr, .ref a14, .ref a15, .ref a16, .int 0])), (tm, .inr (4, [.int 1, .int 0, .ref t1, .ref t2, .ref t3, .ref t4, .ref t5])), (t3, .inl (k3, 5, .inl (fun _ => 0))), (t4, .inl (k4, 5, .inl (fun _ => 0))), (t5, .inl (k5, 5, .inl (fun _ => 0)))] H := hP
  have hD : va_D A [(h0, .inr (6, [.ref a0, .int 0, .ref tm, .int 0, .ref a4, .int (-9), .ref le, .int (-9), .int 0, .int 0, .ref aq, .ref aj, .ref a12, .ref sr, .ref a14, .ref a15, .ref a16, .int 0])), (tm, .inr (4, [.int 1, .int 0, .ref t1, .ref t2, .ref t3, .ref t4, .ref t5])), (t3, .inl (k3, 5, .inl (fun _ => 0))), (t4, .inl (k4, 5, .inl (fun _ => 0))), (t5, .inl (k5, 5, .inl (fun _ => 0)))] := hD
  have hK : va_K (dC, dI) vwCl [(k3, .int), (k4, .int), (k5, .int)] s := hK
  rcases hw with ⟨rfl, hc3⟩ | ⟨rfl, hc3⟩
  · have hi_hc3 : vp_in p0 5 := in_of (n := 4) hc3.1 (show p0 ≤ nI 4 from hc3.2) (by decide)
    refine lv_if_ne (tgt := 11) hx hb dX6_helper_6 (by decide) (fun _ => ?_) (fun c_4 => absurd c_4 (by decide))
    refine lv_iload_n hx hb dX6_helper_11 rfl (lv_at hl 2 rfl) ?_
    rcases sw_2 p1 with rfl | rfl | rfl | hsw
    · refine lv_tableIn (off := 28) (tgt := 40) hx hb dX6_helper_12 (by decide) (by decide) (by decide) (by decide) ?_
      refine lv_aload_n hx hb dX6_helper_40 rfl (lv_at hl 0 rfl) ?_
      refine va_get (D := (dC, dI)) (ci := 6) (v := .ref tm) (C := RX6) (T := TX6) (N := 18) hx hb hts hi6 hown hK hP 0 rfl rfl 2 (by decide) (hts (.fieldLink RX6 22 "CrateHelpers" "team" "LCrateHelpers$Team;") (by decide +kernel)) (fun _ h9 => h9) rfl dX6_helper_41 ?_
      refine va_get (D := (dC, dI)) (ci := 4) (v := .ref t3) (C := RX4) (T := TX4) (N := 7) hx hb hts hi4 hown hK hP 1 rfl rfl 4 (by decide) (hts (.fieldLink RX6 223 "CrateHelpers$Team" "done" "[I") (by decide +kernel)) (fun _ h9 => h9) rfl dX6_helper_44 ?_
      refine lv_iload_n hx hb dX6_helper_47 rfl (lv_at hl 1 rfl) ?_
      refine va_iald hx hb hK hP 2 0 rfl rfl hi_hc3 dX6_helper_48 ?_
      refine lv_topi (fun z5 ez5 => ?_)
      exact W.iret (v := z5) hx hb hr (fun t ht hW => ⟨⟨z5, (), rfl, ez5.trans (show (0 : Int32) = _ from by unfold an_helper; rw [if_pos hc3, if_pos (by decide)]), trivial⟩, hS.F ht⟩) hS.2.2 dX6_helper_49
    · refine lv_tableIn (off := 38) (tgt := 50) hx hb dX6_helper_12 (by decide) (by decide) (by decide) (by decide) ?_
      refine lv_aload_n hx hb dX6_helper_50 rfl (lv_at hl 0 rfl) ?_
      refine va_get (D := (dC, dI)) (ci := 6) (v := .ref tm) (C := RX6) (T := TX6) (N := 18) hx hb hts hi6 hown hK hP 0 rfl rfl 2 (by decide) (hts (.fieldLink RX6 22 "CrateHelpers" "team" "LCrateHelpers$Team;") (by decide +kernel)) (fun _ h9 => h9) rfl dX6_helper_51 ?_
      refine va_get (D := (dC, dI)) (ci := 4) (v := .ref t4) (C := RX4) (T := TX4) (N := 7) hx hb hts hi4 hown hK hP 1 rfl rfl 5 (by decide) (hts (.fieldLink RX6 226 "CrateHelpers$Team" "idle" "[I") (by decide +kernel)) (fun _ h9 => h9) rfl dX6_helper_54 ?_
      refine lv_iload_n hx hb dX6_helper_57 rfl (lv_at hl 1 rfl) ?_
      refine va_iald hx hb hK hP 3 1 rfl rfl hi_hc3 dX6_helper_58 ?_
      refine lv_topi (fun z6 ez6 => ?_)
      exact W.iret (v := z6) hx hb hr (fun t ht hW => ⟨⟨z6, (), rfl, ez6.trans (show (0 : Int32) = _ from by unfold an_helper; rw [if_pos hc3, if_pos (by decide)]), trivial⟩, hS.F ht⟩) hS.2.2 dX6_helper_59
    · refine lv_tableIn (off := 48) (tgt := 60) hx hb dX6_helper_12 (by decide) (by decide) (by decide) (by decide) ?_
      refine lv_aload_n hx hb dX6_helper_60 rfl (lv_at hl 0 rfl) ?_
      refine va_get (D := (dC, dI)) (ci := 6) (v := .ref tm) (C := RX6) (T := TX6) (N := 18) hx hb hts hi6 hown hK hP 0 rfl rfl 2 (by decide) (hts (.fieldLink RX6 22 "CrateHelpers" "team" "LCrateHelpers$Team;") (by decide +kernel)) (fun _ h9 => h9) rfl dX6_helper_61 ?_
      refine va_get (D := (dC, dI)) (ci := 4) (v := .ref t5) (C := RX4) (T := TX4) (N := 7) hx hb hts hi4 hown hK hP 1 rfl rfl 6 (by decide) (hts (.fieldLink RX6 229 "CrateHelpers$Team" "replaced" "[I") (by decide +kernel)) (fun _ h9 => h9) rfl dX6_helper_64 ?_
      refine lv_iload_n hx hb dX6_helper_67 rfl (lv_at hl 1 rfl) ?_
      refine va_iald hx hb hK hP 4 2 rfl rfl hi_hc3 dX6_helper_68 ?_
      refine lv_topi (fun z7 ez7 => ?_)
      exact W.iret (v := z7) hx hb hr (fun t ht hW => ⟨⟨z7, (), rfl, ez7.trans (show (0 : Int32) = _ from by unfold an_helper; rw [if_pos hc3, if_pos (by decide)]), trivial⟩, hS.F ht⟩) hS.2.2 dX6_helper_69
    · refine lv_tableOut (tgt := 70) hx hb dX6_helper_12 hsw (by decide) ?_
      refine lv_iconst (v := (-1)) hx hb dX6_helper_70 (by decide) ?_
      exact W.iret (v := (-1)) hx hb hr (fun t ht hW => ⟨⟨(-1), (), rfl, by unfold an_helper; rw [if_pos hc3, if_neg (sw_no2 hsw)], trivial⟩, hS.F ht⟩) hS.2.2 dX6_helper_71
  · refine lv_if_ne (tgt := 11) hx hb dX6_helper_6 (by decide) (fun c_8 => absurd c_8 (by decide)) (fun _ => ?_)
    refine lv_iconst (v := (-1)) hx hb dX6_helper_9 (by decide) ?_
    exact W.iret (v := (-1)) hx hb hr (fun t ht hW => ⟨⟨(-1), (), rfl, by unfold an_helper; rw [if_neg hc3], trivial⟩, hS.F ht⟩) hS.2.2 dX6_helper_10
set_option maxHeartbeats 4000000 in
set_option maxRecDepth 100000 in
/-- ask on a fresh object -/
theorem c_X6_ask (l : Launch) (dC : Nat → ClassId) (dI : Nat → Nat → Nat) (sz : Nat) (h0 : Nat) (a0 : Nat) (tm : Nat) (a4 : Nat) (le : Nat) (aq : Nat) (aj : Nat) (a12 : Nat) (sr : Nat) (a14 : Nat) (a15 : Nat) (a16 : Nat) (p0 : Int32) : Met l yX6_ask wsX6_ask ({ frames := 3, cells := 0, slots := 0, locals := 120 }) (va_Pc [.ref h0, .int p0] (fun U => U.heap.size = sz ∧ va_P (dC, dI) vwCl [(h0, .inr (6, [.ref a0, .int 0, .ref tm, .int 0, .ref a4, .int (-9), .ref le, .int (-9), .int 0, .int 0, .ref aq, .ref aj, .ref a12, .ref sr, .ref a14, .ref a15, .ref a16, .int 0]))] U.heap ∧ va_K (dC, dI) vwCl [] U ∧ va_D (fun _ => True) [(h0, .inr (6, [.ref a0, .int 0, .ref tm, .int 0, .ref a4, .int (-9), .ref le, .int (-9), .int 0, .int 0, .ref aq, .ref aj, .ref a12, .ref sr, .ref a14, .ref a15, .ref a16, .int 0]))])) (va_Qi (fun (r : Int32) (_ : Unit) => r = -1) (fun (_ : Unit) (_ : State) => True) (va_A [(h0, .inr (6, [.ref a0, .int 0, .ref tm, .int 0, .ref a4, .int (-9), .ref le, .int (-9), .int 0, .int 0, .ref aq, .ref aj, .ref a12, .ref sr, .ref a14, .ref a15, .ref a16, .int 0]))] sz)) 0 0 (va_A [(h0, .inr (6, [.ref a0, .int 0, .ref tm, .int 0, .ref a4, .int (-9), .ref le, .int (-9), .int 0, .int 0, .ref aq, .ref aj, .ref a12, .ref sr, .ref a14, .ref a15, .ref a16, .int 0]))] sz) := by
  refine Met.ofW (cc := cX6_ask) (maxL := 2) (ret := (some .int)) (by decide) rfl ?_
  intro p e s m args below meth c s₁ B hml hv
  obtain ⟨rfl, hsz, hP, hK, hD0⟩ := hv
  have hx := B.exec
  have hb := B.bytes
  have hr := B.returns
  have hts := atoms_spec (ws := wsX6_ask) B.pre
  have hown : s.vm.findClass RX6 = some m.cls := findClass_of_methodNamed B.named
  have hlocks := B.notSynchronized
  have hi6 : ∀ w ∈ u_ws RX6 TX6 18, w ∈ wsX6_ask := fun w h => List.mem_cons_of_mem _ (List.mem_append_left _ (List.mem_append_right _ h))
  have hi1 : ∀ w ∈ u_ws RX1 TX1 9, w ∈ wsX6_ask := fun w h => List.mem_cons_of_mem _ (List.mem_append_right _ h)
  subst hsz
  have hD := hD0.self (sz := s.heap.size)
  generalize hAe : va_A [(h0, .inr (6, [.ref a0, .int 0, .ref tm, .int 0, .ref a4, .int (-9), .ref le, .int (-9), .int 0, .int 0, .ref aq, .ref aj, .ref a12, .ref sr, .ref a14, .ref a15, .ref a16, .int 0]))] s.heap.size = A at hD ⊢
  have hA : ∀ q : Nat, s.heap.size ≤ q → A q := fun q h => by rw [← hAe]; exact Or.inr h
  have hS : va_S A s.heap s.heap [] := va_S.rf
  have hP : va_P (dC, dI) vwCl [(h0, .inr (6, [.ref a0, .int 0, .ref tm, .int 0, .ref a4, .int (-9), .ref le, .int (-9), .int 0, .int 0, .ref aq, .ref aj, .ref a12, .ref sr, .ref a14, .ref a15, .ref a16, .int 0]))] s.heap := hP
  have hl := lv_entry ([.ref h0, .int p0]) (n := 2) (Nat.le_of_ble_eq_true rfl)
  rw [lg_entry_eq]
  generalize (lg_sl ([.ref h0, .int p0]) ++ List.replicate (2 - (lg_sl ([.ref h0, .int p0])).length) Slot.unset).toArray = ls at hl ⊢
  have hl : lv_has ls 2 [(0, .ref h0), (1, .int p0)] := hl
  refine lv_aload_n hx hb dX6_ask_0 rfl (lv_at hl 0 rfl) ?_
  refine lv_iload_n hx hb dX6_ask_1 rfl (lv_at hl 1 rfl) ?_
  have hPc := hP.sub (ws' := [(h0, .inr (6, [.ref a0, .int 0, .ref tm, .int 0, .ref a4, .int (-9), .ref le, .int (-9), .int 0, .int 0, .ref aq, .ref aj, .ref a12, .ref sr, .ref a14, .ref a15, .ref a16, .int 0]))]) [0] rfl
  have hDc := hD.sub (ws' := [(h0, .inr (6, [.ref a0, .int 0, .ref tm, .int 0, .ref a4, .int (-9), .ref le, .int (-9), .int 0, .int 0, .ref aq, .ref aj, .ref a12, .ref sr, .ref a14, .ref a15, .ref a16, .int 0]))]) [0] (by decide) rfl
  have hKc := hK.sub (tys' := []) [] rfl
  have hFc := va_free (wc := [(h0, .inr (6, [.ref a0, .int 0, .ref tm, .int 0, .ref a4, .int (-9), .ref le, .int (-9), .int 0, .int 0, .ref aq, .ref aj, .ref a12, .ref sr, .ref a14, .ref a15, .ref a16, .int 0]))]) hD hS hA [0] rfl
  refine va_calli (va_runV (As := [.int p0]) (rest := []) ⟨hx, hb, hml, hown, hts⟩ (c_X6_isProblem l dC dI s.heap.size h0 a0 tm a4 le aq aj a12 sr a14 a15 a16 p0) (cwV 1 hts gX6_ask_X6_isProblem rfl rfl rfl (by decide +kernel) ⟨Nat.le_of_ble_eq_true rfl, Nat.le_of_ble_eq_true rfl⟩) ⟨fun a U g mk q => by obtain ⟨q0, q1, qP, qK, qD⟩ := q; exact ⟨q0, q1, qP, va_K.moved (u := U) (U := U.calling g mk a) (Vm.Alike.refl U.vm) qK, qD⟩, va_recv hKc hPc (ci := 6) (q0 := 0) rfl rfl, fun U hU hW => ⟨rfl, by rw [hU], by rw [hU]; exact hPc, va_K.moved hW.alike hKc, hDc.weaken (fun _ _ _ _ => trivial)⟩⟩ rfl rfl hl.1 rfl (lv_room (Nat.le_of_ble_eq_true rfl)) dX6_ask_2 ⟨Nat.le_of_ble_eq_true rfl, Nat.le_of_ble_eq_true rfl⟩) hS (fun q _ h => hFc q h) hFc (fun r1 u2 t H1 locs ht hvm hw hB hz1 hk1 hS => ?_)
  obtain ⟨hP1, hK1, hD1⟩ := hB
  rw [ht] at hP1
  have hK1 := va_K.moved hvm.symm hK1
  try dsimp only at hw
  obtain ⟨hP, hD⟩ := va_join (wr := []) (w1 := [(h0, .inr (6, [.ref a0, .int 0, .ref tm, .int 0, .ref a4, .int (-9), .ref le, .int (-9), .int 0, .int 0, .ref aq, .ref aj, .ref a12, .ref sr, .ref a14, .ref a15, .ref a16, .int 0]))]) hP hD [0] [] rfl rfl (by decide) (by decide) hk1 hFc hP1 hD1
  have hK := (hK.sub (tys' := []) [] rfl).app hK1
  generalize H1 = H at hP hS ⊢
  have hP : va_P (dC, dI) vwCl [(h0, .inr (6, [.ref a0, .int 0, .ref tm, .int 0, .ref a4, .int (-9), .ref le, .int (-9), .int 0, .int 0, .ref aq, .ref aj, .ref a12, .ref sr, .ref a14, .ref a15, .ref a16, .int 0]))] H := hP
  have hD : va_D A [(h0, .inr (6, [.ref a0, .int 0, .ref tm, .int 0, .ref a4, .int (-9), .ref le, .int (-9), .int 0, .int 0, .ref aq, .ref aj, .ref a12, .ref sr, .ref a14, .ref a15, .ref a16, .int 0]))] := hD
  have hK : va_K (dC, dI) vwCl [] s := hK
  obtain rfl : r1 = 0 := hw
  refine lv_if_ne (tgt := 10) hx hb dX6_ask_5 (by decide) (fun c_3 => absurd c_3 (by decide)) (fun _ => ?_)
  refine lv_iconst (v := (-1)) hx hb dX6_ask_8 (by decide) ?_
  exact W.iret (v := (-1)) hx hb hr (fun t ht hW => ⟨⟨(-1), (), rfl, rfl, trivial⟩, hS.F ht⟩) hS.2.2 dX6_ask_9
set_option maxHeartbeats 4000000 in
set_option maxRecDepth 100000 in
/-- with on a fresh object -/
theorem c_X6_with (l : Launch) (dC : Nat → ClassId) (dI : Nat → Nat → Nat) (sz : Nat) (h0 : Nat) (a0 : Nat) (tm : Nat) (a4 : Nat) (le : Nat) (aq : Nat) (aj : Nat) (a12 : Nat) (sr : Nat) (a14 : Nat) (a15 : Nat) (a16 : Nat) (p0 : Int32) : Met l yX6_with wsX6_with ({ frames := 3, cells := 0, slots := 0, locals := 120 }) (va_Pc [.ref h0, .int p0] (fun U => U.heap.size = sz ∧ va_P (dC, dI) vwCl [(h0, .inr (6, [.ref a0, .int 0, .ref tm, .int 0, .ref a4, .int (-9), .ref le, .int (-9), .int 0, .int 0, .ref aq, .ref aj, .ref a12, .ref sr, .ref a14, .ref a15, .ref a16, .int 0]))] U.heap ∧ va_K (dC, dI) vwCl [] U ∧ va_D (fun _ => True) [(h0, .inr (6, [.ref a0, .int 0, .ref tm, .int 0, .ref a4, .int (-9), .ref le, .int (-9), .int 0, .int 0, .ref aq, .ref aj, .ref a12, .ref sr, .ref a14, .ref a15, .ref a16, .int 0]))])) (va_Qi (fun (r : Int32) (_ : Unit) => r = -1) (fun (_ : Unit) (_ : State) => True) (va_A [(h0, .inr (6, [.ref a0, .int 0, .ref tm, .int 0, .ref a4, .int (-9), .ref le, .int (-9), .int 0, .int 0, .ref aq, .ref aj, .ref a12, .ref sr, .ref a14, .ref a15, .ref a16, .int 0]))] sz)) 0 0 (va_A [(h0, .inr (6, [.ref a0, .int 0, .ref tm, .int 0, .ref a4, .int (-9), .ref le, .int (-9), .int 0, .int 0, .ref aq, .ref aj, .ref a12, .ref sr, .ref a14, .ref a15, .ref a16, .int 0]))] sz) := by
  refine Met.ofW (cc := cX6_with) (maxL := 2) (ret := (some .int)) (by decide) rfl ?_
  intro p e s m args below meth c s₁ B hml hv
  obtain ⟨rfl, hsz, hP, hK, hD0⟩ := hv
  have hx := B.exec
  have hb := B.bytes
  have hr := B.returns
  have hts := atoms_spec (ws := wsX6_with) B.pre
  have hown : s.vm.findClass RX6 = some m.cls := findClass_of_methodNamed B.named
  have hlocks := B.notSynchronized
  have hi6 : ∀ w ∈ u_ws RX6 TX6 18, w ∈ wsX6_with := fun w h => List.mem_cons_of_mem _ (List.mem_append_left _ (List.mem_append_right _ h))
  have hi1 : ∀ w ∈ u_ws RX1 TX1 9, w ∈ wsX6_with := fun w h => List.mem_cons_of_mem _ (List.mem_append_right _ h)
  subst hsz
  have hD := hD0.self (sz := s.heap.size)
  generalize hAe : va_A [(h0, .inr (6, [.ref a0, .int 0, .ref tm, .int 0, .ref a4, .int (-9), .ref le, .int (-9), .int 0, .int 0, .ref aq, .ref aj, .ref a12, .ref sr, .ref a14, .ref a15, .ref a16, .int 0]))] s.heap.size = A at hD ⊢
  have hA : ∀ q : Nat, s.heap.size ≤ q → A q := fun q h => by rw [← hAe]; exact Or.inr h
  have hS : va_S A s.heap s.heap [] := va_S.rf
  have hP : va_P (dC, dI) vwCl [(h0, .inr (6, [.ref a0, .int 0, .ref tm, .int 0, .ref a4, .int (-9), .ref le, .int (-9), .int 0, .int 0, .ref aq, .ref aj, .ref a12, .ref sr, .ref a14, .ref a15, .ref a16, .int 0]))] s.heap := hP
  have hl := lv_entry ([.ref h0, .int p0]) (n := 2) (Nat.le_of_ble_eq_true rfl)
  rw [lg_entry_eq]
  generalize (lg_sl ([.ref h0, .int p0]) ++ List.replicate (2 - (lg_sl ([.ref h0, .int p0])).length) Slot.unset).toArray = ls at hl ⊢
  have hl : lv_has ls 2 [(0, .ref h0), (1, .int p0)] := hl
  refine lv_aload_n hx hb dX6_with_0 rfl (lv_at hl 0 rfl) ?_
  refine va_get (D := (dC, dI)) (ci := 6) (v := .int (-9)) (C := RX6) (T := TX6) (N := 18) hx hb hts hi6 hown hK hP 0 rfl rfl 7 (by decide) (hts (.fieldLink RX6 32 "CrateHelpers" "asked" "I") (by decide +kernel)) (fun _ h9 => h9) rfl dX6_with_1 ?_
  refine lv_bipush (v := (-9)) hx hb dX6_with_4 (by decide) ?_
  refine lv_icmp_eq (tgt := 29) hx hb dX6_with_6 (by decide) (fun _ => ?_) (fun c_1 => absurd c_1 (by decide))
  refine lv_iconst (v := (-1)) hx hb dX6_with_29 (by decide) ?_
  exact W.iret (v := (-1)) hx hb hr (fun t ht hW => ⟨⟨(-1), (), rfl, rfl, trivial⟩, hS.F ht⟩) hS.2.2 dX6_with_30
set_option maxHeartbeats 4000000 in
set_option maxRecDepth 100000 in
/-- node on a fresh object -/
theorem c_X6_node (l : Launch) (dC : Nat → ClassId) (dI : Nat → Nat → Nat) (sz : Nat) (h0 : Nat) (a0 : Nat) (tm : Nat) (a4 : Nat) (le : Nat) (aq : Nat) (aj : Nat) (a12 : Nat) (sr : Nat) (a14 : Nat) (a15 : Nat) (a16 : Nat) (p0 : Int32) (p1 : Int32) (p2 : Int32) : Met l yX6_node wsX6_node ({ frames := 3, cells := 0, slots := 0, locals := 120 }) (va_Pc [.ref h0, .int p0, .int p1, .int p2] (fun U => U.heap.size = sz ∧ va_P (dC, dI) vwCl [(h0, .inr (6, [.ref a0, .int 0, .ref tm, .int 0, .ref a4, .int (-9), .ref le, .int (-9), .int 0, .int 0, .ref aq, .ref aj, .ref a12, .ref sr, .ref a14, .ref a15, .ref a16, .int 0]))] U.heap ∧ va_K (dC, dI) vwCl [] U ∧ va_D (fun _ => True) [(h0, .inr (6, [.ref a0, .int 0, .ref tm, .int 0, .ref a4, .int (-9), .ref le, .int (-9), .int 0, .int 0, .ref aq, .ref aj, .ref a12, .ref sr, .ref a14, .ref a15, .ref a16, .int 0]))])) (va_Qi (fun (r : Int32) (_ : Unit) => r = an_node p0 p1 p2) (fun (_ : Unit) (_ : State) => True) (va_A [(h0, .inr (6, [.ref a0, .int 0, .ref tm, .int 0, .ref a4, .int (-9), .ref le, .int (-9), .int 0, .int 0, .ref aq, .ref aj, .ref a12, .ref sr, .ref a14, .ref a15, .ref a16, .int 0]))] sz)) 0 0 (va_A [(h0, .inr (6, [.ref a0, .int 0, .ref tm, .int 0, .ref a4, .int (-9), .ref le, .int (-9), .int 0, .int 0, .ref aq, .ref aj, .ref a12, .ref sr, .ref a14, .ref a15, .ref a16, .int 0]))] sz) := by
  refine Met.ofW (cc := cX6_node) (maxL := 5) (ret := (some .int)) (by decide) rfl ?_
  intro p e s m args below meth c s₁ B hml hv
  obtain ⟨rfl, hsz, hP, hK, hD0⟩ := hv
  have hx := B.exec
  have hb := B.bytes
  have hr := B.returns
  have hts := atoms_spec (ws := wsX6_node) B.pre
  have hown : s.vm.findClass RX6 = some m.cls := findClass_of_methodNamed B.named
  have hlocks := B.notSynchronized
  have hi6 : ∀ w ∈ u_ws RX6 TX6 18, w ∈ wsX6_node := fun w h => List.mem_cons_of_mem _ (List.mem_append_left _ (List.mem_append_left _ (List.mem_append_left _ (List.mem_append_right _ h))))
  have hi1 : ∀ w ∈ u_ws RX1 TX1 9, w ∈ wsX6_node := fun w h => List.mem_cons_of_mem _ (List.mem_append_left _ (List.mem_append_left _ (List.mem_append_right _ h)))
  have hi0 : ∀ w ∈ u_ws RX0 TX0 3, w ∈ wsX6_node := fun w h => List.mem_cons_of_mem _ (List.mem_append_left _ (List.mem_append_right _ h))
  have hi2 : ∀ w ∈ u_ws RX2 TX2 7, w ∈ wsX6_node := fun w h => List.mem_cons_of_mem _ (List.mem_append_right _ h)
  subst hsz
  have hD := hD0.self (sz := s.heap.size)
  generalize hAe : va_A [(h0, .inr (6, [.ref a0, .int 0, .ref tm, .int 0, .ref a4, .int (-9), .ref le, .int (-9), .int 0, .int 0, .ref aq, .ref aj, .ref a12, .ref sr, .ref a14, .ref a15, .ref a16, .int 0]))] s.heap.size = A at hD ⊢
  have hA : ∀ q : Nat, s.heap.size ≤ q → A q := fun q h => by rw [← hAe]; exact Or.inr h
  have hS : va_S A s.heap s.heap [] := va_S.rf
  have hP : va_P (dC, dI) vwCl [(h0, .inr (6, [.ref a0, .int 0, .ref tm, .int 0, .ref a4, .int (-9), .ref le, .int (-9), .int 0, .int 0, .ref aq, .ref aj, .ref a12, .ref sr, .ref a14, .ref a15, .ref a16, .int 0]))] s.heap := hP
  have hl := lv_entry ([.ref h0, .int p0, .int p1, .int p2]) (n := 5) (Nat.le_of_ble_eq_true rfl)
  rw [lg_entry_eq]
  generalize (lg_sl ([.ref h0, .int p0, .int p1, .int p2]) ++ List.replicate (5 - (lg_sl ([.ref h0, .int p0, .int p1, .int p2])).length) Slot.unset).toArray = ls at hl ⊢
  have hl : lv_has ls 5 [(0, .ref h0), (1, .int p0), (2, .int p1), (3, .int p2)] := hl
  refine lv_iload_n hx hb dX6_node_0 rfl (lv_at hl 1 rfl) ?_
  refine lv_iconst (v := 0) hx hb dX6_node_1 (by decide) ?_
  refine lv_iconst (v := 4) hx hb dX6_node_2 (by decide) ?_
  have hPc := hP.sub (ws' := []) [] rfl
  have hDc := hD.sub (ws' := []) [] (by decide) rfl
  have hKc := hK.sub (tys' := []) [] rfl
  have hFc := va_free (wc := []) hD hS hA [] rfl
  refine va_calli (va_runS (As := [.int p0, .int 0, .int 4]) (rest := []) ⟨hx, hb, hml, hown, hts⟩ (c_X6_isWithin l dC dI s.heap.size p0 0 4) (va_cwS 3 hts gX6_node_X6_isWithin rfl rfl rfl (by decide +kernel) ⟨Nat.le_of_ble_eq_true rfl, Nat.le_of_ble_eq_true rfl⟩) ⟨fun a U g mk q => by obtain ⟨q0, q1, qP, qK, qD⟩ := q; exact ⟨q0, q1, qP, va_K.moved (u := U) (U := U.calling g mk a) (Vm.Alike.refl U.vm) qK, qD⟩, fun U hU hW => ⟨rfl, by rw [hU], by rw [hU]; exact hPc, va_K.moved hW.alike hKc, hDc.weaken (fun _ _ _ _ => trivial)⟩⟩ rfl rfl hl.1 rfl (lv_room (Nat.le_of_ble_eq_true rfl)) dX6_node_3 ⟨Nat.le_of_ble_eq_true rfl, Nat.le_of_ble_eq_true rfl⟩) hS (fun q _ h => hFc q h) hFc (fun r1 u2 t H1 locs ht hvm hw hB hz1 hk1 hS => ?_)
  obtain ⟨hP, hD⟩ := va_join (wr := [(h0, .inr (6, [.ref a0, .int 0, .ref tm, .int 0, .ref a4, .int (-9), .ref le, .int (-9), .int 0, .int 0, .ref aq, .ref aj, .ref a12, .ref sr, .ref a14, .ref a15, .ref a16, .int 0]))]) (w1 := []) hP hD [] [0] rfl rfl (by decide) (by decide) hk1 hFc (va_Pnil _ _ _) (va_Dnil _)
  generalize H1 = H at hP hS ⊢
  have hP : va_P (dC, dI) vwCl [(h0, .inr (6, [.ref a0, .int 0, .ref tm, .int 0, .ref a4, .int (-9), .ref le, .int (-9), .int 0, .int 0, .ref aq, .ref aj, .ref a12, .ref sr, .ref a14, .ref a15, .ref a16, .int 0]))] H := hP
  have hD : va_D A [(h0, .inr (6, [.ref a0, .int 0, .ref tm, .int 0, .ref a4, .int (-9), .ref le, .int (-9), .int 0, .int 0, .ref aq, .ref aj, .ref a12, .ref sr, .ref a14, .ref a15, .ref a16, .int 0]))] := hD
  have hK : va_K (dC, dI) vwCl [] s := hK
  rcases hw with ⟨rfl, hc3⟩ | ⟨rfl, hc3⟩
  · have hi_hc3 : vp_in p0 5 := in_of (n := 4) hc3.1 (show p0 ≤ nI 4 from hc3.2) (by decide)
    refine lv_if_ne (tgt := 11) hx hb dX6_node_6 (by decide) (fun _ => ?_) (fun c_4 => absurd c_4 (by decide))
    refine lv_aload_n hx hb dX6_node_11 rfl (lv_at hl 0 rfl) ?_
    refine va_get (D := (dC, dI)) (ci := 6) (v := .int (-9)) (C := RX6) (T := TX6) (N := 18) hx hb hts hi6 hown hK hP 0 rfl rfl 7 (by decide) (hts (.fieldLink RX6 32 "CrateHelpers" "asked" "I") (by decide +kernel)) (fun _ h9 => h9) rfl dX6_node_12 ?_
    refine lv_bipush (v := (-9)) hx hb dX6_node_15 (by decide) ?_
    refine lv_icmp_eq (tgt := 39) hx hb dX6_node_17 (by decide) (fun _ => ?_) (fun c_5 => absurd c_5 (by decide))
    refine lv_bipush (v := (-2)) hx hb dX6_node_39 (by decide) ?_
    exact W.iret (v := (-2)) hx hb hr (fun t ht hW => ⟨⟨(-2), (), rfl, by unfold an_node; rw [if_pos hc3], trivial⟩, hS.F ht⟩) hS.2.2 dX6_node_41
  · refine lv_if_ne (tgt := 11) hx hb dX6_node_6 (by decide) (fun c_6 => absurd c_6 (by decide)) (fun _ => ?_)
    refine lv_iconst (v := (-1)) hx hb dX6_node_9 (by decide) ?_
    exact W.iret (v := (-1)) hx hb hr (fun t ht hW => ⟨⟨(-1), (), rfl, by unfold an_node; rw [if_neg hc3], trivial⟩, hS.F ht⟩) hS.2.2 dX6_node_10
set_option maxHeartbeats 4000000 in
set_option maxRecDepth 100000 in
/-- second on a fresh object -/
theorem c_X6_second (l : Launch) (dC : Nat → ClassId) (dI : Nat → Nat → Nat) (sz : Nat) (h0 : Nat) (a0 : Nat) (tm : Nat) (a4 : Nat) (le : Nat) (aq : Nat) (aj : Nat) (a12 : Nat) (sr : Nat) (a14 : Nat) (a15 : Nat) (a16 : Nat) (p0 : Int32) (p1 : Int32) : Met l yX6_second wsX6_second ({ frames := 3, cells := 0, slots := 0, locals := 120 }) (va_Pc [.ref h0, .int p0, .int p1] (fun U => U.heap.size = sz ∧ va_P (dC, dI) vwCl [(h0, .inr (6, [.ref a0, .int 0, .ref tm, .int 0, .ref a4, .int (-9), .ref le, .int (-9), .int 0, .int 0, .ref aq, .ref aj, .ref a12, .ref sr, .ref a14, .ref a15, .ref a16, .int 0]))] U.heap ∧ va_K (dC, dI) vwCl [] U ∧ va_D (fun _ => True) [(h0, .inr (6, [.ref a0, .int 0, .ref tm, .int 0, .ref a4, .int (-9), .ref le, .int (-9), .int 0, .int 0, .ref aq, .ref aj, .ref a12, .ref sr, .ref a14, .ref a15, .ref a16, .int 0]))])) (va_Qi (fun (r : Int32) (_ : Unit) => r = -1000002) (fun (_ : Unit) (_ : State) => True) (va_A [(h0, .inr (6, [.ref a0, .int 0, .ref tm, .int 0, .ref a4, .int (-9), .ref le, .int (-9), .int 0, .int 0, .ref aq, .ref aj, .ref a12, .ref sr, .ref a14, .ref a15, .ref a16, .int 0]))] sz)) 0 0 (va_A [(h0, .inr (6, [.ref a0, .int 0, .ref tm, .int 0, .ref a4, .int (-9), .ref le, .int (-9), .int 0, .int 0, .ref aq, .ref aj, .ref a12, .ref sr, .ref a14, .ref a15, .ref a16, .int 0]))] sz) := by
  refine Met.ofW (cc := cX6_second) (maxL := 6) (ret := (some .int)) (by decide) rfl ?_
  intro p e s m args below meth c s₁ B hml hv
  obtain ⟨rfl, hsz, hP, hK, hD0⟩ := hv
  have hx := B.exec
  have hb := B.bytes
  have hr := B.returns
  have hts := atoms_spec (ws := wsX6_second) B.pre
  have hown : s.vm.findClass RX6 = some m.cls := findClass_of_methodNamed B.named
  have hlocks := B.notSynchronized
  have hi6 : ∀ w ∈ u_ws RX6 TX6 18, w ∈ wsX6_second := fun w h => List.mem_cons_of_mem _ (List.mem_append_left _ (List.mem_append_left _ (List.mem_append_left _ (List.mem_append_left _ (List.mem_append_right _ h)))))
  have hi5 : ∀ w ∈ u_ws RX5 TX5 16, w ∈ wsX6_second := fun w h => List.mem_cons_of_mem _ (List.mem_append_left _ (List.mem_append_left _ (List.mem_append_left _ (List.mem_append_right _ h))))
  have hi1 : ∀ w ∈ u_ws RX1 TX1 9, w ∈ wsX6_second := fun w h => List.mem_cons_of_mem _ (List.mem_append_left _ (List.mem_append_left _ (List.mem_append_right _ h)))
  have hi0 : ∀ w ∈ u_ws RX0 TX0 3, w ∈ wsX6_second := fun w h => List.mem_cons_of_mem _ (List.mem_append_left _ (List.mem_append_right _ h))
  have hi2 : ∀ w ∈ u_ws RX2 TX2 7, w ∈ wsX6_second := fun w h => List.mem_cons_of_mem _ (List.mem_append_right _ h)
  subst hsz
  have hD := hD0.self (sz := s.heap.size)
  generalize hAe : va_A [(h0, .inr (6, [.ref a0, .int 0, .ref tm, .int 0, .ref a4, .int (-9), .ref le, .int (-9), .int 0, .int 0, .ref aq, .ref aj, .ref a12, .ref sr, .ref a14, .ref a15, .ref a16, .int 0]))] s.heap.size = A at hD ⊢
  have hA : ∀ q : Nat, s.heap.size ≤ q → A q := fun q h => by rw [← hAe]; exact Or.inr h
  have hS : va_S A s.heap s.heap [] := va_S.rf
  have hP : va_P (dC, dI) vwCl [(h0, .inr (6, [.ref a0, .int 0, .ref tm, .int 0, .ref a4, .int (-9), .ref le, .int (-9), .int 0, .int 0, .ref aq, .ref aj, .ref a12, .ref sr, .ref a14, .ref a15, .ref a16, .int 0]))] s.heap := hP
  have hl := lv_entry ([.ref h0, .int p0, .int p1]) (n := 6) (Nat.le_of_ble_eq_true rfl)
  rw [lg_entry_eq]
  generalize (lg_sl ([.ref h0, .int p0, .int p1]) ++ List.replicate (6 - (lg_sl ([.ref h0, .int p0, .int p1])).length) Slot.unset).toArray = ls at hl ⊢
  have hl : lv_has ls 6 [(0, .ref h0), (1, .int p0), (2, .int p1)] := hl
  refine lv_aload_n hx hb dX6_second_0 rfl (lv_at hl 0 rfl) ?_
  refine lv_iload_n hx hb dX6_second_1 rfl (lv_at hl 1 rfl) ?_
  have hPc := hP.sub (ws' := [(h0, .inr (6, [.ref a0, .int 0, .ref tm, .int 0, .ref a4, .int (-9), .ref le, .int (-9), .int 0, .int 0, .ref aq, .ref aj, .ref a12, .ref sr, .ref a14, .ref a15, .ref a16, .int 0]))]) [0] rfl
  have hDc := hD.sub (ws' := [(h0, .inr (6, [.ref a0, .int 0, .ref tm, .int 0, .ref a4, .int (-9), .ref le, .int (-9), .int 0, .int 0, .ref aq, .ref aj, .ref a12, .ref sr, .ref a14, .ref a15, .ref a16, .int 0]))]) [0] (by decide) rfl
  have hKc := hK.sub (tys' := []) [] rfl
  have hFc := va_free (wc := [(h0, .inr (6, [.ref a0, .int 0, .ref tm, .int 0, .ref a4, .int (-9), .ref le, .int (-9), .int 0, .int 0, .ref aq, .ref aj, .ref a12, .ref sr, .ref a14, .ref a15, .ref a16, .int 0]))]) hD hS hA [0] rfl
  refine va_calli (va_runV (As := [.int p0]) (rest := []) ⟨hx, hb, hml, hown, hts⟩ (c_X6_isProblem l dC dI s.heap.size h0 a0 tm a4 le aq aj a12 sr a14 a15 a16 p0) (cwV 1 hts gX6_second_X6_isProblem rfl rfl rfl (by decide +kernel) ⟨Nat.le_of_ble_eq_true rfl, Nat.le_of_ble_eq_true rfl⟩) ⟨fun a U g mk q => by obtain ⟨q0, q1, qP, qK, qD⟩ := q; exact ⟨q0, q1, qP, va_K.moved (u := U) (U := U.calling g mk a) (Vm.Alike.refl U.vm) qK, qD⟩, va_recv hKc hPc (ci := 6) (q0 := 0) rfl rfl, fun U hU hW => ⟨rfl, by rw [hU], by rw [hU]; exact hPc, va_K.moved hW.alike hKc, hDc.weaken (fun _ _ _ _ => trivial)⟩⟩ rfl rfl hl.1 rfl (lv_room (Nat.le_of_ble_eq_true rfl)) dX6_second_2 ⟨Nat.le_of_ble_eq_true rfl, Nat.le_of_ble_eq_true rfl⟩) hS (fun q _ h => hFc q h) hFc (fun r1 u2 t H1 locs ht hvm hw hB hz1 hk1 hS => ?_)
  obtain ⟨hP1, hK1, hD1⟩ := hB
  rw [ht] at hP1
  have hK1 := va_K.moved hvm.symm hK1
  try dsimp only at hw
  obtain ⟨hP, hD⟩ := va_join (wr := []) (w1 := [(h0, .inr (6, [.ref a0, .int 0, .ref tm, .int 0, .ref a4, .int (-9), .ref le, .int (-9), .int 0, .int 0, .ref aq, .ref aj, .ref a12, .ref sr, .ref a14, .ref a15, .ref a16, .int 0]))]) hP hD [0] [] rfl rfl (by decide) (by decide) hk1 hFc hP1 hD1
  have hK := (hK.sub (tys' := []) [] rfl).app hK1
  generalize H1 = H at hP hS ⊢
  have hP : va_P (dC, dI) vwCl [(h0, .inr (6, [.ref a0, .int 0, .ref tm, .int 0, .ref a4, .int (-9), .ref le, .int (-9), .int 0, .int 0, .ref aq, .ref aj, .ref a12, .ref sr, .ref a14, .ref a15, .ref a16, .int 0]))] H := hP
  have hD : va_D A [(h0, .inr (6, [.ref a0, .int 0, .ref tm, .int 0, .ref a4, .int (-9), .ref le, .int (-9), .int 0, .int 0, .ref aq, .ref aj, .ref a12, .ref sr, .ref a14, .ref a15, .ref a16, .int 0]))] := hD
  have hK : va_K (dC, dI) vwCl [] s := hK
  obtain rfl : r1 = 0 := hw
  refine lv_if_eq (tgt := 18) hx hb dX6_second_5 (by decide) (fun _ => ?_) (fun c_3 => absurd c_3 (by decide))
  refine lv_ldcw (v := (-1000002)) hx hb hown (hts (.constant RX6 261 (-1000002)) (by decide +kernel)) dX6_second_18 ?_
  exact W.iret (v := (-1000002)) hx hb hr (fun t ht hW => ⟨⟨(-1000002), (), rfl, rfl, trivial⟩, hS.F ht⟩) hS.2.2 dX6_second_21
set_option maxHeartbeats 4000000 in
set_option maxRecDepth 100000 in
/-- row on a fresh object -/
theorem c_X6_row (l : Launch) (dC : Nat → ClassId) (dI : Nat → Nat → Nat) (sz : Nat) (h0 : Nat) (a0 : Nat) (tm : Nat) (a4 : Nat) (le : Nat) (aq : Nat) (aj : Nat) (a12 : Nat) (sr : Nat) (a14 : Nat) (a15 : Nat) (a16 : Nat) (k6 : ClassId) (g0 : Nat → Int32) (p0 : Int32) (hg0 : ∀ j, j < 6 → g0 j = -9) : Met l yX6_row wsX6_row ({ frames := 3, cells := 0, slots := 0, locals := 120 }) (va_Pc [.ref h0, .int p0] (fun U => U.heap.size = sz ∧ va_P (dC, dI) vwCl [(h0, .inr (6, [.ref a0, .int 0, .ref tm, .int 0, .ref a4, .int (-9), .ref le, .int (-9), .int 0, .int 0, .ref aq, .ref aj, .ref a12, .ref sr, .ref a14, .ref a15, .ref a16, .int 0])), (sr, .inl (k6, 6, .inl g0))] U.heap ∧ va_K (dC, dI) vwCl [(k6, .int)] U ∧ va_D (fun _ => True) [(h0, .inr (6, [.ref a0, .int 0, .ref tm, .int 0, .ref a4, .int (-9), .ref le, .int (-9), .int 0, .int 0, .ref aq, .ref aj, .ref a12, .ref sr, .ref a14, .ref a15, .ref a16, .int 0])), (sr, .inl (k6, 6, .inl g0))])) (va_Qi (fun (r : Int32) (_ : Unit) => r = -9) (fun (_ : Unit) (_ : State) => True) (va_A [(h0, .inr (6, [.ref a0, .int 0, .ref tm, .int 0, .ref a4, .int (-9), .ref le, .int (-9), .int 0, .int 0, .ref aq, .ref aj, .ref a12, .ref sr, .ref a14, .ref a15, .ref a16, .int 0])), (sr, .inl (k6, 6, .inl g0))] sz)) 0 0 (va_A [(h0, .inr (6, [.ref a0, .int 0, .ref tm, .int 0, .ref a4, .int (-9), .ref le, .int (-9), .int 0, .int 0, .ref aq, .ref aj, .ref a12, .ref sr, .ref a14, .ref a15, .ref a16, .int 0])), (sr, .inl (k6, 6, .inl g0))] sz) := by
  refine Met.ofW (cc := cX6_row) (maxL := 2) (ret := (some .int)) (by decide) rfl ?_
  intro p e s m args below meth c s₁ B hml hv
  obtain ⟨rfl, hsz, hP, hK, hD0⟩ := hv
  have hx := B.exec
  have hb := B.bytes
  have hr := B.returns
  have hts := atoms_spec (ws := wsX6_row) B.pre
  have hown : s.vm.findClass RX6 = some m.cls := findClass_of_methodNamed B.named
  have hlocks := B.notSynchronized
  have hi6 : ∀ w ∈ u_ws RX6 TX6 18, w ∈ wsX6_row := fun w h => List.mem_cons_of_mem _ (List.mem_append_right _ h)
  subst hsz
  have hD := hD0.self (sz := s.heap.size)
  generalize hAe : va_A [(h0, .inr (6, [.ref a0, .int 0, .ref tm, .int 0, .ref a4, .int (-9), .ref le, .int (-9), .int 0, .int 0, .ref aq, .ref aj, .ref a12, .ref sr, .ref a14, .ref a15, .ref a16, .int 0])), (sr, .inl (k6, 6, .inl g0))] s.heap.size = A at hD ⊢
  have hA : ∀ q : Nat, s.heap.size ≤ q → A q := fun q h => by rw [← hAe]; exact Or.inr h
  have hS : va_S A s.heap s.heap [] := va_S.rf
  have hP : va_P (dC, dI) vwCl [(h0, .inr (6, [.ref a0, .int 0, .ref tm, .int 0, .ref a4, .int (-9), .ref le, .int (-9), .int 0, .int 0, .ref aq, .ref aj, .ref a12, .ref sr, .ref a14, .ref a15, .ref a16, .int 0])), (sr, .inl (k6, 6, .inl g0))] s.heap := hP
  have hl := lv_entry ([.ref h0, .int p0]) (n := 2) (Nat.le_of_ble_eq_true rfl)
  rw [lg_entry_eq]
  generalize (lg_sl ([.ref h0, .int p0]) ++ List.replicate (2 - (lg_sl ([.ref h0, .int p0])).length) Slot.unset).toArray = ls at hl ⊢
  have hl : lv_has ls 2 [(0, .ref h0), (1, .int p0)] := hl
  refine lv_iload_n hx hb dX6_row_0 rfl (lv_at hl 1 rfl) ?_
  refine lv_iconst (v := 0) hx hb dX6_row_1 (by decide) ?_
  refine lv_iconst (v := 5) hx hb dX6_row_2 (by decide) ?_
  have hPc := hP.sub (ws' := []) [] rfl
  have hDc := hD.sub (ws' := []) [] (by decide) rfl
  have hKc := hK.sub (tys' := []) [] rfl
  have hFc := va_free (wc := []) hD hS hA [] rfl
  refine va_calli (va_runS (As := [.int p0, .int 0, .int 5]) (rest := []) ⟨hx, hb, hml, hown, hts⟩ (c_X6_isWithin l dC dI s.heap.size p0 0 5) (va_cwS 3 hts gX6_row_X6_isWithin rfl rfl rfl (by decide +kernel) ⟨Nat.le_of_ble_eq_true rfl, Nat.le_of_ble_eq_true rfl⟩) ⟨fun a U g mk q => by obtain ⟨q0, q1, qP, qK, qD⟩ := q; exact ⟨q0, q1, qP, va_K.moved (u := U) (U := U.calling g mk a) (Vm.Alike.refl U.vm) qK, qD⟩, fun U hU hW => ⟨rfl, by rw [hU], by rw [hU]; exact hPc, va_K.moved hW.alike hKc, hDc.weaken (fun _ _ _ _ => trivial)⟩⟩ rfl rfl hl.1 rfl (lv_room (Nat.le_of_ble_eq_true rfl)) dX6_row_3 ⟨Nat.le_of_ble_eq_true rfl, Nat.le_of_ble_eq_true rfl⟩) hS (fun q _ h => hFc q h) hFc (fun r1 u2 t H1 locs ht hvm hw hB hz1 hk1 hS => ?_)
  obtain ⟨hP, hD⟩ := va_join (wr := [(h0, .inr (6, [.ref a0, .int 0, .ref tm, .int 0, .ref a4, .int (-9), .ref le, .int (-9), .int 0, .int 0, .ref aq, .ref aj, .ref a12, .ref sr, .ref a14, .ref a15, .ref a16, .int 0])), (sr, .inl (k6, 6, .inl g0))]) (w1 := []) hP hD [] [0, 1] rfl rfl (by decide) (by decide) hk1 hFc (va_Pnil _ _ _) (va_Dnil _)
  generalize H1 = H at hP hS ⊢
  have hP : va_P (dC, dI) vwCl [(h0, .inr (6, [.ref a0, .int 0, .ref tm, .int 0, .ref a4, .int (-9), .ref le, .int (-9), .int 0, .int 0, .ref aq, .ref aj, .ref a12, .ref sr, .ref a14, .ref a15, .ref a16, .int 0])), (sr, .inl (k6, 6, .inl g0))] H := hP
  have hD : va_D A [(h0, .inr (6, [.ref a0, .int 0, .ref tm, .int 0, .ref a4, .int (-9), .ref le, .int (-9), .int 0, .int 0, .ref aq, .ref aj, .ref a12, .ref sr, .ref a14, .ref a15, .ref a16, .int 0])), (sr, .inl (k6, 6, .inl g0))] := hD
  have hK : va_K (dC, dI) vwCl [(k6, .int)] s := hK
  rcases hw with ⟨rfl, hc3⟩ | ⟨rfl, hc3⟩
  · have hi_hc3 : vp_in p0 6 := in_of (n := 5) hc3.1 (show p0 ≤ nI 5 from hc3.2) (by decide)
    refine lv_if_eq (tgt := 18) hx hb dX6_row_6 (by decide) (fun c_4 => absurd c_4 (by decide)) (fun _ => ?_)
    refine lv_aload_n hx hb dX6_row_9 rfl (lv_at hl 0 rfl) ?_
    refine va_get (D := (dC, dI)) (ci := 6) (v := .ref sr) (C := RX6) (T := TX6) (N := 18) hx hb hts hi6 hown hK hP 0 rfl rfl 13 (by decide) (hts (.fieldLink RX6 52 "CrateHelpers" "secondRow" "[I") (by decide +kernel)) (fun _ h9 => h9) rfl dX6_row_10 ?_
    refine lv_iload_n hx hb dX6_row_13 rfl (lv_at hl 1 rfl) ?_
    refine va_iald hx hb hK hP 1 0 rfl rfl hi_hc3 dX6_row_14 ?_
    refine lv_topi (fun z5 ez5 => ?_)
    refine lv_goto (tgt := 20) hx hb dX6_row_15 (by decide) ?_
    exact W.iret (v := z5) hx hb hr (fun t ht hW => ⟨⟨z5, (), rfl, ez5.trans (hg0 _ (Nat.lt_of_not_le (fun h => hi_hc3 (Or.inr h)))), trivial⟩, hS.F ht⟩) hS.2.2 dX6_row_20
  · refine lv_if_eq (tgt := 18) hx hb dX6_row_6 (by decide) (fun _ => ?_) (fun c_6 => absurd c_6 (by decide))
    refine lv_bipush (v := (-9)) hx hb dX6_row_18 (by decide) ?_
    exact W.iret (v := (-9)) hx hb hr (fun t ht hW => ⟨⟨(-9), (), rfl, rfl, trivial⟩, hS.F ht⟩) hS.2.2 dX6_row_20
set_option maxHeartbeats 4000000 in
set_option maxRecDepth 100000 in
/-- same on a fresh object -/
theorem c_X6_same (l : Launch) (dC : Nat → ClassId) (dI : Nat → Nat → Nat) (sz : Nat) (h0 : Nat) (a0 : Nat) (tm : Nat) (a4 : Nat) (le : Nat) (aq : Nat) (aj : Nat) (a12 : Nat) (sr : Nat) (a14 : Nat) (a15 : Nat) (a16 : Nat) (p0 : Int32) (p1 : Int32) : Met l yX6_same wsX6_same ({ frames := 3, cells := 0, slots := 0, locals := 120 }) (va_Pc [.ref h0, .int p0, .int p1] (fun U => U.heap.size = sz ∧ va_P (dC, dI) vwCl [(h0, .inr (6, [.ref a0, .int 0, .ref tm, .int 0, .ref a4, .int (-9), .ref le, .int (-9), .int 0, .int 0, .ref aq, .ref aj, .ref a12, .ref sr, .ref a14, .ref a15, .ref a16, .int 0]))] U.heap ∧ va_K (dC, dI) vwCl [] U ∧ va_D (fun _ => True) [(h0, .inr (6, [.ref a0, .int 0, .ref tm, .int 0, .ref a4, .int (-9), .ref le, .int (-9), .int 0, .int 0, .ref aq, .ref aj, .ref a12, .ref sr, .ref a14, .ref a15, .ref a16, .int 0]))])) (va_Qi (fun (r : Int32) (_ : Unit) => r = -1) (fun (_ : Unit) (_ : State) => True) (va_A [(h0, .inr (6, [.ref a0, .int 0, .ref tm, .int 0, .ref a4, .int (-9), .ref le, .int (-9), .int 0, .int 0, .ref aq, .ref aj, .ref a12, .ref sr, .ref a14, .ref a15, .ref a16, .int 0]))] sz)) 0 0 (va_A [(h0, .inr (6, [.ref a0, .int 0, .ref tm, .int 0, .ref a4, .int (-9), .ref le, .int (-9), .int 0, .int 0, .ref aq, .ref aj, .ref a12, .ref sr, .ref a14, .ref a15, .ref a16, .int 0]))] sz) := by
  refine Met.ofW (cc := cX6_same) (maxL := 6) (ret := (some .int)) (by decide) rfl ?_
  intro p e s m args below meth c s₁ B hml hv
  obtain ⟨rfl, hsz, hP, hK, hD0⟩ := hv
  have hx := B.exec
  have hb := B.bytes
  have hr := B.returns
  have hts := atoms_spec (ws := wsX6_same) B.pre
  have hown : s.vm.findClass RX6 = some m.cls := findClass_of_methodNamed B.named
  have hlocks := B.notSynchronized
  have hi6 : ∀ w ∈ u_ws RX6 TX6 18, w ∈ wsX6_same := fun w h => List.mem_cons_of_mem _ (List.mem_append_left _ (List.mem_append_left _ (List.mem_append_left _ (List.mem_append_left _ (List.mem_append_left _ (List.mem_append_left _ (List.mem_append_right _ h)))))))
  have hi4 : ∀ w ∈ u_ws RX4 TX4 7, w ∈ wsX6_same := fun w h => List.mem_cons_of_mem _ (List.mem_append_left _ (List.mem_append_left _ (List.mem_append_left _ (List.mem_append_left _ (List.mem_append_left _ (List.mem_append_right _ h))))))
  have hi3 : ∀ w ∈ u_ws RX3 TX3 6, w ∈ wsX6_same := fun w h => List.mem_cons_of_mem _ (List.mem_append_left _ (List.mem_append_left _ (List.mem_append_left _ (List.mem_append_left _ (List.mem_append_right _ h)))))
  have hi5 : ∀ w ∈ u_ws RX5 TX5 16, w ∈ wsX6_same := fun w h => List.mem_cons_of_mem _ (List.mem_append_left _ (List.mem_append_left _ (List.mem_append_left _ (List.mem_append_right _ h))))
  have hi1 : ∀ w ∈ u_ws RX1 TX1 9, w ∈ wsX6_same := fun w h => List.mem_cons_of_mem _ (List.mem_append_left _ (List.mem_append_left _ (List.mem_append_right _ h)))
  have hi0 : ∀ w ∈ u_ws RX0 TX0 3, w ∈ wsX6_same := fun w h => List.mem_cons_of_mem _ (List.mem_append_left _ (List.mem_append_right _ h))
  have hi2 : ∀ w ∈ u_ws RX2 TX2 7, w ∈ wsX6_same := fun w h => List.mem_cons_of_mem _ (List.mem_append_right _ h)
  subst hsz
  have hD := hD0.self (sz := s.heap.size)
  generalize hAe : va_A [(h0, .inr (6, [.ref a0, .int 0, .ref tm, .int 0, .ref a4, .int (-9), .ref le, .int (-9), .int 0, .int 0, .ref aq, .ref aj, .ref a12, .ref sr, .ref a14, .ref a15, .ref a16, .int 0]))] s.heap.size = A at hD ⊢
  have hA : ∀ q : Nat, s.heap.size ≤ q → A q := fun q h => by rw [← hAe]; exact Or.inr h
  have hS : va_S A s.heap s.heap [] := va_S.rf
  have hP : va_P (dC, dI) vwCl [(h0, .inr (6, [.ref a0, .int 0, .ref tm, .int 0, .ref a4, .int (-9), .ref le, .int (-9), .int 0, .int 0, .ref aq, .ref aj, .ref a12, .ref sr, .ref a14, .ref a15, .ref a16, .int 0]))] s.heap := hP
  have hl := lv_entry ([.ref h0, .int p0, .int p1]) (n := 6) (Nat.le_of_ble_eq_true rfl)
  rw [lg_entry_eq]
  generalize (lg_sl ([.ref h0, .int p0, .int p1]) ++ List.replicate (6 - (lg_sl ([.ref h0, .int p0, .int p1])).length) Slot.unset).toArray = ls at hl ⊢
  have hl : lv_has ls 6 [(0, .ref h0), (1, .int p0), (2, .int p1)] := hl
  refine lv_aload_n hx hb dX6_same_0 rfl (lv_at hl 0 rfl) ?_
  refine lv_iload_n hx hb dX6_same_1 rfl (lv_at hl 1 rfl) ?_
  have hPc := hP.sub (ws' := [(h0, .inr (6, [.ref a0, .int 0, .ref tm, .int 0, .ref a4, .int (-9), .ref le, .int (-9), .int 0, .int 0, .ref aq, .ref aj, .ref a12, .ref sr, .ref a14, .ref a15, .ref a16, .int 0]))]) [0] rfl
  have hDc := hD.sub (ws' := [(h0, .inr (6, [.ref a0, .int 0, .ref tm, .int 0, .ref a4, .int (-9), .ref le, .int (-9), .int 0, .int 0, .ref aq, .ref aj, .ref a12, .ref sr, .ref a14, .ref a15, .ref a16, .int 0]))]) [0] (by decide) rfl
  have hKc := hK.sub (tys' := []) [] rfl
  have hFc := va_free (wc := [(h0, .inr (6, [.ref a0, .int 0, .ref tm, .int 0, .ref a4, .int (-9), .ref le, .int (-9), .int 0, .int 0, .ref aq, .ref aj, .ref a12, .ref sr, .ref a14, .ref a15, .ref a16, .int 0]))]) hD hS hA [0] rfl
  refine va_calli (va_runV (As := [.int p0]) (rest := []) ⟨hx, hb, hml, hown, hts⟩ (c_X6_isProblem l dC dI s.heap.size h0 a0 tm a4 le aq aj a12 sr a14 a15 a16 p0) (cwV 1 hts gX6_same_X6_isProblem rfl rfl rfl (by decide +kernel) ⟨Nat.le_of_ble_eq_true rfl, Nat.le_of_ble_eq_true rfl⟩) ⟨fun a U g mk q => by obtain ⟨q0, q1, qP, qK, qD⟩ := q; exact ⟨q0, q1, qP, va_K.moved (u := U) (U := U.calling g mk a) (Vm.Alike.refl U.vm) qK, qD⟩, va_recv hKc hPc (ci := 6) (q0 := 0) rfl rfl, fun U hU hW => ⟨rfl, by rw [hU], by rw [hU]; exact hPc, va_K.moved hW.alike hKc, hDc.weaken (fun _ _ _ _ => trivial)⟩⟩ rfl rfl hl.1 rfl (lv_room (Nat.le_of_ble_eq_true rfl)) dX6_same_2 ⟨Nat.le_of_ble_eq_true rfl, Nat.le_of_ble_eq_true rfl⟩) hS (fun q _ h => hFc q h) hFc (fun r1 u2 t H1 locs ht hvm hw hB hz1 hk1 hS => ?_)
  obtain ⟨hP1, hK1, hD1⟩ := hB
  rw [ht] at hP1
  have hK1 := va_K.moved hvm.symm hK1
  try dsimp only at hw
  obtain ⟨hP, hD⟩ := va_join (wr := []) (w1 := [(h0, .inr (6, [.ref a0, .int 0, .ref tm, .int 0, .ref a4, .int (-9), .ref le, .int (-9), .int 0, .int 0, .ref aq, .ref aj, .ref a12, .ref sr, .ref a14, .ref a15, .ref a16, .int 0]))]) hP hD [0] [] rfl rfl (by decide) (by decide) hk1 hFc hP1 hD1
  have hK := (hK.sub (tys' := []) [] rfl).app hK1
  generalize H1 = H at hP hS ⊢
  have hP : va_P (dC, dI) vwCl [(h0, .inr (6, [.ref a0, .int 0, .ref tm, .int 0, .ref a4, .int (-9), .ref le, .int (-9), .int 0, .int 0, .ref aq, .ref aj, .ref a12, .ref sr, .ref a14, .ref a15, .ref a16, .int 0]))] H := hP
  have hD : va_D A [(h0, .inr (6, [.ref a0, .int 0, .ref tm, .int 0, .ref a4, .int (-9), .ref le, .int (-9), .int 0, .int 0, .ref aq, .ref aj, .ref a12, .ref sr, .ref a14, .ref a15, .ref a16, .int 0]))] := hD
  have hK : va_K (dC, dI) vwCl [] s := hK
  obtain rfl : r1 = 0 := hw
  refine lv_if_eq (tgt := 17) hx hb dX6_same_5 (by decide) (fun _ => ?_) (fun c_3 => absurd c_3 (by decide))
  refine lv_iconst (v := (-1)) hx hb dX6_same_17 (by decide) ?_
  exact W.iret (v := (-1)) hx hb hr (fun t ht hW => ⟨⟨(-1), (), rfl, rfl, trivial⟩, hS.F ht⟩) hS.2.2 dX6_same_18
set_option maxHeartbeats 4000000 in
set_option maxRecDepth 100000 in
/-- count on a fresh object -/
theorem c_X6_count (l : Launch) (dC : Nat → ClassId) (dI : Nat → Nat → Nat) (sz : Nat) (h0 : Nat) (a0 : Nat) (tm : Nat) (a4 : Nat) (le : Nat) (aq : Nat) (aj : Nat) (a12 : Nat) (sr : Nat) (a14 : Nat) (a15 : Nat) (a16 : Nat) (t1 : Nat) (t2 : Nat) (t3 : Nat) (t4 : Nat) (t5 : Nat) (p0 : Int32) : Met l yX6_count wsX6_count ({ frames := 3, cells := 0, slots := 0, locals := 120 }) (va_Pc [.ref h0, .int p0] (fun U => U.heap.size = sz ∧ va_P (dC, dI) vwCl [(h0, .inr (6, [.ref a0, .int 0, .ref tm, .int 0, .ref a4, .int (-9), .ref le, .int (-9), .int 0, .int 0, .ref aq, .ref aj, .ref a12, .ref sr, .ref a14, .ref a15, .ref a16, .int 0])), (tm, .inr (4, [.int 1, .int 0, .ref t1, .ref t2, .ref t3, .ref t4, .ref t5]))] U.heap ∧ va_K (dC, dI) vwCl [] U ∧ va_D (fun _ => True) [(h0, .inr (6, [.ref a0, .int 0, .ref tm, .int 0, .ref a4, .int (-9), .ref le, .int (-9), .int 0, .int 0, .ref aq, .ref aj, .ref a12, .ref sr, .ref a14, .ref a15, .ref a16, .int 0])), (tm, .inr (4, [.int 1, .int 0, .ref t1, .ref t2, .ref t3, .ref t4, .ref t5]))])) (va_Qi (fun (r : Int32) (_ : Unit) => r = an_count p0) (fun (_ : Unit) (_ : State) => True) (va_A [(h0, .inr (6, [.ref a0, .int 0, .ref tm, .int 0, .ref a4, .int (-9), .ref le, .int (-9), .int 0, .int 0, .ref aq, .ref aj, .ref a12, .ref sr, .ref a14, .ref a15, .ref a16, .int 0])), (tm, .inr (4, [.int 1, .int 0, .ref t1, .ref t2, .ref t3, .ref t4, .ref t5]))] sz)) 0 0 (va_A [(h0, .inr (6, [.ref a0, .int 0, .ref tm, .int 0, .ref a4, .int (-9), .ref le, .int (-9), .int 0, .int 0, .ref aq, .ref aj, .ref a12, .ref sr, .ref a14, .ref a15, .ref a16, .int 0])), (tm, .inr (4, [.int 1, .int 0, .ref t1, .ref t2, .ref t3, .ref t4, .ref t5]))] sz) := by
  refine Met.ofW (cc := cX6_count) (maxL := 3) (ret := (some .int)) (by decide) rfl ?_
  intro p e s m args below meth c s₁ B hml hv
  obtain ⟨rfl, hsz, hP, hK, hD0⟩ := hv
  have hx := B.exec
  have hb := B.bytes
  have hr := B.returns
  have hts := atoms_spec (ws := wsX6_count) B.pre
  have hown : s.vm.findClass RX6 = some m.cls := findClass_of_methodNamed B.named
  have hlocks := B.notSynchronized
  have hi6 : ∀ w ∈ u_ws RX6 TX6 18, w ∈ wsX6_count := fun w h => List.mem_cons_of_mem _ (List.mem_append_left _ (List.mem_append_left _ (List.mem_append_left _ (List.mem_append_right _ h))))
  have hi4 : ∀ w ∈ u_ws RX4 TX4 7, w ∈ wsX6_count := fun w h => List.mem_cons_of_mem _ (List.mem_append_left _ (List.mem_append_left _ (List.mem_append_right _ h)))
  have hi3 : ∀ w ∈ u_ws RX3 TX3 6, w ∈ wsX6_count := fun w h => List.mem_cons_of_mem _ (List.mem_append_left _ (List.mem_append_right _ h))
  have hi5 : ∀ w ∈ u_ws RX5 TX5 16, w ∈ wsX6_count := fun w h => List.mem_cons_of_mem _ (List.mem_append_right _ h)
  subst hsz
  have hD := hD0.self (sz := s.heap.size)
  generalize hAe : va_A [(h0, .inr (6, [.ref a0, .int 0, .ref tm, .int 0, .ref a4, .int (-9), .ref le, .int (-9), .int 0, .int 0, .ref aq, .ref aj, .ref a12, .ref sr, .ref a14, .ref a15, .ref a16, .int 0])), (tm, .inr (4, [.int 1, .int 0, .ref t1, .ref t2, .ref t3, .ref t4, .ref t5]))] s.heap.size = A at hD ⊢
  have hA : ∀ q : Nat, s.heap.size ≤ q → A q := fun q h => by rw [← hAe]; exact Or.inr h
  have hS : va_S A s.heap s.heap [] := va_S.rf
  have hP : va_P (dC, dI) vwCl [(h0, .inr (6, [.ref a0, .int 0, .ref tm, .int 0, .ref a4, .int (-9), .ref le, .int (-9), .int 0, .int 0, .ref aq, .ref aj, .ref a12, .ref sr, .ref a14, .ref a15, .ref a16, .int 0])), (tm, .inr (4, [.int 1, .int 0, .ref t1, .ref t2, .ref t3, .ref t4, .ref t5]))] s.heap := hP
  have hl := lv_entry ([.ref h0, .int p0]) (n := 3) (Nat.le_of_ble_eq_true rfl)
  rw [lg_entry_eq]
  generalize (lg_sl ([.ref h0, .int p0]) ++ List.replicate (3 - (lg_sl ([.ref h0, .int p0])).length) Slot.unset).toArray = ls at hl ⊢
  have hl : lv_has ls 3 [(0, .ref h0), (1, .int p0)] := hl
  refine lv_aload_n hx hb dX6_count_0 rfl (lv_at hl 0 rfl) ?_
  refine va_get (D := (dC, dI)) (ci := 6) (v := .int (-9)) (C := RX6) (T := TX6) (N := 18) hx hb hts hi6 hown hK hP 0 rfl rfl 5 (by decide) (hts (.fieldLink RX6 29 "CrateHelpers" "underWay" "I") (by decide +kernel)) (fun _ h9 => h9) rfl dX6_count_1 ?_
  refine lv_bipush (v := (-9)) hx hb dX6_count_4 (by decide) ?_
  refine lv_icmp_eq (tgt := 13) hx hb dX6_count_6 (by decide) (fun _ => ?_) (fun c_1 => absurd c_1 (by decide))
  refine lv_iconst (v := 0) hx hb dX6_count_13 (by decide) ?_
  refine lv_istore_n (lv' := [(2, .int 0), (0, .ref h0), (1, .int p0)]) hx hb dX6_count_14 rfl hl (by decide) rfl (fun ls hl => ?_)
  refine lv_iload_n hx hb dX6_count_15 rfl (lv_at hl 2 rfl) ?_
  rcases sw_7 p0 with rfl | rfl | rfl | rfl | rfl | rfl | rfl | rfl | hsw
  · refine lv_tableIn (off := 48) (tgt := 64) hx hb dX6_count_16 (by decide) (by decide) (by decide) (by decide) ?_
    refine lv_aload_n hx hb dX6_count_64 rfl (lv_at hl 1 rfl) ?_
    refine va_get (D := (dC, dI)) (ci := 6) (v := .int 0) (C := RX6) (T := TX6) (N := 18) hx hb hts hi6 hown hK hP 0 rfl rfl 1 (by decide) (hts (.fieldLink RX6 15 "CrateHelpers" "problemCount" "I") (by decide +kernel)) (fun _ h9 => h9) rfl dX6_count_65 ?_
    exact W.iret (v := 0) hx hb hr (fun t ht hW => ⟨⟨0, (), rfl, by decide, trivial⟩, hS.F ht⟩) hS.2.2 dX6_count_68
  · refine lv_tableIn (off := 53) (tgt := 69) hx hb dX6_count_16 (by decide) (by decide) (by decide) (by decide) ?_
    refine lv_aload_n hx hb dX6_count_69 rfl (lv_at hl 1 rfl) ?_
    refine va_get (D := (dC, dI)) (ci := 6) (v := .int 0) (C := RX6) (T := TX6) (N := 18) hx hb hts hi6 hown hK hP 0 rfl rfl 3 (by decide) (hts (.fieldLink RX6 26 "CrateHelpers" "nodeLimit" "I") (by decide +kernel)) (fun _ h9 => h9) rfl dX6_count_70 ?_
    exact W.iret (v := 0) hx hb hr (fun t ht hW => ⟨⟨0, (), rfl, by decide, trivial⟩, hS.F ht⟩) hS.2.2 dX6_count_73
  · refine lv_tableIn (off := 58) (tgt := 74) hx hb dX6_count_16 (by decide) (by decide) (by decide) (by decide) ?_
    refine lv_aload_n hx hb dX6_count_74 rfl (lv_at hl 1 rfl) ?_
    refine va_get (D := (dC, dI)) (ci := 6) (v := .ref tm) (C := RX6) (T := TX6) (N := 18) hx hb hts hi6 hown hK hP 0 rfl rfl 2 (by decide) (hts (.fieldLink RX6 22 "CrateHelpers" "team" "LCrateHelpers$Team;") (by decide +kernel)) (fun _ h9 => h9) rfl dX6_count_75 ?_
    refine va_get (D := (dC, dI)) (ci := 4) (v := .int 1) (C := RX4) (T := TX4) (N := 7) hx hb hts hi4 hown hK hP 1 rfl rfl 0 (by decide) (hts (.fieldLink RX6 158 "CrateHelpers$Team" "size" "I") (by decide +kernel)) (fun _ h9 => h9) rfl dX6_count_78 ?_
    exact W.iret (v := 1) hx hb hr (fun t ht hW => ⟨⟨1, (), rfl, by decide, trivial⟩, hS.F ht⟩) hS.2.2 dX6_count_81
  · refine lv_tableIn (off := 66) (tgt := 82) hx hb dX6_count_16 (by decide) (by decide) (by decide) (by decide) ?_
    refine lv_aload_n hx hb dX6_count_82 rfl (lv_at hl 1 rfl) ?_
    refine va_get (D := (dC, dI)) (ci := 6) (v := .ref tm) (C := RX6) (T := TX6) (N := 18) hx hb hts hi6 hown hK hP 0 rfl rfl 2 (by decide) (hts (.fieldLink RX6 22 "CrateHelpers" "team" "LCrateHelpers$Team;") (by decide +kernel)) (fun _ h9 => h9) rfl dX6_count_83 ?_
    refine va_get (D := (dC, dI)) (ci := 4) (v := .int 0) (C := RX4) (T := TX4) (N := 7) hx hb hts hi4 hown hK hP 1 rfl rfl 1 (by decide) (hts (.fieldLink RX6 168 "CrateHelpers$Team" "scheduled" "I") (by decide +kernel)) (fun _ h9 => h9) rfl dX6_count_86 ?_
    exact W.iret (v := 0) hx hb hr (fun t ht hW => ⟨⟨0, (), rfl, by decide, trivial⟩, hS.F ht⟩) hS.2.2 dX6_count_89
  · refine lv_tableIn (off := 74) (tgt := 90) hx hb dX6_count_16 (by decide) (by decide) (by decide) (by decide) ?_
    refine lv_aload_n hx hb dX6_count_90 rfl (lv_at hl 1 rfl) ?_
    refine va_get (D := (dC, dI)) (ci := 6) (v := .int (-9)) (C := RX6) (T := TX6) (N := 18) hx hb hts hi6 hown hK hP 0 rfl rfl 5 (by decide) (hts (.fieldLink RX6 29 "CrateHelpers" "underWay" "I") (by decide +kernel)) (fun _ h9 => h9) rfl dX6_count_91 ?_
    exact W.iret (v := (-9)) hx hb hr (fun t ht hW => ⟨⟨(-9), (), rfl, by decide, trivial⟩, hS.F ht⟩) hS.2.2 dX6_count_94
  · refine lv_tableIn (off := 79) (tgt := 95) hx hb dX6_count_16 (by decide) (by decide) (by decide) (by decide) ?_
    refine lv_iload_n hx hb dX6_count_95 rfl (lv_at hl 0 rfl) ?_
    refine lv_if_eq (tgt := 112) hx hb dX6_count_96 (by decide) (fun _ => ?_) (fun c_2 => absurd c_2 (by decide))
    refine lv_iconst (v := 0) hx hb dX6_count_112 (by decide) ?_
    exact W.iret (v := 0) hx hb hr (fun t ht hW => ⟨⟨0, (), rfl, by decide, trivial⟩, hS.F ht⟩) hS.2.2 dX6_count_113
  · refine lv_tableIn (off := 98) (tgt := 114) hx hb dX6_count_16 (by decide) (by decide) (by decide) (by decide) ?_
    refine lv_iload_n hx hb dX6_count_114 rfl (lv_at hl 0 rfl) ?_
    refine lv_if_eq (tgt := 131) hx hb dX6_count_115 (by decide) (fun _ => ?_) (fun c_3 => absurd c_3 (by decide))
    refine lv_iconst (v := 0) hx hb dX6_count_131 (by decide) ?_
    exact W.iret (v := 0) hx hb hr (fun t ht hW => ⟨⟨0, (), rfl, by decide, trivial⟩, hS.F ht⟩) hS.2.2 dX6_count_132
  · refine lv_tableIn (off := 117) (tgt := 133) hx hb dX6_count_16 (by decide) (by decide) (by decide) (by decide) ?_
    refine lv_iload_n hx hb dX6_count_133 rfl (lv_at hl 0 rfl) ?_
    refine lv_if_eq (tgt := 150) hx hb dX6_count_134 (by decide) (fun _ => ?_) (fun c_4 => absurd c_4 (by decide))
    refine lv_iconst (v := 0) hx hb dX6_count_150 (by decide) ?_
    exact W.iret (v := 0) hx hb hr (fun t ht hW => ⟨⟨0, (), rfl, by decide, trivial⟩, hS.F ht⟩) hS.2.2 dX6_count_151
  · refine lv_tableOut (tgt := 152) hx hb dX6_count_16 hsw (by decide) ?_
    refine lv_iconst (v := (-1)) hx hb dX6_count_152 (by decide) ?_
    exact W.iret (v := (-1)) hx hb hr (fun t ht hW => ⟨⟨(-1), (), rfl, by unfold an_count; rw [if_neg (sw_no7 hsw)], trivial⟩, hS.F ht⟩) hS.2.2 dX6_count_153
set_option maxHeartbeats 4000000 in
set_option maxRecDepth 100000 in
/-- about on a fresh object -/
theorem c_X6_about (l : Launch) (dC : Nat → ClassId) (dI : Nat → Nat → Nat) (sz : Nat) (h0 : Nat) (a0 : Nat) (tm : Nat) (a4 : Nat) (le : Nat) (aq : Nat) (aj : Nat) (a12 : Nat) (sr : Nat) (a14 : Nat) (a15 : Nat) (a16 : Nat) (p0 : Int32) (p1 : Int32) (p2 : Int32) : Met l yX6_about wsX6_about ({ frames := 3, cells := 0, slots := 0, locals := 120 }) (va_Pc [.ref h0, .int p0, .int p1, .int p2] (fun U => U.heap.size = sz ∧ va_P (dC, dI) vwCl [(h0, .inr (6, [.ref a0, .int 0, .ref tm, .int 0, .ref a4, .int (-9), .ref le, .int (-9), .int 0, .int 0, .ref aq, .ref aj, .ref a12, .ref sr, .ref a14, .ref a15, .ref a16, .int 0]))] U.heap ∧ va_K (dC, dI) vwCl [] U ∧ va_D (fun _ => True) [(h0, .inr (6, [.ref a0, .int 0, .ref tm, .int 0, .ref a4, .int (-9), .ref le, .int (-9), .int 0, .int 0, .ref aq, .ref aj, .ref a12, .ref sr, .ref a14, .ref a15, .ref a16, .int 0]))])) (va_Qi (fun (r : Int32) (_ : Unit) => r = -1000000) (fun (_ : Unit) (_ : State) => True) (va_A [(h0, .inr (6, [.ref a0, .int 0, .ref tm, .int 0, .ref a4, .int (-9), .ref le, .int (-9), .int 0, .int 0, .ref aq, .ref aj, .ref a12, .ref sr, .ref a14, .ref a15, .ref a16, .int 0]))] sz)) 0 0 (va_A [(h0, .inr (6, [.ref a0, .int 0, .ref tm, .int 0, .ref a4, .int (-9), .ref le, .int (-9), .int 0, .int 0, .ref aq, .ref aj, .ref a12, .ref sr, .ref a14, .ref a15, .ref a16, .int 0]))] sz) := by
  refine Met.ofW (cc := cX6_about) (maxL := 5) (ret := (some .int)) (by decide) rfl ?_
  intro p e s m args below meth c s₁ B hml hv
  obtain ⟨rfl, hsz, hP, hK, hD0⟩ := hv
  have hx := B.exec
  have hb := B.bytes
  have hr := B.returns
  have hts := atoms_spec (ws := wsX6_about) B.pre
  have hown : s.vm.findClass RX6 = some m.cls := findClass_of_methodNamed B.named
  have hlocks := B.notSynchronized
  have hi6 : ∀ w ∈ u_ws RX6 TX6 18, w ∈ wsX6_about := fun w h => List.mem_cons_of_mem _ (List.mem_append_left _ (List.mem_append_left _ (List.mem_append_right _ h)))
  have hi1 : ∀ w ∈ u_ws RX1 TX1 9, w ∈ wsX6_about := fun w h => List.mem_cons_of_mem _ (List.mem_append_left _ (List.mem_append_right _ h))
  have hi2 : ∀ w ∈ u_ws RX2 TX2 7, w ∈ wsX6_about := fun w h => List.mem_cons_of_mem _ (List.mem_append_right _ h)
  subst hsz
  have hD := hD0.self (sz := s.heap.size)
  generalize hAe : va_A [(h0, .inr (6, [.ref a0, .int 0, .ref tm, .int 0, .ref a4, .int (-9), .ref le, .int (-9), .int 0, .int 0, .ref aq, .ref aj, .ref a12, .ref sr, .ref a14, .ref a15, .ref a16, .int 0]))] s.heap.size = A at hD ⊢
  have hA : ∀ q : Nat, s.heap.size ≤ q → A q := fun q h => by rw [← hAe]; exact Or.inr h
  have hS : va_S A s.heap s.heap [] := va_S.rf
  have hP : va_P (dC, dI) vwCl [(h0, .inr (6, [.ref a0, .int 0, .ref tm, .int 0, .ref a4, .int (-9), .ref le, .int (-9), .int 0, .int 0, .ref aq, .ref aj, .ref a12, .ref sr, .ref a14, .ref a15, .ref a16, .int 0]))] s.heap := hP
  have hl := lv_entry ([.ref h0, .int p0, .int p1, .int p2]) (n := 5) (Nat.le_of_ble_eq_true rfl)
  rw [lg_entry_eq]
  generalize (lg_sl ([.ref h0, .int p0, .int p1, .int p2]) ++ List.replicate (5 - (lg_sl ([.ref h0, .int p0, .int p1, .int p2])).length) Slot.unset).toArray = ls at hl ⊢
  have hl : lv_has ls 5 [(0, .ref h0), (1, .int p0), (2, .int p1), (3, .int p2)] := hl
  refine lv_aload_n hx hb dX6_about_0 rfl (lv_at hl 0 rfl) ?_
  refine lv_iload_n hx hb dX6_about_1 rfl (lv_at hl 1 rfl) ?_
  have hPc := hP.sub (ws' := [(h0, .inr (6, [.ref a0, .int 0, .ref tm, .int 0, .ref a4, .int (-9), .ref le, .int (-9), .int 0, .int 0, .ref aq, .ref aj, .ref a12, .ref sr, .ref a14, .ref a15, .ref a16, .int 0]))]) [0] rfl
  have hDc := hD.sub (ws' := [(h0, .inr (6, [.ref a0, .int 0, .ref tm, .int 0, .ref a4, .int (-9), .ref le, .int (-9), .int 0, .int 0, .ref aq, .ref aj, .ref a12, .ref sr, .ref a14, .ref a15, .ref a16, .int 0]))]) [0] (by decide) rfl
  have hKc := hK.sub (tys' := []) [] rfl
  have hFc := va_free (wc := [(h0, .inr (6, [.ref a0, .int 0, .ref tm, .int 0, .ref a4, .int (-9), .ref le, .int (-9), .int 0, .int 0, .ref aq, .ref aj, .ref a12, .ref sr, .ref a14, .ref a15, .ref a16, .int 0]))]) hD hS hA [0] rfl
  refine va_calli (va_runV (As := [.int p0]) (rest := []) ⟨hx, hb, hml, hown, hts⟩ (c_X6_isProblem l dC dI s.heap.size h0 a0 tm a4 le aq aj a12 sr a14 a15 a16 p0) (cwV 1 hts gX6_about_X6_isProblem rfl rfl rfl (by decide +kernel) ⟨Nat.le_of_ble_eq_true rfl, Nat.le_of_ble_eq_true rfl⟩) ⟨fun a U g mk q => by obtain ⟨q0, q1, qP, qK, qD⟩ := q; exact ⟨q0, q1, qP, va_K.moved (u := U) (U := U.calling g mk a) (Vm.Alike.refl U.vm) qK, qD⟩, va_recv hKc hPc (ci := 6) (q0 := 0) rfl rfl, fun U hU hW => ⟨rfl, by rw [hU], by rw [hU]; exact hPc, va_K.moved hW.alike hKc, hDc.weaken (fun _ _ _ _ => trivial)⟩⟩ rfl rfl hl.1 rfl (lv_room (Nat.le_of_ble_eq_true rfl)) dX6_about_2 ⟨Nat.le_of_ble_eq_true rfl, Nat.le_of_ble_eq_true rfl⟩) hS (fun q _ h => hFc q h) hFc (fun r1 u2 t H1 locs ht hvm hw hB hz1 hk1 hS => ?_)
  obtain ⟨hP1, hK1, hD1⟩ := hB
  rw [ht] at hP1
  have hK1 := va_K.moved hvm.symm hK1
  try dsimp only at hw
  obtain ⟨hP, hD⟩ := va_join (wr := []) (w1 := [(h0, .inr (6, [.ref a0, .int 0, .ref tm, .int 0, .ref a4, .int (-9), .ref le, .int (-9), .int 0, .int 0, .ref aq, .ref aj, .ref a12, .ref sr, .ref a14, .ref a15, .ref a16, .int 0]))]) hP hD [0] [] rfl rfl (by decide) (by decide) hk1 hFc hP1 hD1
  have hK := (hK.sub (tys' := []) [] rfl).app hK1
  generalize H1 = H at hP hS ⊢
  have hP : va_P (dC, dI) vwCl [(h0, .inr (6, [.ref a0, .int 0, .ref tm, .int 0, .ref a4, .int (-9), .ref le, .int (-9), .int 0, .int 0, .ref aq, .ref aj, .ref a12, .ref sr, .ref a14, .ref a15, .ref a16, .int 0]))] H := hP
  have hD : va_D A [(h0, .inr (6, [.ref a0, .int 0, .ref tm, .int 0, .ref a4, .int (-9), .ref le, .int (-9), .int 0, .int 0, .ref aq, .ref aj, .ref a12, .ref sr, .ref a14, .ref a15, .ref a16, .int 0]))] := hD
  have hK : va_K (dC, dI) vwCl [] s := hK
  obtain rfl : r1 = 0 := hw
  refine lv_if_eq (tgt := 18) hx hb dX6_about_5 (by decide) (fun _ => ?_) (fun c_3 => absurd c_3 (by decide))
  refine lv_aload_n hx hb dX6_about_18 rfl (lv_at hl 0 rfl) ?_
  refine lv_iconst (v := (-1)) hx hb dX6_about_19 (by decide) ?_
  have hPc := hP.sub (ws' := [(h0, .inr (6, [.ref a0, .int 0, .ref tm, .int 0, .ref a4, .int (-9), .ref le, .int (-9), .int 0, .int 0, .ref aq, .ref aj, .ref a12, .ref sr, .ref a14, .ref a15, .ref a16, .int 0]))]) [0] rfl
  have hDc := hD.sub (ws' := [(h0, .inr (6, [.ref a0, .int 0, .ref tm, .int 0, .ref a4, .int (-9), .ref le, .int (-9), .int 0, .int 0, .ref aq, .ref aj, .ref a12, .ref sr, .ref a14, .ref a15, .ref a16, .int 0]))]) [0] (by decide) rfl
  have hKc := hK.sub (tys' := []) [] rfl
  have hFc := va_free (wc := [(h0, .inr (6, [.ref a0, .int 0, .ref tm, .int 0, .ref a4, .int (-9), .ref le, .int (-9), .int 0, .int 0, .ref aq, .ref aj, .ref a12, .ref sr, .ref a14, .ref a15, .ref a16, .int 0]))]) hD hS hA [0] rfl
  refine va_calli (va_runV (As := [.int (-1)]) (rest := []) ⟨hx, hb, hml, hown, hts⟩ (c_X6_refuse l dC dI H.size h0 a0 tm a4 le aq aj a12 sr a14 a15 a16 (-1)) (cwV 1 hts gX6_about_X6_refuse rfl rfl rfl (by decide +kernel) ⟨Nat.le_of_ble_eq_true rfl, Nat.le_of_ble_eq_true rfl⟩) ⟨fun a U g mk q => by obtain ⟨q0, q1, qP, qK, qD⟩ := q; exact ⟨q0, q1, qP, va_K.moved (u := U) (U := U.calling g mk a) (Vm.Alike.refl U.vm) qK, qD⟩, va_recv hKc hPc (ci := 6) (q0 := 0) rfl rfl, fun U hU hW => ⟨rfl, by rw [hU], by rw [hU]; exact hPc, va_K.moved hW.alike hKc, hDc.weaken (fun _ _ _ _ => trivial)⟩⟩ rfl rfl hl.1 rfl (lv_room (Nat.le_of_ble_eq_true rfl)) dX6_about_20 ⟨Nat.le_of_ble_eq_true rfl, Nat.le_of_ble_eq_true rfl⟩) hS (fun q _ h => hFc q h) hFc (fun r4 u5 t H1 locs ht hvm hw hB hz1 hk1 hS => ?_)
  obtain ⟨hP, hD⟩ := va_join (wr := []) (w1 := []) hP hD [0] [] rfl rfl (by decide) (by decide) hk1 hFc (va_Pnil _ _ _) (va_Dnil _)
  generalize H1 = H at hP hS ⊢
  have hP : va_P (dC, dI) vwCl [] H := hP
  have hD : va_D A [] := hD
  have hK : va_K (dC, dI) vwCl [] s := hK
  obtain rfl : r4 = -1000000 := hw
  exact W.iret (v := (-1000000)) hx hb hr (fun t ht hW => ⟨⟨(-1000000), (), rfl, rfl, trivial⟩, hS.F ht⟩) hS.2.2 dX6_about_23
set_option maxHeartbeats 4000000 in
set_option maxRecDepth 100000 in
/-- costs on a fresh object -/
theorem c_X6_costs (l : Launch) (dC : Nat → ClassId) (dI : Nat → Nat → Nat) (sz : Nat) (h0 : Nat) (a0 : Nat) (tm : Nat) (a4 : Nat) (le : Nat) (aq : Nat) (aj : Nat) (a12 : Nat) (sr : Nat) (a14 : Nat) (a15 : Nat) (a16 : Nat) (p0 : Int32) (p1 : Int32) (p2 : Int32) : Met l yX6_costs wsX6_costs ({ frames := 3, cells := 0, slots := 0, locals := 120 }) (va_Pc [.ref h0, .int p0, .int p1, .int p2] (fun U => U.heap.size = sz ∧ va_P (dC, dI) vwCl [(h0, .inr (6, [.ref a0, .int 0, .ref tm, .int 0, .ref a4, .int (-9), .ref le, .int (-9), .int 0, .int 0, .ref aq, .ref aj, .ref a12, .ref sr, .ref a14, .ref a15, .ref a16, .int 0]))] U.heap ∧ va_K (dC, dI) vwCl [] U ∧ va_D (fun _ => True) [(h0, .inr (6, [.ref a0, .int 0, .ref tm, .int 0, .ref a4, .int (-9), .ref le, .int (-9), .int 0, .int 0, .ref aq, .ref aj, .ref a12, .ref sr, .ref a14, .ref a15, .ref a16, .int 0]))])) (va_Qi (fun (r : Int32) (_ : Unit) => r = -1000000) (fun (_ : Unit) (_ : State) => True) (va_A [(h0, .inr (6, [.ref a0, .int 0, .ref tm, .int 0, .ref a4, .int (-9), .ref le, .int (-9), .int 0, .int 0, .ref aq, .ref aj, .ref a12, .ref sr, .ref a14, .ref a15, .ref a16, .int 0]))] sz)) 0 0 (va_A [(h0, .inr (6, [.ref a0, .int 0, .ref tm, .int 0, .ref a4, .int (-9), .ref le, .int (-9), .int 0, .int 0, .ref aq, .ref aj, .ref a12, .ref sr, .ref a14, .ref a15, .ref a16, .int 0]))] sz) := by
  refine Met.ofW (cc := cX6_costs) (maxL := 4) (ret := (some .int)) (by decide) rfl ?_
  intro p e s m args below meth c s₁ B hml hv
  obtain ⟨rfl, hsz, hP, hK, hD0⟩ := hv
  have hx := B.exec
  have hb := B.bytes
  have hr := B.returns
  have hts := atoms_spec (ws := wsX6_costs) B.pre
  have hown : s.vm.findClass RX6 = some m.cls := findClass_of_methodNamed B.named
  have hlocks := B.notSynchronized
  have hi6 : ∀ w ∈ u_ws RX6 TX6 18, w ∈ wsX6_costs := fun w h => List.mem_cons_of_mem _ (List.mem_append_left _ (List.mem_append_right _ h))
  have hi1 : ∀ w ∈ u_ws RX1 TX1 9, w ∈ wsX6_costs := fun w h => List.mem_cons_of_mem _ (List.mem_append_right _ h)
  subst hsz
  have hD := hD0.self (sz := s.heap.size)
  generalize hAe : va_A [(h0, .inr (6, [.ref a0, .int 0, .ref tm, .int 0, .ref a4, .int (-9), .ref le, .int (-9), .int 0, .int 0, .ref aq, .ref aj, .ref a12, .ref sr, .ref a14, .ref a15, .ref a16, .int 0]))] s.heap.size = A at hD ⊢
  have hA : ∀ q : Nat, s.heap.size ≤ q → A q := fun q h => by rw [← hAe]; exact Or.inr h
  have hS : va_S A s.heap s.heap [] := va_S.rf
  have hP : va_P (dC, dI) vwCl [(h0, .inr (6, [.ref a0, .int 0, .ref tm, .int 0, .ref a4, .int (-9), .ref le, .int (-9), .int 0, .int 0, .ref aq, .ref aj, .ref a12, .ref sr, .ref a14, .ref a15, .ref a16, .int 0]))] s.heap := hP
  have hl := lv_entry ([.ref h0, .int p0, .int p1, .int p2]) (n := 4) (Nat.le_of_ble_eq_true rfl)
  rw [lg_entry_eq]
  generalize (lg_sl ([.ref h0, .int p0, .int p1, .int p2]) ++ List.replicate (4 - (lg_sl ([.ref h0, .int p0, .int p1, .int p2])).length) Slot.unset).toArray = ls at hl ⊢
  have hl : lv_has ls 4 [(0, .ref h0), (1, .int p0), (2, .int p1), (3, .int p2)] := hl
  refine lv_aload_n hx hb dX6_costs_0 rfl (lv_at hl 0 rfl) ?_
  refine lv_iload_n hx hb dX6_costs_1 rfl (lv_at hl 1 rfl) ?_
  have hPc := hP.sub (ws' := [(h0, .inr (6, [.ref a0, .int 0, .ref tm, .int 0, .ref a4, .int (-9), .ref le, .int (-9), .int 0, .int 0, .ref aq, .ref aj, .ref a12, .ref sr, .ref a14, .ref a15, .ref a16, .int 0]))]) [0] rfl
  have hDc := hD.sub (ws' := [(h0, .inr (6, [.ref a0, .int 0, .ref tm, .int 0, .ref a4, .int (-9), .ref le, .int (-9), .int 0, .int 0, .ref aq, .ref aj, .ref a12, .ref sr, .ref a14, .ref a15, .ref a16, .int 0]))]) [0] (by decide) rfl
  have hKc := hK.sub (tys' := []) [] rfl
  have hFc := va_free (wc := [(h0, .inr (6, [.ref a0, .int 0, .ref tm, .int 0, .ref a4, .int (-9), .ref le, .int (-9), .int 0, .int 0, .ref aq, .ref aj, .ref a12, .ref sr, .ref a14, .ref a15, .ref a16, .int 0]))]) hD hS hA [0] rfl
  refine va_calli (va_runV (As := [.int p0]) (rest := []) ⟨hx, hb, hml, hown, hts⟩ (c_X6_isProblem l dC dI s.heap.size h0 a0 tm a4 le aq aj a12 sr a14 a15 a16 p0) (cwV 1 hts gX6_costs_X6_isProblem rfl rfl rfl (by decide +kernel) ⟨Nat.le_of_ble_eq_true rfl, Nat.le_of_ble_eq_true rfl⟩) ⟨fun a U g mk q => by obtain ⟨q0, q1, qP, qK, qD⟩ := q; exact ⟨q0, q1, qP, va_K.moved (u := U) (U := U.calling g mk a) (Vm.Alike.refl U.vm) qK, qD⟩, va_recv hKc hPc (ci := 6) (q0 := 0) rfl rfl, fun U hU hW => ⟨rfl, by rw [hU], by rw [hU]; exact hPc, va_K.moved hW.alike hKc, hDc.weaken (fun _ _ _ _ => trivial)⟩⟩ rfl rfl hl.1 rfl (lv_room (Nat.le_of_ble_eq_true rfl)) dX6_costs_2 ⟨Nat.le_of_ble_eq_true rfl, Nat.le_of_ble_eq_true rfl⟩) hS (fun q _ h => hFc q h) hFc (fun r1 u2 t H1 locs ht hvm hw hB hz1 hk1 hS => ?_)
  obtain ⟨hP1, hK1, hD1⟩ := hB
  rw [ht] at hP1
  have hK1 := va_K.moved hvm.symm hK1
  try dsimp only at hw
  obtain ⟨hP, hD⟩ := va_join (wr := []) (w1 := [(h0, .inr (6, [.ref a0, .int 0, .ref tm, .int 0, .ref a4, .int (-9), .ref le, .int (-9), .int 0, .int 0, .ref aq, .ref aj, .ref a12, .ref sr, .ref a14, .ref a15, .ref a16, .int 0]))]) hP hD [0] [] rfl rfl (by decide) (by decide) hk1 hFc hP1 hD1
  have hK := (hK.sub (tys' := []) [] rfl).app hK1
  generalize H1 = H at hP hS ⊢
  have hP : va_P (dC, dI) vwCl [(h0, .inr (6, [.ref a0, .int 0, .ref tm, .int 0, .ref a4, .int (-9), .ref le, .int (-9), .int 0, .int 0, .ref aq, .ref aj, .ref a12, .ref sr, .ref a14, .ref a15, .ref a16, .int 0]))] H := hP
  have hD : va_D A [(h0, .inr (6, [.ref a0, .int 0, .ref tm, .int 0, .ref a4, .int (-9), .ref le, .int (-9), .int 0, .int 0, .ref aq, .ref aj, .ref a12, .ref sr, .ref a14, .ref a15, .ref a16, .int 0]))] := hD
  have hK : va_K (dC, dI) vwCl [] s := hK
  obtain rfl : r1 = 0 := hw
  refine lv_if_eq (tgt := 22) hx hb dX6_costs_5 (by decide) (fun _ => ?_) (fun c_3 => absurd c_3 (by decide))
  refine lv_aload_n hx hb dX6_costs_22 rfl (lv_at hl 0 rfl) ?_
  refine lv_iconst (v := (-1)) hx hb dX6_costs_23 (by decide) ?_
  have hPc := hP.sub (ws' := [(h0, .inr (6, [.ref a0, .int 0, .ref tm, .int 0, .ref a4, .int (-9), .ref le, .int (-9), .int 0, .int 0, .ref aq, .ref aj, .ref a12, .ref sr, .ref a14, .ref a15, .ref a16, .int 0]))]) [0] rfl
  have hDc := hD.sub (ws' := [(h0, .inr (6, [.ref a0, .int 0, .ref tm, .int 0, .ref a4, .int (-9), .ref le, .int (-9), .int 0, .int 0, .ref aq, .ref aj, .ref a12, .ref sr, .ref a14, .ref a15, .ref a16, .int 0]))]) [0] (by decide) rfl
  have hKc := hK.sub (tys' := []) [] rfl
  have hFc := va_free (wc := [(h0, .inr (6, [.ref a0, .int 0, .ref tm, .int 0, .ref a4, .int (-9), .ref le, .int (-9), .int 0, .int 0, .ref aq, .ref aj, .ref a12, .ref sr, .ref a14, .ref a15, .ref a16, .int 0]))]) hD hS hA [0] rfl
  refine va_calli (va_runV (As := [.int (-1)]) (rest := []) ⟨hx, hb, hml, hown, hts⟩ (c_X6_refuse l dC dI H.size h0 a0 tm a4 le aq aj a12 sr a14 a15 a16 (-1)) (cwV 1 hts gX6_costs_X6_refuse rfl rfl rfl (by decide +kernel) ⟨Nat.le_of_ble_eq_true rfl, Nat.le_of_ble_eq_true rfl⟩) ⟨fun a U g mk q => by obtain ⟨q0, q1, qP, qK, qD⟩ := q; exact ⟨q0, q1, qP, va_K.moved (u := U) (U := U.calling g mk a) (Vm.Alike.refl U.vm) qK, qD⟩, va_recv hKc hPc (ci := 6) (q0 := 0) rfl rfl, fun U hU hW => ⟨rfl, by rw [hU], by rw [hU]; exact hPc, va_K.moved hW.alike hKc, hDc.weaken (fun _ _ _ _ => trivial)⟩⟩ rfl rfl hl.1 rfl (lv_room (Nat.le_of_ble_eq_true rfl)) dX6_costs_24 ⟨Nat.le_of_ble_eq_true rfl, Nat.le_of_ble_eq_true rfl⟩) hS (fun q _ h => hFc q h) hFc (fun r4 u5 t H1 locs ht hvm hw hB hz1 hk1 hS => ?_)
  obtain ⟨hP, hD⟩ := va_join (wr := []) (w1 := []) hP hD [0] [] rfl rfl (by decide) (by decide) hk1 hFc (va_Pnil _ _ _) (va_Dnil _)
  generalize H1 = H at hP hS ⊢
  have hP : va_P (dC, dI) vwCl [] H := hP
  have hD : va_D A [] := hD
  have hK : va_K (dC, dI) vwCl [] s := hK
  obtain rfl : r4 = -1000000 := hw
  exact W.iret (v := (-1000000)) hx hb hr (fun t ht hW => ⟨⟨(-1000000), (), rfl, rfl, trivial⟩, hS.F ht⟩) hS.2.2 dX6_costs_27
set_option maxHeartbeats 4000000 in
set_option maxRecDepth 100000 in
/-- status on a fresh object -/
theorem c_X6_status (l : Launch) (dC : Nat → ClassId) (dI : Nat → Nat → Nat) (sz : Nat) (h0 : Nat) (a0 : Nat) (tm : Nat) (a4 : Nat) (le : Nat) (aq : Nat) (aj : Nat) (a12 : Nat) (sr : Nat) (a14 : Nat) (a15 : Nat) (a16 : Nat) : Met l yX6_status wsX6_status ({ frames := 3, cells := 0, slots := 0, locals := 120 }) (va_Pc [.ref h0] (fun U => U.heap.size = sz ∧ va_P (dC, dI) vwCl [(h0, .inr (6, [.ref a0, .int 0, .ref tm, .int 0, .ref a4, .int (-9), .ref le, .int (-9), .int 0, .int 0, .ref aq, .ref aj, .ref a12, .ref sr, .ref a14, .ref a15, .ref a16, .int 0]))] U.heap ∧ va_K (dC, dI) vwCl [] U ∧ va_D (fun _ => True) [(h0, .inr (6, [.ref a0, .int 0, .ref tm, .int 0, .ref a4, .int (-9), .ref le, .int (-9), .int 0, .int 0, .ref aq, .ref aj, .ref a12, .ref sr, .ref a14, .ref a15, .ref a16, .int 0]))])) (va_Qi (fun (r : Int32) (_ : Unit) => r = 0) (fun (_ : Unit) (_ : State) => True) (va_A [(h0, .inr (6, [.ref a0, .int 0, .ref tm, .int 0, .ref a4, .int (-9), .ref le, .int (-9), .int 0, .int 0, .ref aq, .ref aj, .ref a12, .ref sr, .ref a14, .ref a15, .ref a16, .int 0]))] sz)) 0 0 (va_A [(h0, .inr (6, [.ref a0, .int 0, .ref tm, .int 0, .ref a4, .int (-9), .ref le, .int (-9), .int 0, .int 0, .ref aq, .ref aj, .ref a12, .ref sr, .ref a14, .ref a15, .ref a16, .int 0]))] sz) := by
  refine Met.ofW (cc := cX6_status) (maxL := 1) (ret := (some .int)) (by decide) rfl ?_
  intro p e s m args below meth c s₁ B hml hv
  obtain ⟨rfl, hsz, hP, hK, hD0⟩ := hv
  have hx := B.exec
  have hb := B.bytes
  have hr := B.returns
  have hts := atoms_spec (ws := wsX6_status) B.pre
  have hown : s.vm.findClass RX6 = some m.cls := findClass_of_methodNamed B.named
  have hlocks := B.notSynchronized
  have hi6 : ∀ w ∈ u_ws RX6 TX6 18, w ∈ wsX6_status := fun w h => List.mem_cons_of_mem _ (List.mem_append_right _ h)
  subst hsz
  have hD := hD0.self (sz := s.heap.size)
  generalize hAe : va_A [(h0, .inr (6, [.ref a0, .int 0, .ref tm, .int 0, .ref a4, .int (-9), .ref le, .int (-9), .int 0, .int 0, .ref aq, .ref aj, .ref a12, .ref sr, .ref a14, .ref a15, .ref a16, .int 0]))] s.heap.size = A at hD ⊢
  have hA : ∀ q : Nat, s.heap.size ≤ q → A q := fun q h => by rw [← hAe]; exact Or.inr h
  have hS : va_S A s.heap s.heap [] := va_S.rf
  have hP : va_P (dC, dI) vwCl [(h0, .inr (6, [.ref a0, .int 0, .ref tm, .int 0, .ref a4, .int (-9), .ref le, .int (-9), .int 0, .int 0, .ref aq, .ref aj, .ref a12, .ref sr, .ref a14, .ref a15, .ref a16, .int 0]))] s.heap := hP
  have hl := lv_entry ([.ref h0]) (n := 1) (Nat.le_of_ble_eq_true rfl)
  rw [lg_entry_eq]
  generalize (lg_sl ([.ref h0]) ++ List.replicate (1 - (lg_sl ([.ref h0])).length) Slot.unset).toArray = ls at hl ⊢
  have hl : lv_has ls 1 [(0, .ref h0)] := hl
  refine lv_aload_n hx hb dX6_status_0 rfl (lv_at hl 0 rfl) ?_
  refine va_get (D := (dC, dI)) (ci := 6) (v := .int 0) (C := RX6) (T := TX6) (N := 18) hx hb hts hi6 hown hK hP 0 rfl rfl 17 (by decide) (hts (.fieldLink RX6 64 "CrateHelpers" "refusedBy" "I") (by decide +kernel)) (fun _ h9 => h9) rfl dX6_status_1 ?_
  exact W.iret (v := 0) hx hb hr (fun t ht hW => ⟨⟨0, (), rfl, rfl, trivial⟩, hS.F ht⟩) hS.2.2 dX6_status_4
