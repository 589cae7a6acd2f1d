set_option maxHeartbeats 4000000 in
set_option maxRecDepth 100000 in
theorem e_X7_status (l : Launch) (D : va_G) (K : Nat → ClassId) (ad : Nat → Nat) (hap0 : apart ad (fun _ => True)) (I : Nat → Nat → Int32) (G : Nat → Nat → Nat) (A : Nat → Nat → Int32) (L : Nat → Nat → Int64) (r0 : Int32) (I0 : Nat → Nat → Int32) (h : f_X7_status I = some (r0, I0)) : Ci l D K ad yX7_status wsX7_status 0 0 [.ref (ad 318)] (I, G, A, L) (fun (r : Int32) (u : Mem) => r = r0 ∧ u = (I0, G, A, L)) := by
  intro sz
  refine Met.ofW (cc := cX7_status) (maxL := 1) (ret := (some .int)) (by decide) rfl ?_
  intro p e s m args below meth c s₁ Bd hml hv0
  obtain ⟨rfl, hsz, hP, hK⟩ := hv0
  have hx := Bd.exec
  have hb := Bd.bytes
  have hr := Bd.returns
  have hts := atoms_spec (ws := wsX7_status) Bd.pre
  have hown : s.vm.findClass RX7 = some m.cls := findClass_of_methodNamed Bd.named
  have hlocks := Bd.notSynchronized
  have hi7 : ∀ w ∈ u_ws RX7 TX7 79, w ∈ wsX7_status := fun w h => List.mem_cons_of_mem _ (List.mem_append_right _ h)
  subst hsz
  have hap := vF_ap hap0 s.heap.size
  have hS : va_S (vF ad s.heap.size) s.heap s.heap [] := va_S.rf
  have hP : va_P D vwCl (VW K ad I G A L) s.heap := hP
  have hl := lv_entry ([.ref (ad 318)]) (n := 1) (Nat.le_of_ble_eq_true rfl)
  rw [lg_entry_eq]
  generalize (lg_sl ([.ref (ad 318)]) ++ List.replicate (1 - (lg_sl ([.ref (ad 318)])).length) Slot.unset).toArray = ls at hl ⊢
  have hl : lv_has ls 1 [(0, .ref (ad 318))] := hl
  rw [f_X7_status] at h
  refine lv_aload_n hx hb dX7_status_0 rfl (lv_at hl 0 rfl) ?_
  refine lv_iconst (v := 0) hx hb dX7_status_1 (by decide) ?_
  refine vpI (v := 0) (ty := .int) hx hb hts hi7 tyX7 tyX7_ok nmX7 hown hK hP hap hS (318) (by decide) (show kd 318 = 7 by decide) (C := RX7) (T := TX7) (N := 79) rfl 0 (by decide) (by decide) (by decide) (by decide) (hts (.fieldLink RX7 201 "CrateHelpersModel" "thrown" "I") (by decide +kernel)) (fun _ h9 => h9) rfl (by decide +kernel) rfl rfl dX7_status_2 (fun H locs hP hS => ?_)
  obtain ⟨I1, eI1, h⟩ := bd_e h
  rw [← eI1] at hP
  have hP : va_P D vwCl (VW K ad I1 G A L) H := hP
  refine lv_aload_n hx hb dX7_status_5 rfl (lv_at hl 0 rfl) ?_
  refine vgI hx hb hts hi7 hown hK hP (318) (by decide) (show kd 318 = 7 by decide) (C := RX7) (T := TX7) (N := 79) rfl 1 (by decide) (by decide) (by decide) (by decide) (hts (.fieldLink RX7 221 "CrateHelpersModel" "status" "I") (by decide +kernel)) (fun _ h9 => h9) dX7_status_6 ?_
  exact W.iret (v := (I1 318 1)) hx hb hr (fun t9 ht9 hW9 => ⟨⟨(I1 318 1), (I1, G, A, L), rfl, by cases h; exact ⟨rfl, rfl⟩, by rw [ht9]; exact hP, va_K.moved hW9.alike hK⟩, hS.F ht9⟩) hS.2.2 dX7_status_9
set_option maxHeartbeats 4000000 in
set_option maxRecDepth 100000 in
theorem e_X7_told (l : Launch) (D : va_G) (K : Nat → ClassId) (ad : Nat → Nat) (hap0 : apart ad (fun _ => True)) (a1 : Int32) (a2 : Int32) (I : Nat → Nat → Int32) (G : Nat → Nat → Nat) (A : Nat → Nat → Int32) (L : Nat → Nat → Int64) (r0 : Int32) (I0 : Nat → Nat → Int32) (h : f_X7_told I A a1 a2 = some (r0, I0)) : Ci l D K ad yX7_told wsX7_told 2 49 [.ref (ad 318), .int a1, .int a2] (I, G, A, L) (fun (r : Int32) (u : Mem) => r = r0 ∧ u = (I0, G, A, L)) := by
  intro sz
  refine Met.ofW (cc := cX7_told) (maxL := 3) (ret := (some .int)) (by decide) rfl ?_
  intro p e s m args below meth c s₁ Bd hml hv0
  obtain ⟨rfl, hsz, hP, hK⟩ := hv0
  have hx := Bd.exec
  have hb := Bd.bytes
  have hr := Bd.returns
  have hts := atoms_spec (ws := wsX7_told) Bd.pre
  have hown : s.vm.findClass RX7 = some m.cls := findClass_of_methodNamed Bd.named
  have hlocks := Bd.notSynchronized
  have hi7 : ∀ w ∈ u_ws RX7 TX7 79, w ∈ wsX7_told := fun w h => List.mem_cons_of_mem _ (List.mem_append_right _ h)
  subst hsz
  have hap := vF_ap hap0 s.heap.size
  have hS : va_S (vF ad s.heap.size) s.heap s.heap [] := va_S.rf
  have hP : va_P D vwCl (VW K ad I G A L) s.heap := hP
  have hl := lv_entry ([.ref (ad 318), .int a1, .int a2]) (n := 3) (Nat.le_of_ble_eq_true rfl)
  rw [lg_entry_eq]
  generalize (lg_sl ([.ref (ad 318), .int a1, .int a2]) ++ List.replicate (3 - (lg_sl ([.ref (ad 318), .int a1, .int a2])).length) Slot.unset).toArray = ls at hl ⊢
  have hl : lv_has ls 3 [(0, .ref (ad 318)), (1, .int a1), (2, .int a2)] := hl
  rw [f_X7_told] at h
  refine lv_aload_n hx hb dX7_told_0 rfl (lv_at hl 0 rfl) ?_
  refine lv_iconst (v := 0) hx hb dX7_told_1 (by decide) ?_
  refine vpI (v := 0) (ty := .int) hx hb hts hi7 tyX7 tyX7_ok nmX7 hown hK hP hap hS (318) (by decide) (show kd 318 = 7 by decide) (C := RX7) (T := TX7) (N := 79) rfl 0 (by decide) (by decide) (by decide) (by decide) (hts (.fieldLink RX7 201 "CrateHelpersModel" "thrown" "I") (by decide +kernel)) (fun _ h9 => h9) rfl (by decide +kernel) rfl rfl dX7_told_2 (fun H locs hP hS => ?_)
  obtain ⟨I1, eI1, h⟩ := bd_e h
  rw [← eI1] at hP
  have hP : va_P D vwCl (VW K ad I1 G A L) H := hP
  refine lv_aload_n hx hb dX7_told_5 rfl (lv_at hl 0 rfl) ?_
  refine lv_iload_n hx hb dX7_told_6 rfl (lv_at hl 1 rfl) ?_
  obtain ⟨r2, hc3, h⟩ := Option.bind_eq_some_iff.mp h
  refine ecV (As := [.int a1]) (rest := []) ⟨hx, hb, hml, hown, hts⟩ (e_X7_isProblem l D K ad hap0 a1 I1 G A L r2 hc3) (cwV 1 hts gX7_told_X7_isProblem rfl rfl rfl (by decide +kernel) ⟨Nat.le_of_ble_eq_true rfl, Nat.le_of_ble_eq_true rfl⟩) hK hP hS (by decide) (show kd 318 = 7 by decide) (by decide) rfl rfl rfl hl.1 (Nat.le_of_ble_eq_true rfl) (Nat.le_of_ble_eq_true rfl) (Nat.le_of_ble_eq_true rfl) dX7_told_7 (fun H locs hP hS => ?_) rfl
  have hP : va_P D vwCl (VW K ad I1 G A L) H := hP
  refine lv_if_eq (tgt := 22) hx hb dX7_told_10 (by decide) (fun c_4 => ?_) (fun c_4 => ?_)
  · have h := ip c_4 h
    refine lv_iconst (v := (-1)) hx hb dX7_told_22 (by decide) ?_
    exact W.iret (v := (-1)) hx hb hr (fun t9 ht9 hW9 => ⟨⟨(-1), (I1, G, A, L), rfl, by cases h; exact ⟨rfl, rfl⟩, by rw [ht9]; exact hP, va_K.moved hW9.alike hK⟩, hS.F ht9⟩) hS.2.2 dX7_told_23
  · have h := iN c_4 h
    refine lv_iload_n hx hb dX7_told_13 rfl (lv_at hl 2 rfl) ?_
    refine lv_iconst (v := 0) hx hb dX7_told_14 (by decide) ?_
    refine lv_iconst (v := 5) hx hb dX7_told_15 (by decide) ?_
    obtain ⟨r5, hc6, h⟩ := Option.bind_eq_some_iff.mp h
    refine ecS (As := [.int a2, .int 0, .int 5]) (rest := []) ⟨hx, hb, hml, hown, hts⟩ (e_X7_in l D K ad hap0 a2 0 5 I1 G A L r5 hc6) (va_cwS 3 hts gX7_told_X7_in rfl rfl rfl (by decide +kernel) ⟨Nat.le_of_ble_eq_true rfl, Nat.le_of_ble_eq_true rfl⟩) hK hP hS rfl hl.1 (Nat.le_of_ble_eq_true rfl) (Nat.le_of_ble_eq_true rfl) (Nat.le_of_ble_eq_true rfl) dX7_told_16 (fun H locs hP hS => ?_) rfl
    have hP : va_P D vwCl (VW K ad I1 G A L) H := hP
    refine lv_if_ne (tgt := 24) hx hb dX7_told_19 (by decide) (fun c_7 => ?_) (fun c_7 => ?_)
    · have h := iN c_7 h
      refine lv_aload_n hx hb dX7_told_24 rfl (lv_at hl 0 rfl) ?_
      refine vgC hx hb hts hi7 hown hK hP (318) (by decide) (show kd 318 = 7 by decide) (C := RX7) (T := TX7) (N := 79) rfl 45 (by decide) (by decide) (by decide) (by decide) (351) rfl (hts (.fieldLink RX7 114 "CrateHelpersModel" "isTold" "[Z") (by decide +kernel)) (fun _ h9 => h9) dX7_told_25 ?_
      refine lv_iload_n hx hb dX7_told_28 rfl (lv_at hl 1 rfl) ?_
      obtain ⟨hn8, h⟩ := gk h
      refine xzald hx hb hK hP (351) (by decide) (show kd 351 = 11 by decide) (by rw [show ln 351 = 5 by decide]; exact hn8) dX7_told_29 ?_
      refine lv_if_eq (tgt := 47) hx hb dX7_told_30 (by decide) (fun c_9 => ?_) (fun c_9 => ?_)
      · have h := ip c_9 h
        refine lv_bipush (v := (-9)) hx hb dX7_told_47 (by decide) ?_
        exact W.iret (v := (-9)) hx hb hr (fun t9 ht9 hW9 => ⟨⟨(-9), (I1, G, A, L), rfl, by cases h; exact ⟨rfl, rfl⟩, by rw [ht9]; exact hP, va_K.moved hW9.alike hK⟩, hS.F ht9⟩) hS.2.2 dX7_told_49
      · have h := iN c_9 h
        refine lv_aload_n hx hb dX7_told_33 rfl (lv_at hl 0 rfl) ?_
        refine vgC hx hb hts hi7 hown hK hP (318) (by decide) (show kd 318 = 7 by decide) (C := RX7) (T := TX7) (N := 79) rfl 44 (by decide) (by decide) (by decide) (by decide) (350) rfl (hts (.fieldLink RX7 111 "CrateHelpersModel" "toldAt" "[I") (by decide +kernel)) (fun _ h9 => h9) dX7_told_34 ?_
        refine lv_bipush (v := 6) hx hb dX7_told_37 (by decide) ?_
        refine lv_iload_n hx hb dX7_told_39 rfl (lv_at hl 1 rfl) ?_
        refine lv_imul hx hb dX7_told_40 ?_
        refine lv_iload_n hx hb dX7_told_41 rfl (lv_at hl 2 rfl) ?_
        refine lv_iadd hx hb dX7_told_42 ?_
        obtain ⟨hn10, h⟩ := gk h
        refine xiald hx hb hK hP (350) (by decide) (show kd 350 = 8 by decide) (by rw [show ln 350 = 30 by decide]; exact hn10) dX7_told_43 ?_
        refine lv_goto (tgt := 49) hx hb dX7_told_44 (by decide) ?_
        exact W.iret (v := (A 350 (((6 * a1) + a2).toNatClampNeg))) hx hb hr (fun t9 ht9 hW9 => ⟨⟨(A 350 (((6 * a1) + a2).toNatClampNeg)), (I1, G, A, L), rfl, by cases h; exact ⟨rfl, rfl⟩, by rw [ht9]; exact hP, va_K.moved hW9.alike hK⟩, hS.F ht9⟩) hS.2.2 dX7_told_49
    · have h := ip c_7 h
      refine lv_iconst (v := (-1)) hx hb dX7_told_22 (by decide) ?_
      exact W.iret (v := (-1)) hx hb hr (fun t9 ht9 hW9 => ⟨⟨(-1), (I1, G, A, L), rfl, by cases h; exact ⟨rfl, rfl⟩, by rw [ht9]; exact hP, va_K.moved hW9.alike hK⟩, hS.F ht9⟩) hS.2.2 dX7_told_23
set_option maxHeartbeats 4000000 in
set_option maxRecDepth 100000 in
theorem e_X7_turn (l : Launch) (D : va_G) (K : Nat → ClassId) (ad : Nat → Nat) (hap0 : apart ad (fun _ => True)) (a1 : Int32) (I : Nat → Nat → Int32) (G : Nat → Nat → Nat) (A : Nat → Nat → Int32) (L : Nat → Nat → Int64) (r0 : Int32) (I0 : Nat → Nat → Int32) (A0 : Nat → Nat → Int32) (h : f_X7_turn I A a1 = some (r0, I0, A0)) : Ci l D K ad yX7_turn wsX7_turn 1 25 [.ref (ad 318), .int a1] (I, G, A, L) (fun (r : Int32) (u : Mem) => r = r0 ∧ u = (I0, G, A0, L)) := by
  intro sz
  refine Met.ofW (cc := cX7_turn) (maxL := 2) (ret := (some .int)) (by decide) rfl ?_
  intro p e s m args below meth c s₁ Bd hml hv0
  obtain ⟨rfl, hsz, hP, hK⟩ := hv0
  have hx := Bd.exec
  have hb := Bd.bytes
  have hr := Bd.returns
  have hts := atoms_spec (ws := wsX7_turn) Bd.pre
  have hown : s.vm.findClass RX7 = some m.cls := findClass_of_methodNamed Bd.named
  have hlocks := Bd.notSynchronized
  have hi7 : ∀ w ∈ u_ws RX7 TX7 79, w ∈ wsX7_turn := fun w h => List.mem_cons_of_mem _ (List.mem_append_right _ h)
  subst hsz
  have hap := vF_ap hap0 s.heap.size
  have hS : va_S (vF ad s.heap.size) s.heap s.heap [] := va_S.rf
  have hP : va_P D vwCl (VW K ad I G A L) s.heap := hP
  have hl := lv_entry ([.ref (ad 318), .int a1]) (n := 2) (Nat.le_of_ble_eq_true rfl)
  rw [lg_entry_eq]
  generalize (lg_sl ([.ref (ad 318), .int a1]) ++ List.replicate (2 - (lg_sl ([.ref (ad 318), .int a1])).length) Slot.unset).toArray = ls at hl ⊢
  have hl : lv_has ls 2 [(0, .ref (ad 318)), (1, .int a1)] := hl
  rw [f_X7_turn] at h
  refine lv_aload_n hx hb dX7_turn_0 rfl (lv_at hl 0 rfl) ?_
  refine lv_iconst (v := 0) hx hb dX7_turn_1 (by decide) ?_
  refine vpI (v := 0) (ty := .int) hx hb hts hi7 tyX7 tyX7_ok nmX7 hown hK hP hap hS (318) (by decide) (show kd 318 = 7 by decide) (C := RX7) (T := TX7) (N := 79) rfl 0 (by decide) (by decide) (by decide) (by decide) (hts (.fieldLink RX7 201 "CrateHelpersModel" "thrown" "I") (by decide +kernel)) (fun _ h9 => h9) rfl (by decide +kernel) rfl rfl dX7_turn_2 (fun H locs hP hS => ?_)
  obtain ⟨I1, eI1, h⟩ := bd_e h
  rw [← eI1] at hP
  have hP : va_P D vwCl (VW K ad I1 G A L) H := hP
  refine lv_iload_n hx hb dX7_turn_5 rfl (lv_at hl 1 rfl) ?_
  refine lv_iconst (v := 0) hx hb dX7_turn_6 (by decide) ?_
  refine lv_iconst (v := 4) hx hb dX7_turn_7 (by decide) ?_
  obtain ⟨r2, hc3, h⟩ := Option.bind_eq_some_iff.mp h
  refine ecS (As := [.int a1, .int 0, .int 4]) (rest := []) ⟨hx, hb, hml, hown, hts⟩ (e_X7_in l D K ad hap0 a1 0 4 I1 G A L r2 hc3) (va_cwS 3 hts gX7_turn_X7_in rfl rfl rfl (by decide +kernel) ⟨Nat.le_of_ble_eq_true rfl, Nat.le_of_ble_eq_true rfl⟩) hK hP hS rfl hl.1 (Nat.le_of_ble_eq_true rfl) (Nat.le_of_ble_eq_true rfl) (Nat.le_of_ble_eq_true rfl) dX7_turn_8 (fun H locs hP hS => ?_) rfl
  have hP : va_P D vwCl (VW K ad I1 G A L) H := hP
  refine lv_if_ne (tgt := 16) hx hb dX7_turn_11 (by decide) (fun c_4 => ?_) (fun c_4 => ?_)
  · have h := iN c_4 h
    refine lv_aload_n hx hb dX7_turn_16 rfl (lv_at hl 0 rfl) ?_
    refine vgI hx hb hts hi7 hown hK hP (318) (by decide) (show kd 318 = 7 by decide) (C := RX7) (T := TX7) (N := 79) rfl 23 (by decide) (by decide) (by decide) (by decide) (hts (.fieldLink RX7 62 "CrateHelpersModel" "under" "I") (by decide +kernel)) (fun _ h9 => h9) dX7_turn_17 ?_
    refine lv_bipush (v := (-9)) hx hb dX7_turn_20 (by decide) ?_
    refine lv_icmp_eq (tgt := 28) hx hb dX7_turn_22 (by decide) (fun c_5 => ?_) (fun c_5 => ?_)
    · have h := ip c_5 h
      refine lv_aload_n hx hb dX7_turn_28 rfl (lv_at hl 0 rfl) ?_
      refine vgI hx hb hts hi7 hown hK hP (318) (by decide) (show kd 318 = 7 by decide) (C := RX7) (T := TX7) (N := 79) rfl 18 (by decide) (by decide) (by decide) (by decide) (hts (.fieldLink RX7 243 "CrateHelpersModel" "scheduled" "I") (by decide +kernel)) (fun _ h9 => h9) dX7_turn_29 ?_
      refine lv_sipush (v := 200) hx hb dX7_turn_32 (by decide) ?_
      refine lv_icmp_ne (tgt := 41) hx hb dX7_turn_35 (by decide) (fun c_6 => ?_) (fun c_6 => ?_)
      · have h := iN c_6 h
        refine lv_aload_n hx hb dX7_turn_41 rfl (lv_at hl 0 rfl) ?_
        refine vgC hx hb hts hi7 hown hK hP (318) (by decide) (show kd 318 = 7 by decide) (C := RX7) (T := TX7) (N := 79) rfl 17 (by decide) (by decide) (by decide) (by decide) (331) rfl (hts (.fieldLink RX7 50 "CrateHelpersModel" "schedule" "[I") (by decide +kernel)) (fun _ h9 => h9) dX7_turn_42 ?_
        refine lv_aload_n hx hb dX7_turn_45 rfl (lv_at hl 0 rfl) ?_
        refine vgI hx hb hts hi7 hown hK hP (318) (by decide) (show kd 318 = 7 by decide) (C := RX7) (T := TX7) (N := 79) rfl 18 (by decide) (by decide) (by decide) (by decide) (hts (.fieldLink RX7 243 "CrateHelpersModel" "scheduled" "I") (by decide +kernel)) (fun _ h9 => h9) dX7_turn_46 ?_
        refine lv_iload_n hx hb dX7_turn_49 rfl (lv_at hl 1 rfl) ?_
        obtain ⟨hn7, h⟩ := gk h
        refine xiast hx hb hK hP hap hS (331) (by decide) (show kd 331 = 8 by decide) (by rw [show ln 331 = 200 by decide]; exact hn7) dX7_turn_50 (fun H locs hP hS => ?_)
        obtain ⟨A8, eA8, h⟩ := bd_e h
        rw [← eA8] at hP
        have hP : va_P D vwCl (VW K ad I1 G A8 L) H := hP
        refine lv_aload_n hx hb dX7_turn_51 rfl (lv_at hl 0 rfl) ?_
        refine lv_dup hx hb dX7_turn_52 rfl ?_
        refine vgI hx hb hts hi7 hown hK hP (318) (by decide) (show kd 318 = 7 by decide) (C := RX7) (T := TX7) (N := 79) rfl 18 (by decide) (by decide) (by decide) (by decide) (hts (.fieldLink RX7 243 "CrateHelpersModel" "scheduled" "I") (by decide +kernel)) (fun _ h9 => h9) dX7_turn_53 ?_
        refine lv_iconst (v := 1) hx hb dX7_turn_56 (by decide) ?_
        refine lv_iadd hx hb dX7_turn_57 ?_
        refine vpI (v := ((I1 318 18) + 1)) (ty := .int) hx hb hts hi7 tyX7 tyX7_ok nmX7 hown hK hP hap hS (318) (by decide) (show kd 318 = 7 by decide) (C := RX7) (T := TX7) (N := 79) rfl 18 (by decide) (by decide) (by decide) (by decide) (hts (.fieldLink RX7 243 "CrateHelpersModel" "scheduled" "I") (by decide +kernel)) (fun _ h9 => h9) rfl (by decide +kernel) rfl rfl dX7_turn_58 (fun H locs hP hS => ?_)
        obtain ⟨I9, eI9, h⟩ := bd_e h
        rw [← eI9] at hP
        have hP : va_P D vwCl (VW K ad I9 G A8 L) H := hP
        refine lv_aload_n hx hb dX7_turn_61 rfl (lv_at hl 0 rfl) ?_
        refine vgI hx hb hts hi7 hown hK hP (318) (by decide) (show kd 318 = 7 by decide) (C := RX7) (T := TX7) (N := 79) rfl 18 (by decide) (by decide) (by decide) (by decide) (hts (.fieldLink RX7 243 "CrateHelpersModel" "scheduled" "I") (by decide +kernel)) (fun _ h9 => h9) dX7_turn_62 ?_
        exact W.iret (v := (I9 318 18)) hx hb hr (fun t9 ht9 hW9 => ⟨⟨(I9 318 18), (I9, G, A8, L), rfl, by cases h; exact ⟨rfl, rfl⟩, by rw [ht9]; exact hP, va_K.moved hW9.alike hK⟩, hS.F ht9⟩) hS.2.2 dX7_turn_65
      · have h := ip c_6 h
        refine lv_bipush (v := (-3)) hx hb dX7_turn_38 (by decide) ?_
        exact W.iret (v := (-3)) hx hb hr (fun t9 ht9 hW9 => ⟨⟨(-3), (I1, G, A, L), rfl, by cases h; exact ⟨rfl, rfl⟩, by rw [ht9]; exact hP, va_K.moved hW9.alike hK⟩, hS.F ht9⟩) hS.2.2 dX7_turn_40
    · have h := iN c_5 h
      refine lv_bipush (v := (-2)) hx hb dX7_turn_25 (by decide) ?_
      exact W.iret (v := (-2)) hx hb hr (fun t9 ht9 hW9 => ⟨⟨(-2), (I1, G, A, L), rfl, by cases h; exact ⟨rfl, rfl⟩, by rw [ht9]; exact hP, va_K.moved hW9.alike hK⟩, hS.F ht9⟩) hS.2.2 dX7_turn_27
  · have h := ip c_4 h
    refine lv_iconst (v := (-1)) hx hb dX7_turn_14 (by decide) ?_
    exact W.iret (v := (-1)) hx hb hr (fun t9 ht9 hW9 => ⟨⟨(-1), (I1, G, A, L), rfl, by cases h; exact ⟨rfl, rfl⟩, by rw [ht9]; exact hP, va_K.moved hW9.alike hK⟩, hS.F ht9⟩) hS.2.2 dX7_turn_15
set_option maxHeartbeats 4000000 in
set_option maxRecDepth 100000 in
theorem e_X7_variable (l : Launch) (D : va_G) (K : Nat → ClassId) (ad : Nat → Nat) (hap0 : apart ad (fun _ => True)) (a1 : Int32) (a2 : Int32) (a3 : Int32) (I : Nat → Nat → Int32) (G : Nat → Nat → Nat) (A : Nat → Nat → Int32) (L : Nat → Nat → Int64) (r0 : Int32) (I0 : Nat → Nat → Int32) (A0 : Nat → Nat → Int32) (h : f_X7_variable I A a1 a2 a3 = some (r0, I0, A0)) : Ci l D K ad yX7_variable wsX7_variable 2 49 [.ref (ad 318), .int a1, .int a2, .int a3] (I, G, A, L) (fun (r : Int32) (u : Mem) => r = r0 ∧ u = (I0, G, A0, L)) := by
  intro sz
  refine Met.ofW (cc := cX7_variable) (maxL := 5) (ret := (some .int)) (by decide) rfl ?_
  intro p e s m args below meth c s₁ Bd hml hv0
  obtain ⟨rfl, hsz, hP, hK⟩ := hv0
  have hx := Bd.exec
  have hb := Bd.bytes
  have hr := Bd.returns
  have hts := atoms_spec (ws := wsX7_variable) Bd.pre
  have hown : s.vm.findClass RX7 = some m.cls := findClass_of_methodNamed Bd.named
  have hlocks := Bd.notSynchronized
  have hi7 : ∀ w ∈ u_ws RX7 TX7 79, w ∈ wsX7_variable := fun w h => List.mem_cons_of_mem _ (List.mem_append_right _ h)
  subst hsz
  have hap := vF_ap hap0 s.heap.size
  have hS : va_S (vF ad s.heap.size) s.heap s.heap [] := va_S.rf
  have hP : va_P D vwCl (VW K ad I G A L) s.heap := hP
  have hl := lv_entry ([.ref (ad 318), .int a1, .int a2, .int a3]) (n := 5) (Nat.le_of_ble_eq_true rfl)
  rw [lg_entry_eq]
  generalize (lg_sl ([.ref (ad 318), .int a1, .int a2, .int a3]) ++ List.replicate (5 - (lg_sl ([.ref (ad 318), .int a1, .int a2, .int a3])).length) Slot.unset).toArray = ls at hl ⊢
  have hl : lv_has ls 5 [(0, .ref (ad 318)), (1, .int a1), (2, .int a2), (3, .int a3)] := hl
  rw [f_X7_variable] at h
  refine lv_aload_n hx hb dX7_variable_0 rfl (lv_at hl 0 rfl) ?_
  refine lv_iconst (v := 0) hx hb dX7_variable_1 (by decide) ?_
  refine vpI (v := 0) (ty := .int) hx hb hts hi7 tyX7 tyX7_ok nmX7 hown hK hP hap hS (318) (by decide) (show kd 318 = 7 by decide) (C := RX7) (T := TX7) (N := 79) rfl 0 (by decide) (by decide) (by decide) (by decide) (hts (.fieldLink RX7 201 "CrateHelpersModel" "thrown" "I") (by decide +kernel)) (fun _ h9 => h9) rfl (by decide +kernel) rfl rfl dX7_variable_2 (fun H locs hP hS => ?_)
  obtain ⟨I1, eI1, h⟩ := bd_e h
  rw [← eI1] at hP
  have hP : va_P D vwCl (VW K ad I1 G A L) H := hP
  refine lv_aload_n hx hb dX7_variable_5 rfl (lv_at hl 0 rfl) ?_
  refine lv_iload_n hx hb dX7_variable_6 rfl (lv_at hl 1 rfl) ?_
  obtain ⟨r2, hc3, h⟩ := Option.bind_eq_some_iff.mp h
  refine ecV (As := [.int a1]) (rest := []) ⟨hx, hb, hml, hown, hts⟩ (e_X7_isProblem l D K ad hap0 a1 I1 G A L r2 hc3) (cwV 1 hts gX7_variable_X7_isProblem rfl rfl rfl (by decide +kernel) ⟨Nat.le_of_ble_eq_true rfl, Nat.le_of_ble_eq_true rfl⟩) hK hP hS (by decide) (show kd 318 = 7 by decide) (by decide) rfl rfl rfl hl.1 (Nat.le_of_ble_eq_true rfl) (Nat.le_of_ble_eq_true rfl) (Nat.le_of_ble_eq_true rfl) dX7_variable_7 (fun H locs hP hS => ?_) rfl
  have hP : va_P D vwCl (VW K ad I1 G A L) H := hP
  refine lv_if_eq (tgt := 32) hx hb dX7_variable_10 (by decide) (fun c_4 => ?_) (fun c_4 => ?_)
  · have h := ip c_4 h
    refine lv_iconst (v := (-1)) hx hb dX7_variable_32 (by decide) ?_
    exact W.iret (v := (-1)) hx hb hr (fun t9 ht9 hW9 => ⟨⟨(-1), (I1, G, A, L), rfl, by cases h; exact ⟨rfl, rfl⟩, by rw [ht9]; exact hP, va_K.moved hW9.alike hK⟩, hS.F ht9⟩) hS.2.2 dX7_variable_33
  · have h := iN c_4 h
    refine lv_iload_n hx hb dX7_variable_13 rfl (lv_at hl 2 rfl) ?_
    refine lv_iconst (v := 1) hx hb dX7_variable_14 (by decide) ?_
    refine lv_bipush (v := 6) hx hb dX7_variable_15 (by decide) ?_
    obtain ⟨r5, hc6, h⟩ := Option.bind_eq_some_iff.mp h
    refine ecS (As := [.int a2, .int 1, .int 6]) (rest := []) ⟨hx, hb, hml, hown, hts⟩ (e_X7_in l D K ad hap0 a2 1 6 I1 G A L r5 hc6) (va_cwS 3 hts gX7_variable_X7_in rfl rfl rfl (by decide +kernel) ⟨Nat.le_of_ble_eq_true rfl, Nat.le_of_ble_eq_true rfl⟩) hK hP hS rfl hl.1 (Nat.le_of_ble_eq_true rfl) (Nat.le_of_ble_eq_true rfl) (Nat.le_of_ble_eq_true rfl) dX7_variable_17 (fun H locs hP hS => ?_) rfl
    have hP : va_P D vwCl (VW K ad I1 G A L) H := hP
    refine lv_if_eq (tgt := 32) hx hb dX7_variable_20 (by decide) (fun c_7 => ?_) (fun c_7 => ?_)
    · have h := ip c_7 h
      refine lv_iconst (v := (-1)) hx hb dX7_variable_32 (by decide) ?_
      exact W.iret (v := (-1)) hx hb hr (fun t9 ht9 hW9 => ⟨⟨(-1), (I1, G, A, L), rfl, by cases h; exact ⟨rfl, rfl⟩, by rw [ht9]; exact hP, va_K.moved hW9.alike hK⟩, hS.F ht9⟩) hS.2.2 dX7_variable_33
    · have h := iN c_7 h
      refine lv_iload_n hx hb dX7_variable_23 rfl (lv_at hl 3 rfl) ?_
      refine lv_iconst (v := 0) hx hb dX7_variable_24 (by decide) ?_
      refine lv_iconst (v := 3) hx hb dX7_variable_25 (by decide) ?_
      obtain ⟨r8, hc9, h⟩ := Option.bind_eq_some_iff.mp h
      refine ecS (As := [.int a3, .int 0, .int 3]) (rest := []) ⟨hx, hb, hml, hown, hts⟩ (e_X7_in l D K ad hap0 a3 0 3 I1 G A L r8 hc9) (va_cwS 3 hts gX7_variable_X7_in rfl rfl rfl (by decide +kernel) ⟨Nat.le_of_ble_eq_true rfl, Nat.le_of_ble_eq_true rfl⟩) hK hP hS rfl hl.1 (Nat.le_of_ble_eq_true rfl) (Nat.le_of_ble_eq_true rfl) (Nat.le_of_ble_eq_true rfl) dX7_variable_26 (fun H locs hP hS => ?_) rfl
      have hP : va_P D vwCl (VW K ad I1 G A L) H := hP
      refine lv_if_ne (tgt := 34) hx hb dX7_variable_29 (by decide) (fun c_10 => ?_) (fun c_10 => ?_)
      · have h := iN c_10 h
        refine lv_aload_n hx hb dX7_variable_34 rfl (lv_at hl 0 rfl) ?_
        refine vgI hx hb hts hi7 hown hK hP (318) (by decide) (show kd 318 = 7 by decide) (C := RX7) (T := TX7) (N := 79) rfl 23 (by decide) (by decide) (by decide) (by decide) (hts (.fieldLink RX7 62 "CrateHelpersModel" "under" "I") (by decide +kernel)) (fun _ h9 => h9) dX7_variable_35 ?_
        refine lv_bipush (v := (-9)) hx hb dX7_variable_38 (by decide) ?_
        refine lv_icmp_eq (tgt := 46) hx hb dX7_variable_40 (by decide) (fun c_11 => ?_) (fun c_11 => ?_)
        · have h := ip c_11 h
          refine lv_aload_n hx hb dX7_variable_46 rfl (lv_at hl 0 rfl) ?_
          refine vgC hx hb hts hi7 hown hK hP (318) (by decide) (show kd 318 = 7 by decide) (C := RX7) (T := TX7) (N := 79) rfl 3 (by decide) (by decide) (by decide) (by decide) (319) rfl (hts (.fieldLink RX7 7 "CrateHelpersModel" "variables" "[I") (by decide +kernel)) (fun _ h9 => h9) dX7_variable_47 ?_
          refine lv_iload_n hx hb dX7_variable_50 rfl (lv_at hl 1 rfl) ?_
          obtain ⟨hn12, h⟩ := gk h
          refine xiald hx hb hK hP (319) (by decide) (show kd 319 = 8 by decide) (by rw [show ln 319 = 5 by decide]; exact hn12) dX7_variable_51 ?_
          refine lv_bipush (v := 6) hx hb dX7_variable_52 (by decide) ?_
          refine lv_icmp_ne (tgt := 60) hx hb dX7_variable_54 (by decide) (fun c_13 => ?_) (fun c_13 => ?_)
          · have h := iN c_13 h
            refine lv_aload_n hx hb dX7_variable_60 rfl (lv_at hl 0 rfl) ?_
            refine vgC hx hb hts hi7 hown hK hP (318) (by decide) (show kd 318 = 7 by decide) (C := RX7) (T := TX7) (N := 79) rfl 3 (by decide) (by decide) (by decide) (by decide) (319) rfl (hts (.fieldLink RX7 7 "CrateHelpersModel" "variables" "[I") (by decide +kernel)) (fun _ h9 => h9) dX7_variable_61 ?_
            refine lv_iload_n hx hb dX7_variable_64 rfl (lv_at hl 1 rfl) ?_
            refine xiald hx hb hK hP (319) (by decide) (show kd 319 = 8 by decide) (by rw [show ln 319 = 5 by decide]; exact hn12) dX7_variable_65 ?_
            refine lv_istore (lv' := [(4, .int (A 319 a1.toNatClampNeg)), (0, .ref (ad 318)), (1, .int a1), (2, .int a2), (3, .int a3)]) hx hb dX7_variable_66 hl (by decide) rfl (fun ls hl => ?_)
            refine lv_aload_n hx hb dX7_variable_68 rfl (lv_at hl 1 rfl) ?_
            refine vgC hx hb hts hi7 hown hK hP (318) (by decide) (show kd 318 = 7 by decide) (C := RX7) (T := TX7) (N := 79) rfl 5 (by decide) (by decide) (by decide) (by decide) (321) rfl (hts (.fieldLink RX7 16 "CrateHelpersModel" "values" "[I") (by decide +kernel)) (fun _ h9 => h9) dX7_variable_69 ?_
            refine lv_bipush (v := 6) hx hb dX7_variable_72 (by decide) ?_
            refine lv_iload_n hx hb dX7_variable_74 rfl (lv_at hl 2 rfl) ?_
            refine lv_imul hx hb dX7_variable_75 ?_
            refine lv_iload hx hb dX7_variable_76 (lv_at hl 0 rfl) ?_
            refine lv_iadd hx hb dX7_variable_78 ?_
            refine lv_iload_n hx hb dX7_variable_79 rfl (lv_at hl 3 rfl) ?_
            obtain ⟨hn14, h⟩ := gk h
            refine xiast hx hb hK hP hap hS (321) (by decide) (show kd 321 = 8 by decide) (by rw [show ln 321 = 30 by decide]; exact hn14) dX7_variable_80 (fun H locs hP hS => ?_)
            obtain ⟨A15, eA15, h⟩ := bd_e h
            rw [← eA15] at hP
            have hP : va_P D vwCl (VW K ad I1 G A15 L) H := hP
            refine lv_aload_n hx hb dX7_variable_81 rfl (lv_at hl 1 rfl) ?_
            refine vgC hx hb hts hi7 hown hK hP (318) (by decide) (show kd 318 = 7 by decide) (C := RX7) (T := TX7) (N := 79) rfl 6 (by decide) (by decide) (by decide) (by decide) (322) rfl (hts (.fieldLink RX7 19 "CrateHelpersModel" "kinds" "[I") (by decide +kernel)) (fun _ h9 => h9) dX7_variable_82 ?_
            refine lv_bipush (v := 6) hx hb dX7_variable_85 (by decide) ?_
            refine lv_iload_n hx hb dX7_variable_87 rfl (lv_at hl 2 rfl) ?_
            refine lv_imul hx hb dX7_variable_88 ?_
            refine lv_iload hx hb dX7_variable_89 (lv_at hl 0 rfl) ?_
            refine lv_iadd hx hb dX7_variable_91 ?_
            refine lv_iload_n hx hb dX7_variable_92 rfl (lv_at hl 4 rfl) ?_
            refine xiast hx hb hK hP hap hS (322) (by decide) (show kd 322 = 8 by decide) (by rw [show ln 322 = 30 by decide]; exact hn14) dX7_variable_93 (fun H locs hP hS => ?_)
            obtain ⟨A16, eA16, h⟩ := bd_e h
            rw [← eA16] at hP
            have hP : va_P D vwCl (VW K ad I1 G A16 L) H := hP
            refine lv_aload_n hx hb dX7_variable_94 rfl (lv_at hl 1 rfl) ?_
            refine vgC hx hb hts hi7 hown hK hP (318) (by decide) (show kd 318 = 7 by decide) (C := RX7) (T := TX7) (N := 79) rfl 3 (by decide) (by decide) (by decide) (by decide) (319) rfl (hts (.fieldLink RX7 7 "CrateHelpersModel" "variables" "[I") (by decide +kernel)) (fun _ h9 => h9) dX7_variable_95 ?_
            refine lv_iload_n hx hb dX7_variable_98 rfl (lv_at hl 2 rfl) ?_
            refine lv_dup2_11 hx hb dX7_variable_99 rfl rfl ?_
            refine xiald hx hb hK hP (319) (by decide) (show kd 319 = 8 by decide) (by rw [show ln 319 = 5 by decide]; exact hn12) dX7_variable_100 ?_
            refine lv_iconst (v := 1) hx hb dX7_variable_101 (by decide) ?_
            refine lv_iadd hx hb dX7_variable_102 ?_
            refine xiast hx hb hK hP hap hS (319) (by decide) (show kd 319 = 8 by decide) (by rw [show ln 319 = 5 by decide]; exact hn12) dX7_variable_103 (fun H locs hP hS => ?_)
            obtain ⟨A17, eA17, h⟩ := bd_e h
            rw [← eA17] at hP
            have hP : va_P D vwCl (VW K ad I1 G A17 L) H := hP
            refine lv_aload_n hx hb dX7_variable_104 rfl (lv_at hl 1 rfl) ?_
            refine lv_iload_n hx hb dX7_variable_105 rfl (lv_at hl 2 rfl) ?_
            obtain ⟨⟨I18, A19⟩, hc20, h⟩ := Option.bind_eq_some_iff.mp h
            refine ecVv (As := [.int a1]) (rest := []) ⟨hx, hb, hml, hown, hts⟩ (e_X7_changes l D K ad hap0 a1 I1 G A17 L I18 A19 hc20) (cwV 1 hts gX7_variable_X7_changes rfl rfl rfl (by decide +kernel) ⟨Nat.le_of_ble_eq_true rfl, Nat.le_of_ble_eq_true rfl⟩) hK hP hS (by decide) (show kd 318 = 7 by decide) (by decide) rfl rfl rfl hl.1 (Nat.le_of_ble_eq_true rfl) (Nat.le_of_ble_eq_true rfl) (Nat.le_of_ble_eq_true rfl) dX7_variable_106 (fun H locs hP hS => ?_) rfl
            have hP : va_P D vwCl (VW K ad I18 G A19 L) H := hP
            refine lv_iload hx hb dX7_variable_109 (lv_at hl 0 rfl) ?_
            exact W.iret (v := (A 319 a1.toNatClampNeg)) hx hb hr (fun t9 ht9 hW9 => ⟨⟨(A 319 a1.toNatClampNeg), (I18, G, A19, L), rfl, by cases h; exact ⟨rfl, rfl⟩, by rw [ht9]; exact hP, va_K.moved hW9.alike hK⟩, hS.F ht9⟩) hS.2.2 dX7_variable_111
          · have h := ip c_13 h
            refine lv_bipush (v := (-3)) hx hb dX7_variable_57 (by decide) ?_
            exact W.iret (v := (-3)) hx hb hr (fun t9 ht9 hW9 => ⟨⟨(-3), (I1, G, A, L), rfl, by cases h; exact ⟨rfl, rfl⟩, by rw [ht9]; exact hP, va_K.moved hW9.alike hK⟩, hS.F ht9⟩) hS.2.2 dX7_variable_59
        · have h := iN c_11 h
          refine lv_bipush (v := (-2)) hx hb dX7_variable_43 (by decide) ?_
          exact W.iret (v := (-2)) hx hb hr (fun t9 ht9 hW9 => ⟨⟨(-2), (I1, G, A, L), rfl, by cases h; exact ⟨rfl, rfl⟩, by rw [ht9]; exact hP, va_K.moved hW9.alike hK⟩, hS.F ht9⟩) hS.2.2 dX7_variable_45
      · have h := ip c_10 h
        refine lv_iconst (v := (-1)) hx hb dX7_variable_32 (by decide) ?_
        exact W.iret (v := (-1)) hx hb hr (fun t9 ht9 hW9 => ⟨⟨(-1), (I1, G, A, L), rfl, by cases h; exact ⟨rfl, rfl⟩, by rw [ht9]; exact hP, va_K.moved hW9.alike hK⟩, hS.F ht9⟩) hS.2.2 dX7_variable_33
set_option maxHeartbeats 4000000 in
set_option maxRecDepth 100000 in
theorem e_X7_walked (l : Launch) (D : va_G) (K : Nat → ClassId) (ad : Nat → Nat) (hap0 : apart ad (fun _ => True)) (a1 : Int32) (a2 : Int32) (I : Nat → Nat → Int32) (G : Nat → Nat → Nat) (A : Nat → Nat → Int32) (L : Nat → Nat → Int64) (r0 : Int32) (I0 : Nat → Nat → Int32) (h : f_X7_walked I A a1 a2 = some (r0, I0)) : Ci l D K ad yX7_walked wsX7_walked 1 25 [.ref (ad 318), .int a1, .int a2] (I, G, A, L) (fun (r : Int32) (u : Mem) => r = r0 ∧ u = (I0, G, A, L)) := by
  intro sz
  refine Met.ofW (cc := cX7_walked) (maxL := 3) (ret := (some .int)) (by decide) rfl ?_
  intro p e s m args below meth c s₁ Bd hml hv0
  obtain ⟨rfl, hsz, hP, hK⟩ := hv0
  have hx := Bd.exec
  have hb := Bd.bytes
  have hr := Bd.returns
  have hts := atoms_spec (ws := wsX7_walked) Bd.pre
  have hown : s.vm.findClass RX7 = some m.cls := findClass_of_methodNamed Bd.named
  have hlocks := Bd.notSynchronized
  have hi7 : ∀ w ∈ u_ws RX7 TX7 79, w ∈ wsX7_walked := fun w h => List.mem_cons_of_mem _ (List.mem_append_right _ h)
  subst hsz
  have hap := vF_ap hap0 s.heap.size
  have hS : va_S (vF ad s.heap.size) s.heap s.heap [] := va_S.rf
  have hP : va_P D vwCl (VW K ad I G A L) s.heap := hP
  have hl := lv_entry ([.ref (ad 318), .int a1, .int a2]) (n := 3) (Nat.le_of_ble_eq_true rfl)
  rw [lg_entry_eq]
  generalize (lg_sl ([.ref (ad 318), .int a1, .int a2]) ++ List.replicate (3 - (lg_sl ([.ref (ad 318), .int a1, .int a2])).length) Slot.unset).toArray = ls at hl ⊢
  have hl : lv_has ls 3 [(0, .ref (ad 318)), (1, .int a1), (2, .int a2)] := hl
  rw [f_X7_walked] at h
  refine lv_aload_n hx hb dX7_walked_0 rfl (lv_at hl 0 rfl) ?_
  refine lv_iconst (v := 0) hx hb dX7_walked_1 (by decide) ?_
  refine vpI (v := 0) (ty := .int) hx hb hts hi7 tyX7 tyX7_ok nmX7 hown hK hP hap hS (318) (by decide) (show kd 318 = 7 by decide) (C := RX7) (T := TX7) (N := 79) rfl 0 (by decide) (by decide) (by decide) (by decide) (hts (.fieldLink RX7 201 "CrateHelpersModel" "thrown" "I") (by decide +kernel)) (fun _ h9 => h9) rfl (by decide +kernel) rfl rfl dX7_walked_2 (fun H locs hP hS => ?_)
  obtain ⟨I1, eI1, h⟩ := bd_e h
  rw [← eI1] at hP
  have hP : va_P D vwCl (VW K ad I1 G A L) H := hP
  refine lv_iload_n hx hb dX7_walked_5 rfl (lv_at hl 2 rfl) ?_
  refine lv_iconst (v := 0) hx hb dX7_walked_6 (by decide) ?_
  refine lv_bipush (v := 9) hx hb dX7_walked_7 (by decide) ?_
  obtain ⟨r2, hc3, h⟩ := Option.bind_eq_some_iff.mp h
  refine ecS (As := [.int a2, .int 0, .int 9]) (rest := []) ⟨hx, hb, hml, hown, hts⟩ (e_X7_in l D K ad hap0 a2 0 9 I1 G A L r2 hc3) (va_cwS 3 hts gX7_walked_X7_in rfl rfl rfl (by decide +kernel) ⟨Nat.le_of_ble_eq_true rfl, Nat.le_of_ble_eq_true rfl⟩) hK hP hS rfl hl.1 (Nat.le_of_ble_eq_true rfl) (Nat.le_of_ble_eq_true rfl) (Nat.le_of_ble_eq_true rfl) dX7_walked_9 (fun H locs hP hS => ?_) rfl
  have hP : va_P D vwCl (VW K ad I1 G A L) H := hP
  refine lv_if_ne (tgt := 17) hx hb dX7_walked_12 (by decide) (fun c_4 => ?_) (fun c_4 => ?_)
  · have h := iN c_4 h
    refine lv_iload_n hx hb dX7_walked_17 rfl (lv_at hl 1 rfl) ?_
    refine lv_iconst (v := 0) hx hb dX7_walked_18 (by decide) ?_
    refine lv_aload_n hx hb dX7_walked_19 rfl (lv_at hl 0 rfl) ?_
    refine vgI hx hb hts hi7 hown hK hP (318) (by decide) (show kd 318 = 7 by decide) (C := RX7) (T := TX7) (N := 79) rfl 48 (by decide) (by decide) (by decide) (by decide) (hts (.fieldLink RX7 313 "CrateHelpersModel" "walked" "I") (by decide +kernel)) (fun _ h9 => h9) dX7_walked_20 ?_
    refine lv_iconst (v := 1) hx hb dX7_walked_23 (by decide) ?_
    refine lv_isub hx hb dX7_walked_24 ?_
    obtain ⟨r5, hc6, h⟩ := Option.bind_eq_some_iff.mp h
    refine ecS (As := [.int a1, .int 0, .int ((I1 318 48) - 1)]) (rest := []) ⟨hx, hb, hml, hown, hts⟩ (e_X7_in l D K ad hap0 a1 0 ((I1 318 48) - 1) I1 G A L r5 hc6) (va_cwS 3 hts gX7_walked_X7_in rfl rfl rfl (by decide +kernel) ⟨Nat.le_of_ble_eq_true rfl, Nat.le_of_ble_eq_true rfl⟩) hK hP hS rfl hl.1 (Nat.le_of_ble_eq_true rfl) (Nat.le_of_ble_eq_true rfl) (Nat.le_of_ble_eq_true rfl) dX7_walked_25 (fun H locs hP hS => ?_) rfl
    have hP : va_P D vwCl (VW K ad I1 G A L) H := hP
    refine lv_if_ne (tgt := 34) hx hb dX7_walked_28 (by decide) (fun c_7 => ?_) (fun c_7 => ?_)
    · have h := iN c_7 h
      refine lv_iload_n hx hb dX7_walked_34 rfl (lv_at hl 2 rfl) ?_
      refine lv_if_ne (tgt := 47) hx hb dX7_walked_35 (by decide) (fun c_8 => ?_) (fun c_8 => ?_)
      · have h := iN c_8 h
        refine lv_iload_n hx hb dX7_walked_47 rfl (lv_at hl 2 rfl) ?_
        refine lv_bipush (v := 7) hx hb dX7_walked_48 (by decide) ?_
        refine lv_icmp_ge (tgt := 69) hx hb dX7_walked_50 (by decide) (fun c_9 => ?_) (fun c_9 => ?_)
        · have h := iN (Int32.not_lt.mpr c_9) h
          refine lv_iload_n hx hb dX7_walked_69 rfl (lv_at hl 2 rfl) ?_
          refine lv_bipush (v := 7) hx hb dX7_walked_70 (by decide) ?_
          refine lv_icmp_ne (tgt := 84) hx hb dX7_walked_72 (by decide) (fun c_10 => ?_) (fun c_10 => ?_)
          · have h := iN c_10 h
            refine lv_iload_n hx hb dX7_walked_84 rfl (lv_at hl 2 rfl) ?_
            refine lv_bipush (v := 8) hx hb dX7_walked_85 (by decide) ?_
            refine lv_icmp_ne (tgt := 99) hx hb dX7_walked_87 (by decide) (fun c_11 => ?_) (fun c_11 => ?_)
            · have h := iN c_11 h
              refine lv_aload_n hx hb dX7_walked_99 rfl (lv_at hl 0 rfl) ?_
              refine vgC hx hb hts hi7 hown hK hP (318) (by decide) (show kd 318 = 7 by decide) (C := RX7) (T := TX7) (N := 79) rfl 53 (by decide) (by decide) (by decide) (by decide) (358) rfl (hts (.fieldLink RX7 135 "CrateHelpersModel" "walkedOpen" "[I") (by decide +kernel)) (fun _ h9 => h9) dX7_walked_100 ?_
              refine lv_iload_n hx hb dX7_walked_103 rfl (lv_at hl 1 rfl) ?_
              obtain ⟨hn12, h⟩ := gk h
              refine xiald hx hb hK hP (358) (by decide) (show kd 358 = 8 by decide) (by rw [show ln 358 = 250 by decide]; exact hn12) dX7_walked_104 ?_
              exact W.iret (v := (A 358 a1.toNatClampNeg)) hx hb hr (fun t9 ht9 hW9 => ⟨⟨(A 358 a1.toNatClampNeg), (I1, G, A, L), rfl, by cases h; exact ⟨rfl, rfl⟩, by rw [ht9]; exact hP, va_K.moved hW9.alike hK⟩, hS.F ht9⟩) hS.2.2 dX7_walked_105
            · have h := ip c_11 h
              refine lv_aload_n hx hb dX7_walked_90 rfl (lv_at hl 0 rfl) ?_
              refine vgC hx hb hts hi7 hown hK hP (318) (by decide) (show kd 318 = 7 by decide) (C := RX7) (T := TX7) (N := 79) rfl 52 (by decide) (by decide) (by decide) (by decide) (357) rfl (hts (.fieldLink RX7 132 "CrateHelpersModel" "walkedBy" "[I") (by decide +kernel)) (fun _ h9 => h9) dX7_walked_91 ?_
              refine lv_iload_n hx hb dX7_walked_94 rfl (lv_at hl 1 rfl) ?_
              obtain ⟨hn13, h⟩ := gk h
              refine xiald hx hb hK hP (357) (by decide) (show kd 357 = 8 by decide) (by rw [show ln 357 = 250 by decide]; exact hn13) dX7_walked_95 ?_
              refine lv_goto (tgt := 105) hx hb dX7_walked_96 (by decide) ?_
              exact W.iret (v := (A 357 a1.toNatClampNeg)) hx hb hr (fun t9 ht9 hW9 => ⟨⟨(A 357 a1.toNatClampNeg), (I1, G, A, L), rfl, by cases h; exact ⟨rfl, rfl⟩, by rw [ht9]; exact hP, va_K.moved hW9.alike hK⟩, hS.F ht9⟩) hS.2.2 dX7_walked_105
          · have h := ip c_10 h
            refine lv_aload_n hx hb dX7_walked_75 rfl (lv_at hl 0 rfl) ?_
            refine vgC hx hb hts hi7 hown hK hP (318) (by decide) (show kd 318 = 7 by decide) (C := RX7) (T := TX7) (N := 79) rfl 51 (by decide) (by decide) (by decide) (by decide) (356) rfl (hts (.fieldLink RX7 129 "CrateHelpersModel" "walkedBound" "[I") (by decide +kernel)) (fun _ h9 => h9) dX7_walked_76 ?_
            refine lv_iload_n hx hb dX7_walked_79 rfl (lv_at hl 1 rfl) ?_
            obtain ⟨hn14, h⟩ := gk h
            refine xiald hx hb hK hP (356) (by decide) (show kd 356 = 8 by decide) (by rw [show ln 356 = 250 by decide]; exact hn14) dX7_walked_80 ?_
            refine lv_goto (tgt := 105) hx hb dX7_walked_81 (by decide) ?_
            exact W.iret (v := (A 356 a1.toNatClampNeg)) hx hb hr (fun t9 ht9 hW9 => ⟨⟨(A 356 a1.toNatClampNeg), (I1, G, A, L), rfl, by cases h; exact ⟨rfl, rfl⟩, by rw [ht9]; exact hP, va_K.moved hW9.alike hK⟩, hS.F ht9⟩) hS.2.2 dX7_walked_105
        · have h := ip (Int32.not_le.mp c_9) h
          refine lv_aload_n hx hb dX7_walked_53 rfl (lv_at hl 0 rfl) ?_
          refine vgC hx hb hts hi7 hown hK hP (318) (by decide) (show kd 318 = 7 by decide) (C := RX7) (T := TX7) (N := 79) rfl 50 (by decide) (by decide) (by decide) (by decide) (355) rfl (hts (.fieldLink RX7 126 "CrateHelpersModel" "walkedRow" "[I") (by decide +kernel)) (fun _ h9 => h9) dX7_walked_54 ?_
          refine lv_bipush (v := 6) hx hb dX7_walked_57 (by decide) ?_
          refine lv_iload_n hx hb dX7_walked_59 rfl (lv_at hl 1 rfl) ?_
          refine lv_imul hx hb dX7_walked_60 ?_
          refine lv_iload_n hx hb dX7_walked_61 rfl (lv_at hl 2 rfl) ?_
          refine lv_iadd hx hb dX7_walked_62 ?_
          refine lv_iconst (v := 1) hx hb dX7_walked_63 (by decide) ?_
          refine lv_isub hx hb dX7_walked_64 ?_
          obtain ⟨hn15, h⟩ := gk h
          refine xiald hx hb hK hP (355) (by decide) (show kd 355 = 8 by decide) (by rw [show ln 355 = 1500 by decide]; exact hn15) dX7_walked_65 ?_
          refine lv_goto (tgt := 105) hx hb dX7_walked_66 (by decide) ?_
          exact W.iret (v := (A 355 ((((6 * a1) + a2) - 1).toNatClampNeg))) hx hb hr (fun t9 ht9 hW9 => ⟨⟨(A 355 ((((6 * a1) + a2) - 1).toNatClampNeg)), (I1, G, A, L), rfl, by cases h; exact ⟨rfl, rfl⟩, by rw [ht9]; exact hP, va_K.moved hW9.alike hK⟩, hS.F ht9⟩) hS.2.2 dX7_walked_105
      · have h := ip c_8 h
        refine lv_aload_n hx hb dX7_walked_38 rfl (lv_at hl 0 rfl) ?_
        refine vgC hx hb hts hi7 hown hK hP (318) (by decide) (show kd 318 = 7 by decide) (C := RX7) (T := TX7) (N := 79) rfl 49 (by decide) (by decide) (by decide) (by decide) (354) rfl (hts (.fieldLink RX7 123 "CrateHelpersModel" "walkedDepth" "[I") (by decide +kernel)) (fun _ h9 => h9) dX7_walked_39 ?_
        refine lv_iload_n hx hb dX7_walked_42 rfl (lv_at hl 1 rfl) ?_
        obtain ⟨hn16, h⟩ := gk h
        refine xiald hx hb hK hP (354) (by decide) (show kd 354 = 8 by decide) (by rw [show ln 354 = 250 by decide]; exact hn16) dX7_walked_43 ?_
        refine lv_goto (tgt := 105) hx hb dX7_walked_44 (by decide) ?_
        exact W.iret (v := (A 354 a1.toNatClampNeg)) hx hb hr (fun t9 ht9 hW9 => ⟨⟨(A 354 a1.toNatClampNeg), (I1, G, A, L), rfl, by cases h; exact ⟨rfl, rfl⟩, by rw [ht9]; exact hP, va_K.moved hW9.alike hK⟩, hS.F ht9⟩) hS.2.2 dX7_walked_105
    · have h := ip c_7 h
      refine lv_bipush (v := (-9)) hx hb dX7_walked_31 (by decide) ?_
      exact W.iret (v := (-9)) hx hb hr (fun t9 ht9 hW9 => ⟨⟨(-9), (I1, G, A, L), rfl, by cases h; exact ⟨rfl, rfl⟩, by rw [ht9]; exact hP, va_K.moved hW9.alike hK⟩, hS.F ht9⟩) hS.2.2 dX7_walked_33
  · have h := ip c_4 h
    refine lv_iconst (v := (-1)) hx hb dX7_walked_15 (by decide) ?_
    exact W.iret (v := (-1)) hx hb hr (fun t9 ht9 hW9 => ⟨⟨(-1), (I1, G, A, L), rfl, by cases h; exact ⟨rfl, rfl⟩, by rw [ht9]; exact hP, va_K.moved hW9.alike hK⟩, hS.F ht9⟩) hS.2.2 dX7_walked_16
set_option maxHeartbeats 4000000 in
set_option maxRecDepth 100000 in
theorem e_X7_with (l : Launch) (D : va_G) (K : Nat → ClassId) (ad : Nat → Nat) (hap0 : apart ad (fun _ => True)) (a1 : Int32) (I : Nat → Nat → Int32) (G : Nat → Nat → Nat) (A : Nat → Nat → Int32) (L : Nat → Nat → Int64) (r0 : Int32) (I0 : Nat → Nat → Int32) (A0 : Nat → Nat → Int32) (h : f_X7_with I A a1 = some (r0, I0, A0)) : Ci l D K ad yX7_with wsX7_with 1 25 [.ref (ad 318), .int a1] (I, G, A, L) (fun (r : Int32) (u : Mem) => r = r0 ∧ u = (I0, G, A0, L)) := by
  intro sz
  refine Met.ofW (cc := cX7_with) (maxL := 2) (ret := (some .int)) (by decide) rfl ?_
  intro p e s m args below meth c s₁ Bd hml hv0
  obtain ⟨rfl, hsz, hP, hK⟩ := hv0
  have hx := Bd.exec
  have hb := Bd.bytes
  have hr := Bd.returns
  have hts := atoms_spec (ws := wsX7_with) Bd.pre
  have hown : s.vm.findClass RX7 = some m.cls := findClass_of_methodNamed Bd.named
  have hlocks := Bd.notSynchronized
  have hi7 : ∀ w ∈ u_ws RX7 TX7 79, w ∈ wsX7_with := fun w h => List.mem_cons_of_mem _ (List.mem_append_right _ h)
  subst hsz
  have hap := vF_ap hap0 s.heap.size
  have hS : va_S (vF ad s.heap.size) s.heap s.heap [] := va_S.rf
  have hP : va_P D vwCl (VW K ad I G A L) s.heap := hP
  have hl := lv_entry ([.ref (ad 318), .int a1]) (n := 2) (Nat.le_of_ble_eq_true rfl)
  rw [lg_entry_eq]
  generalize (lg_sl ([.ref (ad 318), .int a1]) ++ List.replicate (2 - (lg_sl ([.ref (ad 318), .int a1])).length) Slot.unset).toArray = ls at hl ⊢
  have hl : lv_has ls 2 [(0, .ref (ad 318)), (1, .int a1)] := hl
  rw [f_X7_with] at h
  refine lv_aload_n hx hb dX7_with_0 rfl (lv_at hl 0 rfl) ?_
  refine lv_iconst (v := 0) hx hb dX7_with_1 (by decide) ?_
  refine vpI (v := 0) (ty := .int) hx hb hts hi7 tyX7 tyX7_ok nmX7 hown hK hP hap hS (318) (by decide) (show kd 318 = 7 by decide) (C := RX7) (T := TX7) (N := 79) rfl 0 (by decide) (by decide) (by decide) (by decide) (hts (.fieldLink RX7 201 "CrateHelpersModel" "thrown" "I") (by decide +kernel)) (fun _ h9 => h9) rfl (by decide +kernel) rfl rfl dX7_with_2 (fun H locs hP hS => ?_)
  obtain ⟨I1, eI1, h⟩ := bd_e h
  rw [← eI1] at hP
  have hP : va_P D vwCl (VW K ad I1 G A L) H := hP
  refine lv_aload_n hx hb dX7_with_5 rfl (lv_at hl 0 rfl) ?_
  refine vgI hx hb hts hi7 hown hK hP (318) (by decide) (show kd 318 = 7 by decide) (C := RX7) (T := TX7) (N := 79) rfl 57 (by decide) (by decide) (by decide) (by decide) (hts (.fieldLink RX7 147 "CrateHelpersModel" "asked" "I") (by decide +kernel)) (fun _ h9 => h9) dX7_with_6 ?_
  refine lv_bipush (v := (-9)) hx hb dX7_with_9 (by decide) ?_
  refine lv_icmp_eq (tgt := 57) hx hb dX7_with_11 (by decide) (fun c_2 => ?_) (fun c_2 => ?_)
  · have h := ip c_2 h
    refine lv_iconst (v := (-1)) hx hb dX7_with_57 (by decide) ?_
    exact W.iret (v := (-1)) hx hb hr (fun t9 ht9 hW9 => ⟨⟨(-1), (I1, G, A, L), rfl, by cases h; exact ⟨rfl, rfl⟩, by rw [ht9]; exact hP, va_K.moved hW9.alike hK⟩, hS.F ht9⟩) hS.2.2 dX7_with_58
  · have h := iN c_2 h
    refine lv_aload_n hx hb dX7_with_14 rfl (lv_at hl 0 rfl) ?_
    refine vgI hx hb hts hi7 hown hK hP (318) (by decide) (show kd 318 = 7 by decide) (C := RX7) (T := TX7) (N := 79) rfl 59 (by decide) (by decide) (by decide) (by decide) (hts (.fieldLink RX7 342 "CrateHelpersModel" "askedDepth" "I") (by decide +kernel)) (fun _ h9 => h9) dX7_with_15 ?_
    refine lv_aload_n hx hb dX7_with_18 rfl (lv_at hl 0 rfl) ?_
    refine vgC hx hb hts hi7 hown hK hP (318) (by decide) (show kd 318 = 7 by decide) (C := RX7) (T := TX7) (N := 79) rfl 3 (by decide) (by decide) (by decide) (by decide) (319) rfl (hts (.fieldLink RX7 7 "CrateHelpersModel" "variables" "[I") (by decide +kernel)) (fun _ h9 => h9) dX7_with_19 ?_
    refine lv_aload_n hx hb dX7_with_22 rfl (lv_at hl 0 rfl) ?_
    refine vgI hx hb hts hi7 hown hK hP (318) (by decide) (show kd 318 = 7 by decide) (C := RX7) (T := TX7) (N := 79) rfl 57 (by decide) (by decide) (by decide) (by decide) (hts (.fieldLink RX7 147 "CrateHelpersModel" "asked" "I") (by decide +kernel)) (fun _ h9 => h9) dX7_with_23 ?_
    obtain ⟨hn3, h⟩ := gk h
    refine xiald hx hb hK hP (319) (by decide) (show kd 319 = 8 by decide) (by rw [show ln 319 = 5 by decide]; exact hn3) dX7_with_26 ?_
    refine lv_icmp_eq (tgt := 57) hx hb dX7_with_27 (by decide) (fun c_4 => ?_) (fun c_4 => ?_)
    · have h := ip c_4 h
      refine lv_iconst (v := (-1)) hx hb dX7_with_57 (by decide) ?_
      exact W.iret (v := (-1)) hx hb hr (fun t9 ht9 hW9 => ⟨⟨(-1), (I1, G, A, L), rfl, by cases h; exact ⟨rfl, rfl⟩, by rw [ht9]; exact hP, va_K.moved hW9.alike hK⟩, hS.F ht9⟩) hS.2.2 dX7_with_58
    · have h := iN c_4 h
      refine lv_iload_n hx hb dX7_with_30 rfl (lv_at hl 1 rfl) ?_
      refine lv_iconst (v := 0) hx hb dX7_with_31 (by decide) ?_
      refine lv_aload_n hx hb dX7_with_32 rfl (lv_at hl 0 rfl) ?_
      refine vgC hx hb hts hi7 hown hK hP (318) (by decide) (show kd 318 = 7 by decide) (C := RX7) (T := TX7) (N := 79) rfl 5 (by decide) (by decide) (by decide) (by decide) (321) rfl (hts (.fieldLink RX7 16 "CrateHelpersModel" "values" "[I") (by decide +kernel)) (fun _ h9 => h9) dX7_with_33 ?_
      refine lv_bipush (v := 6) hx hb dX7_with_36 (by decide) ?_
      refine lv_aload_n hx hb dX7_with_38 rfl (lv_at hl 0 rfl) ?_
      refine vgI hx hb hts hi7 hown hK hP (318) (by decide) (show kd 318 = 7 by decide) (C := RX7) (T := TX7) (N := 79) rfl 57 (by decide) (by decide) (by decide) (by decide) (hts (.fieldLink RX7 147 "CrateHelpersModel" "asked" "I") (by decide +kernel)) (fun _ h9 => h9) dX7_with_39 ?_
      refine lv_imul hx hb dX7_with_42 ?_
      refine lv_aload_n hx hb dX7_with_43 rfl (lv_at hl 0 rfl) ?_
      refine vgI hx hb hts hi7 hown hK hP (318) (by decide) (show kd 318 = 7 by decide) (C := RX7) (T := TX7) (N := 79) rfl 59 (by decide) (by decide) (by decide) (by decide) (hts (.fieldLink RX7 342 "CrateHelpersModel" "askedDepth" "I") (by decide +kernel)) (fun _ h9 => h9) dX7_with_44 ?_
      refine lv_iadd hx hb dX7_with_47 ?_
      obtain ⟨hn5, h⟩ := gk h
      refine xiald hx hb hK hP (321) (by decide) (show kd 321 = 8 by decide) (by rw [show ln 321 = 30 by decide]; exact hn5) dX7_with_48 ?_
      refine lv_iconst (v := 1) hx hb dX7_with_49 (by decide) ?_
      refine lv_isub hx hb dX7_with_50 ?_
      obtain ⟨r6, hc7, h⟩ := Option.bind_eq_some_iff.mp h
      refine ecS (As := [.int a1, .int 0, .int ((A 321 (((6 * (I1 318 57)) + (I1 318 59)).toNatClampNeg)) - 1)]) (rest := []) ⟨hx, hb, hml, hown, hts⟩ (e_X7_in l D K ad hap0 a1 0 ((A 321 (((6 * (I1 318 57)) + (I1 318 59)).toNatClampNeg)) - 1) I1 G A L r6 hc7) (va_cwS 3 hts gX7_with_X7_in rfl rfl rfl (by decide +kernel) ⟨Nat.le_of_ble_eq_true rfl, Nat.le_of_ble_eq_true rfl⟩) hK hP hS rfl hl.1 (Nat.le_of_ble_eq_true rfl) (Nat.le_of_ble_eq_true rfl) (Nat.le_of_ble_eq_true rfl) dX7_with_51 (fun H locs hP hS => ?_) rfl
      have hP : va_P D vwCl (VW K ad I1 G A L) H := hP
      refine lv_if_ne (tgt := 59) hx hb dX7_with_54 (by decide) (fun c_8 => ?_) (fun c_8 => ?_)
      · have h := iN c_8 h
        refine lv_aload_n hx hb dX7_with_59 rfl (lv_at hl 0 rfl) ?_
        refine vgC hx hb hts hi7 hown hK hP (318) (by decide) (show kd 318 = 7 by decide) (C := RX7) (T := TX7) (N := 79) rfl 60 (by decide) (by decide) (by decide) (by decide) (362) rfl (hts (.fieldLink RX7 150 "CrateHelpersModel" "askedRow" "[I") (by decide +kernel)) (fun _ h9 => h9) dX7_with_60 ?_
        refine lv_aload_n hx hb dX7_with_63 rfl (lv_at hl 0 rfl) ?_
        refine vgI hx hb hts hi7 hown hK hP (318) (by decide) (show kd 318 = 7 by decide) (C := RX7) (T := TX7) (N := 79) rfl 59 (by decide) (by decide) (by decide) (by decide) (hts (.fieldLink RX7 342 "CrateHelpersModel" "askedDepth" "I") (by decide +kernel)) (fun _ h9 => h9) dX7_with_64 ?_
        refine lv_iload_n hx hb dX7_with_67 rfl (lv_at hl 1 rfl) ?_
        obtain ⟨hn9, h⟩ := gk h
        refine xiast hx hb hK hP hap hS (362) (by decide) (show kd 362 = 8 by decide) (by rw [show ln 362 = 6 by decide]; exact hn9) dX7_with_68 (fun H locs hP hS => ?_)
        obtain ⟨A10, eA10, h⟩ := bd_e h
        rw [← eA10] at hP
        have hP : va_P D vwCl (VW K ad I1 G A10 L) H := hP
        refine lv_aload_n hx hb dX7_with_69 rfl (lv_at hl 0 rfl) ?_
        refine lv_dup hx hb dX7_with_70 rfl ?_
        refine vgI hx hb hts hi7 hown hK hP (318) (by decide) (show kd 318 = 7 by decide) (C := RX7) (T := TX7) (N := 79) rfl 59 (by decide) (by decide) (by decide) (by decide) (hts (.fieldLink RX7 342 "CrateHelpersModel" "askedDepth" "I") (by decide +kernel)) (fun _ h9 => h9) dX7_with_71 ?_
        refine lv_iconst (v := 1) hx hb dX7_with_74 (by decide) ?_
        refine lv_iadd hx hb dX7_with_75 ?_
        refine vpI (v := ((I1 318 59) + 1)) (ty := .int) hx hb hts hi7 tyX7 tyX7_ok nmX7 hown hK hP hap hS (318) (by decide) (show kd 318 = 7 by decide) (C := RX7) (T := TX7) (N := 79) rfl 59 (by decide) (by decide) (by decide) (by decide) (hts (.fieldLink RX7 342 "CrateHelpersModel" "askedDepth" "I") (by decide +kernel)) (fun _ h9 => h9) rfl (by decide +kernel) rfl rfl dX7_with_76 (fun H locs hP hS => ?_)
        obtain ⟨I11, eI11, h⟩ := bd_e h
        rw [← eI11] at hP
        have hP : va_P D vwCl (VW K ad I11 G A10 L) H := hP
        refine lv_aload_n hx hb dX7_with_79 rfl (lv_at hl 0 rfl) ?_
        refine vgI hx hb hts hi7 hown hK hP (318) (by decide) (show kd 318 = 7 by decide) (C := RX7) (T := TX7) (N := 79) rfl 59 (by decide) (by decide) (by decide) (by decide) (hts (.fieldLink RX7 342 "CrateHelpersModel" "askedDepth" "I") (by decide +kernel)) (fun _ h9 => h9) dX7_with_80 ?_
        exact W.iret (v := (I11 318 59)) hx hb hr (fun t9 ht9 hW9 => ⟨⟨(I11 318 59), (I11, G, A10, L), rfl, by cases h; exact ⟨rfl, rfl⟩, by rw [ht9]; exact hP, va_K.moved hW9.alike hK⟩, hS.F ht9⟩) hS.2.2 dX7_with_83
      · have h := ip c_8 h
        refine lv_iconst (v := (-1)) hx hb dX7_with_57 (by decide) ?_
        exact W.iret (v := (-1)) hx hb hr (fun t9 ht9 hW9 => ⟨⟨(-1), (I1, G, A, L), rfl, by cases h; exact ⟨rfl, rfl⟩, by rw [ht9]; exact hP, va_K.moved hW9.alike hK⟩, hS.F ht9⟩) hS.2.2 dX7_with_58
