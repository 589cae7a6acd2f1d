set_option maxHeartbeats 4000000 in
set_option maxRecDepth 100000 in
theorem e_X7_row (l : Launch) (D : va_G) (K : Nat → ClassId) (ad : Nat → Nat) (hap0 : apart ad (fun _ => True)) (a1 : Int32) (I : Nat → Nat → Int32) (G : Nat → Nat → Nat) (A : Nat → Nat → Int32) (L : Nat → Nat → Int64) (r0 : Int32) (I0 : Nat → Nat → Int32) (h : f_X7_row I A a1 = some (r0, I0)) : Ci l D K ad yX7_row wsX7_row 1 25 [.ref (ad 318), .int a1] (I, G, A, L) (fun (r : Int32) (u : Mem) => r = r0 ∧ u = (I0, G, A, L)) := by
  intro sz
  refine Met.ofW (cc := cX7_row) (maxL := 2) (ret := (some .int)) (by decide) rfl ?_
  intro p e s m args below meth c s₁ Bd hml hv0
  obtain ⟨rfl, hsz, hP, hK⟩ := hv0
  have hx := Bd.exec
  have hb := Bd.bytes
  have hr := Bd.returns
  have hts := atoms_spec (ws := wsX7_row) Bd.pre
  have hown : s.vm.findClass RX7 = some m.cls := findClass_of_methodNamed Bd.named
  have hlocks := Bd.notSynchronized
  have hi7 : ∀ w ∈ u_ws RX7 TX7 79, w ∈ wsX7_row := fun w h => List.mem_cons_of_mem _ (List.mem_append_right _ h)
  subst hsz
  have hap := vF_ap hap0 s.heap.size
  have hS : va_S (vF ad s.heap.size) s.heap s.heap [] := va_S.rf
  have hP : va_P D vwCl (VW K ad I G A L) s.heap := hP
  have hl := lv_entry ([.ref (ad 318), .int a1]) (n := 2) (Nat.le_of_ble_eq_true rfl)
  rw [lg_entry_eq]
  generalize (lg_sl ([.ref (ad 318), .int a1]) ++ List.replicate (2 - (lg_sl ([.ref (ad 318), .int a1])).length) Slot.unset).toArray = ls at hl ⊢
  have hl : lv_has ls 2 [(0, .ref (ad 318)), (1, .int a1)] := hl
  rw [f_X7_row] at h
  refine lv_aload_n hx hb dX7_row_0 rfl (lv_at hl 0 rfl) ?_
  refine lv_iconst (v := 0) hx hb dX7_row_1 (by decide) ?_
  refine vpI (v := 0) (ty := .int) hx hb hts hi7 tyX7 tyX7_ok nmX7 hown hK hP hap hS (318) (by decide) (show kd 318 = 7 by decide) (C := RX7) (T := TX7) (N := 79) rfl 0 (by decide) (by decide) (by decide) (by decide) (hts (.fieldLink RX7 201 "CrateHelpersModel" "thrown" "I") (by decide +kernel)) (fun _ h9 => h9) rfl (by decide +kernel) rfl rfl dX7_row_2 (fun H locs hP hS => ?_)
  obtain ⟨I1, eI1, h⟩ := bd_e h
  rw [← eI1] at hP
  have hP : va_P D vwCl (VW K ad I1 G A L) H := hP
  refine lv_aload_n hx hb dX7_row_5 rfl (lv_at hl 0 rfl) ?_
  refine vgI hx hb hts hi7 hown hK hP (318) (by decide) (show kd 318 = 7 by decide) (C := RX7) (T := TX7) (N := 79) rfl 61 (by decide) (by decide) (by decide) (by decide) (hts (.fieldLink RX7 153 "CrateHelpersModel" "secondMany" "I") (by decide +kernel)) (fun _ h9 => h9) dX7_row_6 ?_
  refine lv_bipush (v := (-9)) hx hb dX7_row_9 (by decide) ?_
  refine lv_icmp_eq (tgt := 37) hx hb dX7_row_11 (by decide) (fun c_2 => ?_) (fun c_2 => ?_)
  · have h := ip c_2 h
    refine lv_bipush (v := (-9)) hx hb dX7_row_37 (by decide) ?_
    exact W.iret (v := (-9)) hx hb hr (fun t9 ht9 hW9 => ⟨⟨(-9), (I1, G, A, L), rfl, by cases h; exact ⟨rfl, rfl⟩, by rw [ht9]; exact hP, va_K.moved hW9.alike hK⟩, hS.F ht9⟩) hS.2.2 dX7_row_39
  · have h := iN c_2 h
    refine lv_iload_n hx hb dX7_row_14 rfl (lv_at hl 1 rfl) ?_
    refine lv_iconst (v := 0) hx hb dX7_row_15 (by decide) ?_
    refine lv_aload_n hx hb dX7_row_16 rfl (lv_at hl 0 rfl) ?_
    refine vgI hx hb hts hi7 hown hK hP (318) (by decide) (show kd 318 = 7 by decide) (C := RX7) (T := TX7) (N := 79) rfl 61 (by decide) (by decide) (by decide) (by decide) (hts (.fieldLink RX7 153 "CrateHelpersModel" "secondMany" "I") (by decide +kernel)) (fun _ h9 => h9) dX7_row_17 ?_
    refine lv_iconst (v := 1) hx hb dX7_row_20 (by decide) ?_
    refine lv_isub hx hb dX7_row_21 ?_
    obtain ⟨r3, hc4, h⟩ := Option.bind_eq_some_iff.mp h
    refine ecS (As := [.int a1, .int 0, .int ((I1 318 61) - 1)]) (rest := []) ⟨hx, hb, hml, hown, hts⟩ (e_X7_in l D K ad hap0 a1 0 ((I1 318 61) - 1) I1 G A L r3 hc4) (va_cwS 3 hts gX7_row_X7_in rfl rfl rfl (by decide +kernel) ⟨Nat.le_of_ble_eq_true rfl, Nat.le_of_ble_eq_true rfl⟩) hK hP hS rfl hl.1 (Nat.le_of_ble_eq_true rfl) (Nat.le_of_ble_eq_true rfl) (Nat.le_of_ble_eq_true rfl) dX7_row_22 (fun H locs hP hS => ?_) rfl
    have hP : va_P D vwCl (VW K ad I1 G A L) H := hP
    refine lv_if_eq (tgt := 37) hx hb dX7_row_25 (by decide) (fun c_5 => ?_) (fun c_5 => ?_)
    · have h := ip c_5 h
      refine lv_bipush (v := (-9)) hx hb dX7_row_37 (by decide) ?_
      exact W.iret (v := (-9)) hx hb hr (fun t9 ht9 hW9 => ⟨⟨(-9), (I1, G, A, L), rfl, by cases h; exact ⟨rfl, rfl⟩, by rw [ht9]; exact hP, va_K.moved hW9.alike hK⟩, hS.F ht9⟩) hS.2.2 dX7_row_39
    · have h := iN c_5 h
      refine lv_aload_n hx hb dX7_row_28 rfl (lv_at hl 0 rfl) ?_
      refine vgC hx hb hts hi7 hown hK hP (318) (by decide) (show kd 318 = 7 by decide) (C := RX7) (T := TX7) (N := 79) rfl 62 (by decide) (by decide) (by decide) (by decide) (363) rfl (hts (.fieldLink RX7 156 "CrateHelpersModel" "secondRow" "[I") (by decide +kernel)) (fun _ h9 => h9) dX7_row_29 ?_
      refine lv_iload_n hx hb dX7_row_32 rfl (lv_at hl 1 rfl) ?_
      obtain ⟨hn6, h⟩ := gk h
      refine xiald hx hb hK hP (363) (by decide) (show kd 363 = 8 by decide) (by rw [show ln 363 = 6 by decide]; exact hn6) dX7_row_33 ?_
      refine lv_goto (tgt := 39) hx hb dX7_row_34 (by decide) ?_
      exact W.iret (v := (A 363 a1.toNatClampNeg)) hx hb hr (fun t9 ht9 hW9 => ⟨⟨(A 363 a1.toNatClampNeg), (I1, G, A, L), rfl, by cases h; exact ⟨rfl, rfl⟩, by rw [ht9]; exact hP, va_K.moved hW9.alike hK⟩, hS.F ht9⟩) hS.2.2 dX7_row_39
set_option maxHeartbeats 4000000 in
set_option maxRecDepth 100000 in
theorem e_X7_rule (l : Launch) (D : va_G) (K : Nat → ClassId) (ad : Nat → Nat) (hap0 : apart ad (fun _ => True)) (a1 : Int32) (a2 : Int32) (a3 : Int32) (I : Nat → Nat → Int32) (G : Nat → Nat → Nat) (A : Nat → Nat → Int32) (L : Nat → Nat → Int64) (r0 : Int32) (I0 : Nat → Nat → Int32) (A0 : Nat → Nat → Int32) (h : f_X7_rule I A a1 a2 a3 = some (r0, I0, A0)) : Ci l D K ad yX7_rule wsX7_rule 2 49 [.ref (ad 318), .int a1, .int a2, .int a3] (I, G, A, L) (fun (r : Int32) (u : Mem) => r = r0 ∧ u = (I0, G, A0, L)) := by
  intro sz
  refine Met.ofW (cc := cX7_rule) (maxL := 5) (ret := (some .int)) (by decide) rfl ?_
  intro p e s m args below meth c s₁ Bd hml hv0
  obtain ⟨rfl, hsz, hP, hK⟩ := hv0
  have hx := Bd.exec
  have hb := Bd.bytes
  have hr := Bd.returns
  have hts := atoms_spec (ws := wsX7_rule) Bd.pre
  have hown : s.vm.findClass RX7 = some m.cls := findClass_of_methodNamed Bd.named
  have hlocks := Bd.notSynchronized
  have hi7 : ∀ w ∈ u_ws RX7 TX7 79, w ∈ wsX7_rule := fun w h => List.mem_cons_of_mem _ (List.mem_append_right _ h)
  subst hsz
  have hap := vF_ap hap0 s.heap.size
  have hS : va_S (vF ad s.heap.size) s.heap s.heap [] := va_S.rf
  have hP : va_P D vwCl (VW K ad I G A L) s.heap := hP
  have hl := lv_entry ([.ref (ad 318), .int a1, .int a2, .int a3]) (n := 5) (Nat.le_of_ble_eq_true rfl)
  rw [lg_entry_eq]
  generalize (lg_sl ([.ref (ad 318), .int a1, .int a2, .int a3]) ++ List.replicate (5 - (lg_sl ([.ref (ad 318), .int a1, .int a2, .int a3])).length) Slot.unset).toArray = ls at hl ⊢
  have hl : lv_has ls 5 [(0, .ref (ad 318)), (1, .int a1), (2, .int a2), (3, .int a3)] := hl
  rw [f_X7_rule] at h
  refine lv_aload_n hx hb dX7_rule_0 rfl (lv_at hl 0 rfl) ?_
  refine lv_iconst (v := 0) hx hb dX7_rule_1 (by decide) ?_
  refine vpI (v := 0) (ty := .int) hx hb hts hi7 tyX7 tyX7_ok nmX7 hown hK hP hap hS (318) (by decide) (show kd 318 = 7 by decide) (C := RX7) (T := TX7) (N := 79) rfl 0 (by decide) (by decide) (by decide) (by decide) (hts (.fieldLink RX7 201 "CrateHelpersModel" "thrown" "I") (by decide +kernel)) (fun _ h9 => h9) rfl (by decide +kernel) rfl rfl dX7_rule_2 (fun H locs hP hS => ?_)
  obtain ⟨I1, eI1, h⟩ := bd_e h
  rw [← eI1] at hP
  have hP : va_P D vwCl (VW K ad I1 G A L) H := hP
  refine lv_aload_n hx hb dX7_rule_5 rfl (lv_at hl 0 rfl) ?_
  refine lv_iload_n hx hb dX7_rule_6 rfl (lv_at hl 1 rfl) ?_
  obtain ⟨r2, hc3, h⟩ := Option.bind_eq_some_iff.mp h
  refine ecV (As := [.int a1]) (rest := []) ⟨hx, hb, hml, hown, hts⟩ (e_X7_isProblem l D K ad hap0 a1 I1 G A L r2 hc3) (cwV 1 hts gX7_rule_X7_isProblem rfl rfl rfl (by decide +kernel) ⟨Nat.le_of_ble_eq_true rfl, Nat.le_of_ble_eq_true rfl⟩) hK hP hS (by decide) (show kd 318 = 7 by decide) (by decide) rfl rfl rfl hl.1 (Nat.le_of_ble_eq_true rfl) (Nat.le_of_ble_eq_true rfl) (Nat.le_of_ble_eq_true rfl) dX7_rule_7 (fun H locs hP hS => ?_) rfl
  have hP : va_P D vwCl (VW K ad I1 G A L) H := hP
  refine lv_if_eq (tgt := 36) hx hb dX7_rule_10 (by decide) (fun c_4 => ?_) (fun c_4 => ?_)
  · have h := ip c_4 h
    refine lv_iconst (v := (-1)) hx hb dX7_rule_36 (by decide) ?_
    exact W.iret (v := (-1)) hx hb hr (fun t9 ht9 hW9 => ⟨⟨(-1), (I1, G, A, L), rfl, by cases h; exact ⟨rfl, rfl⟩, by rw [ht9]; exact hP, va_K.moved hW9.alike hK⟩, hS.F ht9⟩) hS.2.2 dX7_rule_37
  · have h := iN c_4 h
    refine lv_iload_n hx hb dX7_rule_13 rfl (lv_at hl 2 rfl) ?_
    refine lv_iconst (v := 0) hx hb dX7_rule_14 (by decide) ?_
    refine lv_bipush (v := 7) hx hb dX7_rule_15 (by decide) ?_
    obtain ⟨r5, hc6, h⟩ := Option.bind_eq_some_iff.mp h
    refine ecS (As := [.int a2, .int 0, .int 7]) (rest := []) ⟨hx, hb, hml, hown, hts⟩ (e_X7_in l D K ad hap0 a2 0 7 I1 G A L r5 hc6) (va_cwS 3 hts gX7_rule_X7_in rfl rfl rfl (by decide +kernel) ⟨Nat.le_of_ble_eq_true rfl, Nat.le_of_ble_eq_true rfl⟩) hK hP hS rfl hl.1 (Nat.le_of_ble_eq_true rfl) (Nat.le_of_ble_eq_true rfl) (Nat.le_of_ble_eq_true rfl) dX7_rule_17 (fun H locs hP hS => ?_) rfl
    have hP : va_P D vwCl (VW K ad I1 G A L) H := hP
    refine lv_if_eq (tgt := 36) hx hb dX7_rule_20 (by decide) (fun c_7 => ?_) (fun c_7 => ?_)
    · have h := ip c_7 h
      refine lv_iconst (v := (-1)) hx hb dX7_rule_36 (by decide) ?_
      exact W.iret (v := (-1)) hx hb hr (fun t9 ht9 hW9 => ⟨⟨(-1), (I1, G, A, L), rfl, by cases h; exact ⟨rfl, rfl⟩, by rw [ht9]; exact hP, va_K.moved hW9.alike hK⟩, hS.F ht9⟩) hS.2.2 dX7_rule_37
    · have h := iN c_7 h
      refine lv_iload_n hx hb dX7_rule_23 rfl (lv_at hl 3 rfl) ?_
      refine lv_sipush (v := (-1000)) hx hb dX7_rule_24 (by decide) ?_
      refine lv_sipush (v := 1000) hx hb dX7_rule_27 (by decide) ?_
      obtain ⟨r8, hc9, h⟩ := Option.bind_eq_some_iff.mp h
      refine ecS (As := [.int a3, .int (-1000), .int 1000]) (rest := []) ⟨hx, hb, hml, hown, hts⟩ (e_X7_in l D K ad hap0 a3 (-1000) 1000 I1 G A L r8 hc9) (va_cwS 3 hts gX7_rule_X7_in rfl rfl rfl (by decide +kernel) ⟨Nat.le_of_ble_eq_true rfl, Nat.le_of_ble_eq_true rfl⟩) hK hP hS rfl hl.1 (Nat.le_of_ble_eq_true rfl) (Nat.le_of_ble_eq_true rfl) (Nat.le_of_ble_eq_true rfl) dX7_rule_30 (fun H locs hP hS => ?_) rfl
      have hP : va_P D vwCl (VW K ad I1 G A L) H := hP
      refine lv_if_ne (tgt := 38) hx hb dX7_rule_33 (by decide) (fun c_10 => ?_) (fun c_10 => ?_)
      · have h := iN c_10 h
        refine lv_aload_n hx hb dX7_rule_38 rfl (lv_at hl 0 rfl) ?_
        refine vgI hx hb hts hi7 hown hK hP (318) (by decide) (show kd 318 = 7 by decide) (C := RX7) (T := TX7) (N := 79) rfl 23 (by decide) (by decide) (by decide) (by decide) (hts (.fieldLink RX7 62 "CrateHelpersModel" "under" "I") (by decide +kernel)) (fun _ h9 => h9) dX7_rule_39 ?_
        refine lv_bipush (v := (-9)) hx hb dX7_rule_42 (by decide) ?_
        refine lv_icmp_eq (tgt := 50) hx hb dX7_rule_44 (by decide) (fun c_11 => ?_) (fun c_11 => ?_)
        · have h := ip c_11 h
          refine lv_aload_n hx hb dX7_rule_50 rfl (lv_at hl 0 rfl) ?_
          refine vgC hx hb hts hi7 hown hK hP (318) (by decide) (show kd 318 = 7 by decide) (C := RX7) (T := TX7) (N := 79) rfl 4 (by decide) (by decide) (by decide) (by decide) (320) rfl (hts (.fieldLink RX7 13 "CrateHelpersModel" "rules" "[I") (by decide +kernel)) (fun _ h9 => h9) dX7_rule_51 ?_
          refine lv_iload_n hx hb dX7_rule_54 rfl (lv_at hl 1 rfl) ?_
          obtain ⟨hn12, h⟩ := gk h
          refine xiald hx hb hK hP (320) (by decide) (show kd 320 = 8 by decide) (by rw [show ln 320 = 5 by decide]; exact hn12) dX7_rule_55 ?_
          refine lv_bipush (v := 8) hx hb dX7_rule_56 (by decide) ?_
          refine lv_icmp_ne (tgt := 64) hx hb dX7_rule_58 (by decide) (fun c_13 => ?_) (fun c_13 => ?_)
          · have h := iN c_13 h
            refine lv_aload_n hx hb dX7_rule_64 rfl (lv_at hl 0 rfl) ?_
            refine vgC hx hb hts hi7 hown hK hP (318) (by decide) (show kd 318 = 7 by decide) (C := RX7) (T := TX7) (N := 79) rfl 4 (by decide) (by decide) (by decide) (by decide) (320) rfl (hts (.fieldLink RX7 13 "CrateHelpersModel" "rules" "[I") (by decide +kernel)) (fun _ h9 => h9) dX7_rule_65 ?_
            refine lv_iload_n hx hb dX7_rule_68 rfl (lv_at hl 1 rfl) ?_
            refine xiald hx hb hK hP (320) (by decide) (show kd 320 = 8 by decide) (by rw [show ln 320 = 5 by decide]; exact hn12) dX7_rule_69 ?_
            refine lv_istore (lv' := [(4, .int (A 320 a1.toNatClampNeg)), (0, .ref (ad 318)), (1, .int a1), (2, .int a2), (3, .int a3)]) hx hb dX7_rule_70 hl (by decide) rfl (fun ls hl => ?_)
            refine lv_aload_n hx hb dX7_rule_72 rfl (lv_at hl 1 rfl) ?_
            refine vgC hx hb hts hi7 hown hK hP (318) (by decide) (show kd 318 = 7 by decide) (C := RX7) (T := TX7) (N := 79) rfl 8 (by decide) (by decide) (by decide) (by decide) (324) rfl (hts (.fieldLink RX7 25 "CrateHelpersModel" "ruleKind" "[I") (by decide +kernel)) (fun _ h9 => h9) dX7_rule_73 ?_
            refine lv_bipush (v := 8) hx hb dX7_rule_76 (by decide) ?_
            refine lv_iload_n hx hb dX7_rule_78 rfl (lv_at hl 2 rfl) ?_
            refine lv_imul hx hb dX7_rule_79 ?_
            refine lv_iload hx hb dX7_rule_80 (lv_at hl 0 rfl) ?_
            refine lv_iadd hx hb dX7_rule_82 ?_
            refine lv_iload_n hx hb dX7_rule_83 rfl (lv_at hl 3 rfl) ?_
            obtain ⟨hn14, h⟩ := gk h
            refine xiast hx hb hK hP hap hS (324) (by decide) (show kd 324 = 8 by decide) (by rw [show ln 324 = 40 by decide]; exact hn14) dX7_rule_84 (fun H locs hP hS => ?_)
            obtain ⟨A15, eA15, h⟩ := bd_e h
            rw [← eA15] at hP
            have hP : va_P D vwCl (VW K ad I1 G A15 L) H := hP
            refine lv_aload_n hx hb dX7_rule_85 rfl (lv_at hl 1 rfl) ?_
            refine vgC hx hb hts hi7 hown hK hP (318) (by decide) (show kd 318 = 7 by decide) (C := RX7) (T := TX7) (N := 79) rfl 9 (by decide) (by decide) (by decide) (by decide) (325) rfl (hts (.fieldLink RX7 28 "CrateHelpersModel" "ruleNumber" "[I") (by decide +kernel)) (fun _ h9 => h9) dX7_rule_86 ?_
            refine lv_bipush (v := 8) hx hb dX7_rule_89 (by decide) ?_
            refine lv_iload_n hx hb dX7_rule_91 rfl (lv_at hl 2 rfl) ?_
            refine lv_imul hx hb dX7_rule_92 ?_
            refine lv_iload hx hb dX7_rule_93 (lv_at hl 0 rfl) ?_
            refine lv_iadd hx hb dX7_rule_95 ?_
            refine lv_iload_n hx hb dX7_rule_96 rfl (lv_at hl 4 rfl) ?_
            refine xiast hx hb hK hP hap hS (325) (by decide) (show kd 325 = 8 by decide) (by rw [show ln 325 = 40 by decide]; exact hn14) dX7_rule_97 (fun H locs hP hS => ?_)
            obtain ⟨A16, eA16, h⟩ := bd_e h
            rw [← eA16] at hP
            have hP : va_P D vwCl (VW K ad I1 G A16 L) H := hP
            refine lv_aload_n hx hb dX7_rule_98 rfl (lv_at hl 1 rfl) ?_
            refine vgC hx hb hts hi7 hown hK hP (318) (by decide) (show kd 318 = 7 by decide) (C := RX7) (T := TX7) (N := 79) rfl 4 (by decide) (by decide) (by decide) (by decide) (320) rfl (hts (.fieldLink RX7 13 "CrateHelpersModel" "rules" "[I") (by decide +kernel)) (fun _ h9 => h9) dX7_rule_99 ?_
            refine lv_iload_n hx hb dX7_rule_102 rfl (lv_at hl 2 rfl) ?_
            refine lv_dup2_11 hx hb dX7_rule_103 rfl rfl ?_
            refine xiald hx hb hK hP (320) (by decide) (show kd 320 = 8 by decide) (by rw [show ln 320 = 5 by decide]; exact hn12) dX7_rule_104 ?_
            refine lv_iconst (v := 1) hx hb dX7_rule_105 (by decide) ?_
            refine lv_iadd hx hb dX7_rule_106 ?_
            refine xiast hx hb hK hP hap hS (320) (by decide) (show kd 320 = 8 by decide) (by rw [show ln 320 = 5 by decide]; exact hn12) dX7_rule_107 (fun H locs hP hS => ?_)
            obtain ⟨A17, eA17, h⟩ := bd_e h
            rw [← eA17] at hP
            have hP : va_P D vwCl (VW K ad I1 G A17 L) H := hP
            refine lv_aload_n hx hb dX7_rule_108 rfl (lv_at hl 1 rfl) ?_
            refine lv_iload_n hx hb dX7_rule_109 rfl (lv_at hl 2 rfl) ?_
            obtain ⟨⟨I18, A19⟩, hc20, h⟩ := Option.bind_eq_some_iff.mp h
            refine ecVv (As := [.int a1]) (rest := []) ⟨hx, hb, hml, hown, hts⟩ (e_X7_changes l D K ad hap0 a1 I1 G A17 L I18 A19 hc20) (cwV 1 hts gX7_rule_X7_changes rfl rfl rfl (by decide +kernel) ⟨Nat.le_of_ble_eq_true rfl, Nat.le_of_ble_eq_true rfl⟩) hK hP hS (by decide) (show kd 318 = 7 by decide) (by decide) rfl rfl rfl hl.1 (Nat.le_of_ble_eq_true rfl) (Nat.le_of_ble_eq_true rfl) (Nat.le_of_ble_eq_true rfl) dX7_rule_110 (fun H locs hP hS => ?_) rfl
            have hP : va_P D vwCl (VW K ad I18 G A19 L) H := hP
            refine lv_iload hx hb dX7_rule_113 (lv_at hl 0 rfl) ?_
            exact W.iret (v := (A 320 a1.toNatClampNeg)) hx hb hr (fun t9 ht9 hW9 => ⟨⟨(A 320 a1.toNatClampNeg), (I18, G, A19, L), rfl, by cases h; exact ⟨rfl, rfl⟩, by rw [ht9]; exact hP, va_K.moved hW9.alike hK⟩, hS.F ht9⟩) hS.2.2 dX7_rule_115
          · have h := ip c_13 h
            refine lv_bipush (v := (-3)) hx hb dX7_rule_61 (by decide) ?_
            exact W.iret (v := (-3)) hx hb hr (fun t9 ht9 hW9 => ⟨⟨(-3), (I1, G, A, L), rfl, by cases h; exact ⟨rfl, rfl⟩, by rw [ht9]; exact hP, va_K.moved hW9.alike hK⟩, hS.F ht9⟩) hS.2.2 dX7_rule_63
        · have h := iN c_11 h
          refine lv_bipush (v := (-2)) hx hb dX7_rule_47 (by decide) ?_
          exact W.iret (v := (-2)) hx hb hr (fun t9 ht9 hW9 => ⟨⟨(-2), (I1, G, A, L), rfl, by cases h; exact ⟨rfl, rfl⟩, by rw [ht9]; exact hP, va_K.moved hW9.alike hK⟩, hS.F ht9⟩) hS.2.2 dX7_rule_49
      · have h := ip c_10 h
        refine lv_iconst (v := (-1)) hx hb dX7_rule_36 (by decide) ?_
        exact W.iret (v := (-1)) hx hb hr (fun t9 ht9 hW9 => ⟨⟨(-1), (I1, G, A, L), rfl, by cases h; exact ⟨rfl, rfl⟩, by rw [ht9]; exact hP, va_K.moved hW9.alike hK⟩, hS.F ht9⟩) hS.2.2 dX7_rule_37
set_option maxHeartbeats 4000000 in
set_option maxRecDepth 100000 in
theorem e_X7_same (l : Launch) (D : va_G) (K : Nat → ClassId) (ad : Nat → Nat) (hap0 : apart ad (fun _ => True)) (a1 : Int32) (a2 : Int32) (I : Nat → Nat → Int32) (G : Nat → Nat → Nat) (A : Nat → Nat → Int32) (L : Nat → Nat → Int64) (r0 : Int32) (I0 : Nat → Nat → Int32) (h : f_X7_same I a1 a2 = some (r0, I0)) : Ci l D K ad yX7_same wsX7_same 2 49 [.ref (ad 318), .int a1, .int a2] (I, G, A, L) (fun (r : Int32) (u : Mem) => r = r0 ∧ u = (I0, G, A, L)) := by
  intro sz
  refine Met.ofW (cc := cX7_same) (maxL := 3) (ret := (some .int)) (by decide) rfl ?_
  intro p e s m args below meth c s₁ Bd hml hv0
  obtain ⟨rfl, hsz, hP, hK⟩ := hv0
  have hx := Bd.exec
  have hb := Bd.bytes
  have hr := Bd.returns
  have hts := atoms_spec (ws := wsX7_same) Bd.pre
  have hown : s.vm.findClass RX7 = some m.cls := findClass_of_methodNamed Bd.named
  have hlocks := Bd.notSynchronized
  have hi7 : ∀ w ∈ u_ws RX7 TX7 79, w ∈ wsX7_same := fun w h => List.mem_cons_of_mem _ (List.mem_append_right _ h)
  subst hsz
  have hap := vF_ap hap0 s.heap.size
  have hS : va_S (vF ad s.heap.size) s.heap s.heap [] := va_S.rf
  have hP : va_P D vwCl (VW K ad I G A L) s.heap := hP
  have hl := lv_entry ([.ref (ad 318), .int a1, .int a2]) (n := 3) (Nat.le_of_ble_eq_true rfl)
  rw [lg_entry_eq]
  generalize (lg_sl ([.ref (ad 318), .int a1, .int a2]) ++ List.replicate (3 - (lg_sl ([.ref (ad 318), .int a1, .int a2])).length) Slot.unset).toArray = ls at hl ⊢
  have hl : lv_has ls 3 [(0, .ref (ad 318)), (1, .int a1), (2, .int a2)] := hl
  rw [f_X7_same] at h
  refine lv_aload_n hx hb dX7_same_0 rfl (lv_at hl 0 rfl) ?_
  refine lv_iconst (v := 0) hx hb dX7_same_1 (by decide) ?_
  refine vpI (v := 0) (ty := .int) hx hb hts hi7 tyX7 tyX7_ok nmX7 hown hK hP hap hS (318) (by decide) (show kd 318 = 7 by decide) (C := RX7) (T := TX7) (N := 79) rfl 0 (by decide) (by decide) (by decide) (by decide) (hts (.fieldLink RX7 201 "CrateHelpersModel" "thrown" "I") (by decide +kernel)) (fun _ h9 => h9) rfl (by decide +kernel) rfl rfl dX7_same_2 (fun H locs hP hS => ?_)
  obtain ⟨I1, eI1, h⟩ := bd_e h
  rw [← eI1] at hP
  have hP : va_P D vwCl (VW K ad I1 G A L) H := hP
  refine lv_aload_n hx hb dX7_same_5 rfl (lv_at hl 0 rfl) ?_
  refine lv_iload_n hx hb dX7_same_6 rfl (lv_at hl 1 rfl) ?_
  obtain ⟨r2, hc3, h⟩ := Option.bind_eq_some_iff.mp h
  refine ecV (As := [.int a1]) (rest := []) ⟨hx, hb, hml, hown, hts⟩ (e_X7_isProblem l D K ad hap0 a1 I1 G A L r2 hc3) (cwV 1 hts gX7_same_X7_isProblem rfl rfl rfl (by decide +kernel) ⟨Nat.le_of_ble_eq_true rfl, Nat.le_of_ble_eq_true rfl⟩) hK hP hS (by decide) (show kd 318 = 7 by decide) (by decide) rfl rfl rfl hl.1 (Nat.le_of_ble_eq_true rfl) (Nat.le_of_ble_eq_true rfl) (Nat.le_of_ble_eq_true rfl) dX7_same_7 (fun H locs hP hS => ?_) rfl
  have hP : va_P D vwCl (VW K ad I1 G A L) H := hP
  refine lv_if_eq (tgt := 22) hx hb dX7_same_10 (by decide) (fun c_4 => ?_) (fun c_4 => ?_)
  · have h := ip c_4 h
    refine lv_iconst (v := (-1)) hx hb dX7_same_22 (by decide) ?_
    exact W.iret (v := (-1)) hx hb hr (fun t9 ht9 hW9 => ⟨⟨(-1), (I1, G, A, L), rfl, by cases h; exact ⟨rfl, rfl⟩, by rw [ht9]; exact hP, va_K.moved hW9.alike hK⟩, hS.F ht9⟩) hS.2.2 dX7_same_23
  · have h := iN c_4 h
    refine lv_iload_n hx hb dX7_same_13 rfl (lv_at hl 2 rfl) ?_
    refine lv_iconst (v := 1) hx hb dX7_same_14 (by decide) ?_
    refine lv_iconst (v := 5) hx hb dX7_same_15 (by decide) ?_
    obtain ⟨r5, hc6, h⟩ := Option.bind_eq_some_iff.mp h
    refine ecS (As := [.int a2, .int 1, .int 5]) (rest := []) ⟨hx, hb, hml, hown, hts⟩ (e_X7_in l D K ad hap0 a2 1 5 I1 G A L r5 hc6) (va_cwS 3 hts gX7_same_X7_in rfl rfl rfl (by decide +kernel) ⟨Nat.le_of_ble_eq_true rfl, Nat.le_of_ble_eq_true rfl⟩) hK hP hS rfl hl.1 (Nat.le_of_ble_eq_true rfl) (Nat.le_of_ble_eq_true rfl) (Nat.le_of_ble_eq_true rfl) dX7_same_16 (fun H locs hP hS => ?_) rfl
    have hP : va_P D vwCl (VW K ad I1 G A L) H := hP
    refine lv_if_ne (tgt := 24) hx hb dX7_same_19 (by decide) (fun c_7 => ?_) (fun c_7 => ?_)
    · have h := iN c_7 h
      refine lv_aload_n hx hb dX7_same_24 rfl (lv_at hl 0 rfl) ?_
      refine vgI hx hb hts hi7 hown hK hP (318) (by decide) (show kd 318 = 7 by decide) (C := RX7) (T := TX7) (N := 79) rfl 23 (by decide) (by decide) (by decide) (by decide) (hts (.fieldLink RX7 62 "CrateHelpersModel" "under" "I") (by decide +kernel)) (fun _ h9 => h9) dX7_same_25 ?_
      refine lv_bipush (v := (-9)) hx hb dX7_same_28 (by decide) ?_
      refine lv_icmp_eq (tgt := 38) hx hb dX7_same_30 (by decide) (fun c_8 => ?_) (fun c_8 => ?_)
      · have h := ip c_8 h
        refine lv_iconst (v := 1) hx hb dX7_same_38 (by decide) ?_
        exact W.iret (v := 1) hx hb hr (fun t9 ht9 hW9 => ⟨⟨1, (I1, G, A, L), rfl, by cases h; exact ⟨rfl, rfl⟩, by rw [ht9]; exact hP, va_K.moved hW9.alike hK⟩, hS.F ht9⟩) hS.2.2 dX7_same_39
      · have h := iN c_8 h
        refine lv_bipush (v := (-2)) hx hb dX7_same_33 (by decide) ?_
        refine lv_goto (tgt := 39) hx hb dX7_same_35 (by decide) ?_
        exact W.iret (v := (-2)) hx hb hr (fun t9 ht9 hW9 => ⟨⟨(-2), (I1, G, A, L), rfl, by cases h; exact ⟨rfl, rfl⟩, by rw [ht9]; exact hP, va_K.moved hW9.alike hK⟩, hS.F ht9⟩) hS.2.2 dX7_same_39
    · have h := ip c_7 h
      refine lv_iconst (v := (-1)) hx hb dX7_same_22 (by decide) ?_
      exact W.iret (v := (-1)) hx hb hr (fun t9 ht9 hW9 => ⟨⟨(-1), (I1, G, A, L), rfl, by cases h; exact ⟨rfl, rfl⟩, by rw [ht9]; exact hP, va_K.moved hW9.alike hK⟩, hS.F ht9⟩) hS.2.2 dX7_same_23
set_option maxHeartbeats 4000000 in
set_option maxRecDepth 100000 in
theorem e_X7_takes (l : Launch) (D : va_G) (K : Nat → ClassId) (ad : Nat → Nat) (hap0 : apart ad (fun _ => True)) (a1 : Int32) (I : Nat → Nat → Int32) (G : Nat → Nat → Nat) (A : Nat → Nat → Int32) (L : Nat → Nat → Int64) (I0 : Nat → Nat → Int32) (A0 : Nat → Nat → Int32) (h : f_X7_takes I A a1 = some (I0, A0)) : Cv l D K ad yX7_takes wsX7_takes 0 0 [.ref (ad 318), .int a1] (I, G, A, L) (fun (u : Mem) => u = (I0, G, A0, L)) := by
  intro sz
  refine Met.ofW (cc := cX7_takes) (maxL := 2) (ret := none) (by decide) rfl ?_
  intro p e s m args below meth c s₁ Bd hml hv0
  obtain ⟨rfl, hsz, hP, hK⟩ := hv0
  have hx := Bd.exec
  have hb := Bd.bytes
  have hr := Bd.returns
  have hts := atoms_spec (ws := wsX7_takes) Bd.pre
  have hown : s.vm.findClass RX7 = some m.cls := findClass_of_methodNamed Bd.named
  have hlocks := Bd.notSynchronized
  have hi7 : ∀ w ∈ u_ws RX7 TX7 79, w ∈ wsX7_takes := fun w h => List.mem_cons_of_mem _ (List.mem_append_right _ h)
  subst hsz
  have hap := vF_ap hap0 s.heap.size
  have hS : va_S (vF ad s.heap.size) s.heap s.heap [] := va_S.rf
  have hP : va_P D vwCl (VW K ad I G A L) s.heap := hP
  have hl := lv_entry ([.ref (ad 318), .int a1]) (n := 2) (Nat.le_of_ble_eq_true rfl)
  rw [lg_entry_eq]
  generalize (lg_sl ([.ref (ad 318), .int a1]) ++ List.replicate (2 - (lg_sl ([.ref (ad 318), .int a1])).length) Slot.unset).toArray = ls at hl ⊢
  have hl : lv_has ls 2 [(0, .ref (ad 318)), (1, .int a1)] := hl
  rw [f_X7_takes] at h
  refine lv_aload_n hx hb dX7_takes_0 rfl (lv_at hl 0 rfl) ?_
  refine vgC hx hb hts hi7 hown hK hP (318) (by decide) (show kd 318 = 7 by decide) (C := RX7) (T := TX7) (N := 79) rfl 39 (by decide) (by decide) (by decide) (by decide) (345) rfl (hts (.fieldLink RX7 96 "CrateHelpersModel" "isTaken" "[Z") (by decide +kernel)) (fun _ h9 => h9) dX7_takes_1 ?_
  refine lv_iload_n hx hb dX7_takes_4 rfl (lv_at hl 1 rfl) ?_
  refine lv_iconst (v := 1) hx hb dX7_takes_5 (by decide) ?_
  obtain ⟨hn1, h⟩ := gk h
  refine xzast hx hb hK hP hap hS (345) (by decide) (show kd 345 = 11 by decide) (by rw [show ln 345 = 2000 by decide]; exact hn1) dX7_takes_6 (fun H locs hP hS => ?_)
  obtain ⟨A2, eA2, h⟩ := bd_e h
  rw [← eA2] at hP
  have hP : va_P D vwCl (VW K ad I G A2 L) H := hP
  refine lv_aload_n hx hb dX7_takes_7 rfl (lv_at hl 0 rfl) ?_
  refine vgC hx hb hts hi7 hown hK hP (318) (by decide) (show kd 318 = 7 by decide) (C := RX7) (T := TX7) (N := 79) rfl 40 (by decide) (by decide) (by decide) (by decide) (346) rfl (hts (.fieldLink RX7 99 "CrateHelpersModel" "order" "[I") (by decide +kernel)) (fun _ h9 => h9) dX7_takes_8 ?_
  refine lv_aload_n hx hb dX7_takes_11 rfl (lv_at hl 0 rfl) ?_
  refine vgI hx hb hts hi7 hown hK hP (318) (by decide) (show kd 318 = 7 by decide) (C := RX7) (T := TX7) (N := 79) rfl 31 (by decide) (by decide) (by decide) (by decide) (hts (.fieldLink RX7 303 "CrateHelpersModel" "taken" "I") (by decide +kernel)) (fun _ h9 => h9) dX7_takes_12 ?_
  refine lv_iload_n hx hb dX7_takes_15 rfl (lv_at hl 1 rfl) ?_
  obtain ⟨hn3, h⟩ := gk h
  refine xiast hx hb hK hP hap hS (346) (by decide) (show kd 346 = 8 by decide) (by rw [show ln 346 = 250 by decide]; exact hn3) dX7_takes_16 (fun H locs hP hS => ?_)
  obtain ⟨A4, eA4, h⟩ := bd_e h
  rw [← eA4] at hP
  have hP : va_P D vwCl (VW K ad I G A4 L) H := hP
  refine lv_aload_n hx hb dX7_takes_17 rfl (lv_at hl 0 rfl) ?_
  refine lv_dup hx hb dX7_takes_18 rfl ?_
  refine vgI hx hb hts hi7 hown hK hP (318) (by decide) (show kd 318 = 7 by decide) (C := RX7) (T := TX7) (N := 79) rfl 31 (by decide) (by decide) (by decide) (by decide) (hts (.fieldLink RX7 303 "CrateHelpersModel" "taken" "I") (by decide +kernel)) (fun _ h9 => h9) dX7_takes_19 ?_
  refine lv_iconst (v := 1) hx hb dX7_takes_22 (by decide) ?_
  refine lv_iadd hx hb dX7_takes_23 ?_
  refine vpI (v := ((I 318 31) + 1)) (ty := .int) hx hb hts hi7 tyX7 tyX7_ok nmX7 hown hK hP hap hS (318) (by decide) (show kd 318 = 7 by decide) (C := RX7) (T := TX7) (N := 79) rfl 31 (by decide) (by decide) (by decide) (by decide) (hts (.fieldLink RX7 303 "CrateHelpersModel" "taken" "I") (by decide +kernel)) (fun _ h9 => h9) rfl (by decide +kernel) rfl rfl dX7_takes_24 (fun H locs hP hS => ?_)
  obtain ⟨I5, eI5, h⟩ := bd_e h
  rw [← eI5] at hP
  have hP : va_P D vwCl (VW K ad I5 G A4 L) H := hP
  exact W.vret hx hb hr (fun t9 ht9 hW9 => ⟨⟨(I5, G, A4, L), rfl, by cases h; rfl, by rw [ht9]; exact hP, va_K.moved hW9.alike hK⟩, hS.F ht9⟩) hS.2.2 dX7_takes_27
set_option maxHeartbeats 4000000 in
set_option maxRecDepth 100000 in
theorem e_X7_second (l : Launch) (D : va_G) (K : Nat → ClassId) (ad : Nat → Nat) (hap0 : apart ad (fun _ => True)) (a1 : Int32) (a2 : Int32) (I : Nat → Nat → Int32) (G : Nat → Nat → Nat) (A : Nat → Nat → Int32) (L : Nat → Nat → Int64) (r0 : Int32) (I0 : Nat → Nat → Int32) (A0 : Nat → Nat → Int32) (h : f_X7_second I A a1 a2 = some (r0, I0, A0)) : Ci l D K ad yX7_second wsX7_second 6 172 [.ref (ad 318), .int a1, .int a2] (I, G, A, L) (fun (r : Int32) (u : Mem) => r = r0 ∧ u = (I0, G, A0, L)) := by
  intro sz
  refine Met.ofW (cc := cX7_second) (maxL := 8) (ret := (some .int)) (by decide) rfl ?_
  intro p e s m args below meth c s₁ Bd hml hv0
  obtain ⟨rfl, hsz, hP, hK⟩ := hv0
  have hx := Bd.exec
  have hb := Bd.bytes
  have hr := Bd.returns
  have hts := atoms_spec (ws := wsX7_second) Bd.pre
  have hown : s.vm.findClass RX7 = some m.cls := findClass_of_methodNamed Bd.named
  have hlocks := Bd.notSynchronized
  have hi7 : ∀ w ∈ u_ws RX7 TX7 79, w ∈ wsX7_second := fun w h => List.mem_cons_of_mem _ (List.mem_append_right _ h)
  subst hsz
  have hap := vF_ap hap0 s.heap.size
  have hS : va_S (vF ad s.heap.size) s.heap s.heap [] := va_S.rf
  have hP : va_P D vwCl (VW K ad I G A L) s.heap := hP
  have hl := lv_entry ([.ref (ad 318), .int a1, .int a2]) (n := 8) (Nat.le_of_ble_eq_true rfl)
  rw [lg_entry_eq]
  generalize (lg_sl ([.ref (ad 318), .int a1, .int a2]) ++ List.replicate (8 - (lg_sl ([.ref (ad 318), .int a1, .int a2])).length) Slot.unset).toArray = ls at hl ⊢
  have hl : lv_has ls 8 [(0, .ref (ad 318)), (1, .int a1), (2, .int a2)] := hl
  rw [f_X7_second] at h
  refine lv_aload_n hx hb dX7_second_0 rfl (lv_at hl 0 rfl) ?_
  refine lv_iconst (v := 0) hx hb dX7_second_1 (by decide) ?_
  refine vpI (v := 0) (ty := .int) hx hb hts hi7 tyX7 tyX7_ok nmX7 hown hK hP hap hS (318) (by decide) (show kd 318 = 7 by decide) (C := RX7) (T := TX7) (N := 79) rfl 0 (by decide) (by decide) (by decide) (by decide) (hts (.fieldLink RX7 201 "CrateHelpersModel" "thrown" "I") (by decide +kernel)) (fun _ h9 => h9) rfl (by decide +kernel) rfl rfl dX7_second_2 (fun H locs hP hS => ?_)
  obtain ⟨I1, eI1, h⟩ := bd_e h
  rw [← eI1] at hP
  have hP : va_P D vwCl (VW K ad I1 G A L) H := hP
  refine lv_aload_n hx hb dX7_second_5 rfl (lv_at hl 0 rfl) ?_
  refine lv_iload_n hx hb dX7_second_6 rfl (lv_at hl 1 rfl) ?_
  obtain ⟨r2, hc3, h⟩ := Option.bind_eq_some_iff.mp h
  refine ecV (As := [.int a1]) (rest := []) ⟨hx, hb, hml, hown, hts⟩ (e_X7_isProblem l D K ad hap0 a1 I1 G A L r2 hc3) (cwV 1 hts gX7_second_X7_isProblem rfl rfl rfl (by decide +kernel) ⟨Nat.le_of_ble_eq_true rfl, Nat.le_of_ble_eq_true rfl⟩) hK hP hS (by decide) (show kd 318 = 7 by decide) (by decide) rfl rfl rfl hl.1 (Nat.le_of_ble_eq_true rfl) (Nat.le_of_ble_eq_true rfl) (Nat.le_of_ble_eq_true rfl) dX7_second_7 (fun H locs hP hS => ?_) rfl
  have hP : va_P D vwCl (VW K ad I1 G A L) H := hP
  refine lv_if_eq (tgt := 23) hx hb dX7_second_10 (by decide) (fun c_4 => ?_) (fun c_4 => ?_)
  · have h := ip c_4 h
    refine lv_ldcw (v := (-1000002)) hx hb hown (hts (.constant RX7 353 (-1000002)) (by decide +kernel)) dX7_second_23 ?_
    exact W.iret (v := (-1000002)) hx hb hr (fun t9 ht9 hW9 => ⟨⟨(-1000002), (I1, G, A, L), rfl, by cases h; exact ⟨rfl, rfl⟩, by rw [ht9]; exact hP, va_K.moved hW9.alike hK⟩, hS.F ht9⟩) hS.2.2 dX7_second_26
  · have h := iN c_4 h
    refine lv_iload_n hx hb dX7_second_13 rfl (lv_at hl 2 rfl) ?_
    refine lv_iconst (v := 0) hx hb dX7_second_14 (by decide) ?_
    refine lv_bipush (v := 60) hx hb dX7_second_15 (by decide) ?_
    obtain ⟨r5, hc6, h⟩ := Option.bind_eq_some_iff.mp h
    refine ecS (As := [.int a2, .int 0, .int 60]) (rest := []) ⟨hx, hb, hml, hown, hts⟩ (e_X7_in l D K ad hap0 a2 0 60 I1 G A L r5 hc6) (va_cwS 3 hts gX7_second_X7_in rfl rfl rfl (by decide +kernel) ⟨Nat.le_of_ble_eq_true rfl, Nat.le_of_ble_eq_true rfl⟩) hK hP hS rfl hl.1 (Nat.le_of_ble_eq_true rfl) (Nat.le_of_ble_eq_true rfl) (Nat.le_of_ble_eq_true rfl) dX7_second_17 (fun H locs hP hS => ?_) rfl
    have hP : va_P D vwCl (VW K ad I1 G A L) H := hP
    refine lv_if_ne (tgt := 27) hx hb dX7_second_20 (by decide) (fun c_7 => ?_) (fun c_7 => ?_)
    · have h := iN c_7 h
      refine lv_aload_n hx hb dX7_second_27 rfl (lv_at hl 0 rfl) ?_
      obtain ⟨⟨I8, A9⟩, hc10, h⟩ := Option.bind_eq_some_iff.mp h
      refine ecVv (As := []) (rest := []) ⟨hx, hb, hml, hown, hts⟩ (e_X7_aside l D K ad hap0  I1 G A L I8 A9 hc10) (cwV 0 hts gX7_second_X7_aside rfl rfl rfl (by decide +kernel) ⟨Nat.le_of_ble_eq_true rfl, Nat.le_of_ble_eq_true rfl⟩) hK hP hS (by decide) (show kd 318 = 7 by decide) (by decide) rfl rfl rfl hl.1 (Nat.le_of_ble_eq_true rfl) (Nat.le_of_ble_eq_true rfl) (Nat.le_of_ble_eq_true rfl) dX7_second_28 (fun H locs hP hS => ?_) rfl
      have hP : va_P D vwCl (VW K ad I8 G A9 L) H := hP
      refine lv_aload_n hx hb dX7_second_31 rfl (lv_at hl 0 rfl) ?_
      refine lv_iload_n hx hb dX7_second_32 rfl (lv_at hl 1 rfl) ?_
      refine lv_iconst (v := 0) hx hb dX7_second_33 (by decide) ?_
      obtain ⟨⟨I11, A12⟩, hc13, h⟩ := Option.bind_eq_some_iff.mp h
      refine ecVv (As := [.int a1, .int 0]) (rest := []) ⟨hx, hb, hml, hown, hts⟩ (e_X7_begins l D K ad hap0 a1 0 I8 G A9 L I11 A12 hc13) (cwV 2 hts gX7_second_X7_begins rfl rfl rfl (by decide +kernel) ⟨Nat.le_of_ble_eq_true rfl, Nat.le_of_ble_eq_true rfl⟩) hK hP hS (by decide) (show kd 318 = 7 by decide) (by decide) rfl rfl rfl hl.1 (Nat.le_of_ble_eq_true rfl) (Nat.le_of_ble_eq_true rfl) (Nat.le_of_ble_eq_true rfl) dX7_second_34 (fun H locs hP hS => ?_) rfl
      have hP : va_P D vwCl (VW K ad I11 G A12 L) H := hP
      refine lv_iconst (v := 0) hx hb dX7_second_37 (by decide) ?_
      refine lv_istore_n (lv' := [(3, .int 0), (0, .ref (ad 318)), (1, .int a1), (2, .int a2)]) hx hb dX7_second_38 rfl hl (by decide) rfl (fun ls hl => ?_)
      refine lv_bipush (v := (-9)) hx hb dX7_second_39 (by decide) ?_
      refine lv_istore (lv' := [(4, .int (-9)), (3, .int 0), (0, .ref (ad 318)), (1, .int a1), (2, .int a2)]) hx hb dX7_second_41 hl (by decide) rfl (fun ls hl => ?_)
      refine lv_aload_n hx hb dX7_second_43 rfl (lv_at hl 2 rfl) ?_
      obtain ⟨r14, hc15, h⟩ := Option.bind_eq_some_iff.mp h
      refine ecV (As := []) (rest := []) ⟨hx, hb, hml, hown, hts⟩ (e_X7_nextOf l D K ad hap0  I11 G A12 L r14 hc15) (cwV 0 hts gX7_second_X7_nextOf rfl rfl rfl (by decide +kernel) ⟨Nat.le_of_ble_eq_true rfl, Nat.le_of_ble_eq_true rfl⟩) hK hP hS (by decide) (show kd 318 = 7 by decide) (by decide) rfl rfl rfl hl.1 (Nat.le_of_ble_eq_true rfl) (Nat.le_of_ble_eq_true rfl) (Nat.le_of_ble_eq_true rfl) dX7_second_44 (fun H locs hP hS => ?_) rfl
      have hP : va_P D vwCl (VW K ad I11 G A12 L) H := hP
      refine lv_istore (lv' := [(5, .int r14), (4, .int (-9)), (3, .int 0), (0, .ref (ad 318)), (1, .int a1), (2, .int a2)]) hx hb dX7_second_47 hl (by decide) rfl (fun ls hl => ?_)
      obtain ⟨k22, ek22, h⟩ := bd_e h
      have kk22 : ∀ (v23 : Int32) (v24 : Int32) (I25 : Nat → Nat → Int32) (A26 : Nat → Nat → Int32), k22 v23 v24 I25 A26 = some (r0, I0, A0) → ∀ (H : Heap) (locs : List Loc), va_P D vwCl (VW K ad I25 G A26 L) H → va_S (vF ad s.heap.size) s.heap H locs → ∀ (ls : Array Slot), lv_has ls 8 [(0, .ref (ad 318)), (1, .int a1), (4, .int v23), (5, .int v24)] → W p l e ({ frames := 6, cells := 0, slots := 0, locals := 172 }) s m ([.ref (ad 318), .int a1, .int a2] : List Value).toArray below meth c H locs 0 0 (MQ below (va_Qi (fun (r : Int32) (u : Mem) => r = r0 ∧ u = (I0, G, A0, L)) (vB D K ad) (vF ad s.heap.size)) ([.ref (ad 318), .int a1, .int a2] : List Value).toArray s 0 0 (vF ad s.heap.size)) (F0 m 129 ls []) := by
        intro v23 v24 I25 A26 h H locs hP hS ls hl
        subst ek22
        refine lv_aload_n hx hb dX7_second_129 rfl (lv_at hl 0 rfl) ?_
        refine lv_iload hx hb dX7_second_130 (lv_at hl 2 rfl) ?_
        refine lv_bipush (v := (-9)) hx hb dX7_second_132 (by decide) ?_
        obtain ⟨j29, ej29, h⟩ := bd_e h
        have kj29 : ∀ (z28 : Int32), j29 z28 = some (r0, I0, A0) → ∀ (H : Heap) (locs : List Loc), va_P D vwCl (VW K ad I25 G A26 L) H → va_S (vF ad s.heap.size) s.heap H locs → ∀ (ls : Array Slot), lv_has ls 8 [(0, .ref (ad 318)), (4, .int v23), (5, .int v24)] → W p l e ({ frames := 6, cells := 0, slots := 0, locals := 172 }) s m ([.ref (ad 318), .int a1, .int a2] : List Value).toArray below meth c H locs 0 0 (MQ below (va_Qi (fun (r : Int32) (u : Mem) => r = r0 ∧ u = (I0, G, A0, L)) (vB D K ad) (vF ad s.heap.size)) ([.ref (ad 318), .int a1, .int a2] : List Value).toArray s 0 0 (vF ad s.heap.size)) (F0 m 148 ls [.int z28, .ref (ad 318)]) := by
          intro z28 h H locs hP hS ls hl
          subst ej29
          refine vpI (v := z28) (ty := .int) hx hb hts hi7 tyX7 tyX7_ok nmX7 hown hK hP hap hS (318) (by decide) (show kd 318 = 7 by decide) (C := RX7) (T := TX7) (N := 79) rfl 61 (by decide) (by decide) (by decide) (by decide) (hts (.fieldLink RX7 153 "CrateHelpersModel" "secondMany" "I") (by decide +kernel)) (fun _ h9 => h9) rfl (by decide +kernel) rfl rfl dX7_second_148 (fun H locs hP hS => ?_)
          obtain ⟨I30, eI30, h⟩ := bd_e h
          rw [← eI30] at hP
          have hP : va_P D vwCl (VW K ad I30 G A26 L) H := hP
          refine lv_iload hx hb dX7_second_151 (lv_at hl 1 rfl) ?_
          refine lv_bipush (v := (-9)) hx hb dX7_second_153 (by decide) ?_
          obtain ⟨j34, ej34, h⟩ := bd_e h
          have kj34 : ∀ (z33 : Int32), j34 z33 = some (r0, I0, A0) → ∀ (H : Heap) (locs : List Loc), va_P D vwCl (VW K ad I30 G A26 L) H → va_S (vF ad s.heap.size) s.heap H locs → ∀ (ls : Array Slot), lv_has ls 8 [(0, .ref (ad 318)), (4, .int v23)] → W p l e ({ frames := 6, cells := 0, slots := 0, locals := 172 }) s m ([.ref (ad 318), .int a1, .int a2] : List Value).toArray below meth c H locs 0 0 (MQ below (va_Qi (fun (r : Int32) (u : Mem) => r = r0 ∧ u = (I0, G, A0, L)) (vB D K ad) (vF ad s.heap.size)) ([.ref (ad 318), .int a1, .int a2] : List Value).toArray s 0 0 (vF ad s.heap.size)) (F0 m 183 ls [.int z33]) := by
            intro z33 h H locs hP hS ls hl
            subst ej34
            refine lv_istore (lv' := [(6, .int z33), (0, .ref (ad 318)), (4, .int v23)]) hx hb dX7_second_183 hl (by decide) rfl (fun ls hl => ?_)
            refine lv_iconst (v := 0) hx hb dX7_second_185 (by decide) ?_
            refine lv_istore (lv' := [(7, .int 0), (6, .int z33), (0, .ref (ad 318)), (4, .int v23)]) hx hb dX7_second_186 hl (by decide) rfl (fun ls hl => ?_)
            obtain ⟨k38, ek38, h⟩ := bd_e h
            have kk38 : ∀ (A39 : Nat → Nat → Int32), k38 A39 = some (r0, I0, A0) → ∀ (H : Heap) (locs : List Loc), va_P D vwCl (VW K ad I30 G A39 L) H → va_S (vF ad s.heap.size) s.heap H locs → ∀ (ls : Array Slot), lv_has ls 8 [(0, .ref (ad 318)), (6, .int z33)] → W p l e ({ frames := 6, cells := 0, slots := 0, locals := 172 }) s m ([.ref (ad 318), .int a1, .int a2] : List Value).toArray below meth c H locs 0 0 (MQ below (va_Qi (fun (r : Int32) (u : Mem) => r = r0 ∧ u = (I0, G, A0, L)) (vB D K ad) (vF ad s.heap.size)) ([.ref (ad 318), .int a1, .int a2] : List Value).toArray s 0 0 (vF ad s.heap.size)) (F0 m 228 ls []) := by
              intro A39 h H locs hP hS ls hl
              subst ek38
              refine lv_aload_n hx hb dX7_second_228 rfl (lv_at hl 0 rfl) ?_
              obtain ⟨⟨I40, A41⟩, hc42, h⟩ := Option.bind_eq_some_iff.mp h
              refine ecVv (As := []) (rest := []) ⟨hx, hb, hml, hown, hts⟩ (e_X7_aside l D K ad hap0  I30 G A39 L I40 A41 hc42) (cwV 0 hts gX7_second_X7_aside rfl rfl rfl (by decide +kernel) ⟨Nat.le_of_ble_eq_true rfl, Nat.le_of_ble_eq_true rfl⟩) hK hP hS (by decide) (show kd 318 = 7 by decide) (by decide) rfl rfl rfl hl.1 (Nat.le_of_ble_eq_true rfl) (Nat.le_of_ble_eq_true rfl) (Nat.le_of_ble_eq_true rfl) dX7_second_229 (fun H locs hP hS => ?_) rfl
              have hP : va_P D vwCl (VW K ad I40 G A41 L) H := hP
              refine lv_iload hx hb dX7_second_232 (lv_at hl 1 rfl) ?_
              exact W.iret (v := z33) hx hb hr (fun t9 ht9 hW9 => ⟨⟨z33, (I40, G, A41, L), rfl, by cases h; exact ⟨rfl, rfl⟩, by rw [ht9]; exact hP, va_K.moved hW9.alike hK⟩, hS.F ht9⟩) hS.2.2 dX7_second_234
            have lp35 : ∀ (n : Nat) (v36 : Int32) (A37 : Nat → Nat → Int32), f_X7_second_L188 z33 v23 I30 k38 n v36 A37 = some (r0, I0, A0) → ∀ (H : Heap) (locs : List Loc), va_P D vwCl (VW K ad I30 G A37 L) H → va_S (vF ad s.heap.size) s.heap H locs → ∀ (ls : Array Slot), lv_has ls 8 [(7, .int v36), (6, .int z33), (0, .ref (ad 318)), (4, .int v23)] → W p l e ({ frames := 6, cells := 0, slots := 0, locals := 172 }) s m ([.ref (ad 318), .int a1, .int a2] : List Value).toArray below meth c H locs 0 0 (MQ below (va_Qi (fun (r : Int32) (u : Mem) => r = r0 ∧ u = (I0, G, A0, L)) (vB D K ad) (vF ad s.heap.size)) ([.ref (ad 318), .int a1, .int a2] : List Value).toArray s 0 0 (vF ad s.heap.size)) (F0 m 188 ls []) := by
              intro n
              induction n with
              | zero => intro v36 A37 h; exact absurd h (by rw [f_X7_second_L188]; exact nofun)
              | succ n ih35 =>
                intro v36 A37 h H locs hP hS ls hl
                rw [f_X7_second_L188] at h
                refine lv_iload hx hb dX7_second_188 (lv_at hl 0 rfl) ?_
                refine lv_bipush (v := 6) hx hb dX7_second_190 (by decide) ?_
                refine lv_icmp_ge (tgt := 228) hx hb dX7_second_192 (by decide) (fun c_43 => ?_) (fun c_43 => ?_)
                · have h := iN (Int32.not_lt.mpr c_43) h
                  exact kk38 A37 h _ _ hP hS ls (lv_sub hl [2, 1] rfl)
                · have h := ip (Int32.not_le.mp c_43) h
                  refine lv_iload hx hb dX7_second_195 (lv_at hl 3 rfl) ?_
                  refine lv_bipush (v := (-9)) hx hb dX7_second_197 (by decide) ?_
                  refine lv_icmp_eq (tgt := 228) hx hb dX7_second_199 (by decide) (fun c_44 => ?_) (fun c_44 => ?_)
                  · have h := ip c_44 h
                    exact kk38 A37 h _ _ hP hS ls (lv_sub hl [2, 1] rfl)
                  · have h := iN c_44 h
                    refine lv_aload_n hx hb dX7_second_202 rfl (lv_at hl 2 rfl) ?_
                    refine vgC hx hb hts hi7 hown hK hP (318) (by decide) (show kd 318 = 7 by decide) (C := RX7) (T := TX7) (N := 79) rfl 62 (by decide) (by decide) (by decide) (by decide) (363) rfl (hts (.fieldLink RX7 156 "CrateHelpersModel" "secondRow" "[I") (by decide +kernel)) (fun _ h9 => h9) dX7_second_203 ?_
                    refine lv_iload hx hb dX7_second_206 (lv_at hl 0 rfl) ?_
                    refine lv_aload_n hx hb dX7_second_208 rfl (lv_at hl 2 rfl) ?_
                    refine vgC hx hb hts hi7 hown hK hP (318) (by decide) (show kd 318 = 7 by decide) (C := RX7) (T := TX7) (N := 79) rfl 33 (by decide) (by decide) (by decide) (by decide) (339) rfl (hts (.fieldLink RX7 77 "CrateHelpersModel" "row" "[I") (by decide +kernel)) (fun _ h9 => h9) dX7_second_209 ?_
                    refine lv_bipush (v := 6) hx hb dX7_second_212 (by decide) ?_
                    refine lv_iload hx hb dX7_second_214 (lv_at hl 3 rfl) ?_
                    refine lv_imul hx hb dX7_second_216 ?_
                    refine lv_iload hx hb dX7_second_217 (lv_at hl 0 rfl) ?_
                    refine lv_iadd hx hb dX7_second_219 ?_
                    obtain ⟨hn45, h⟩ := gk h
                    refine xiald hx hb hK hP (339) (by decide) (show kd 339 = 8 by decide) (by rw [show ln 339 = 12000 by decide]; exact hn45) dX7_second_220 ?_
                    obtain ⟨hn46, h⟩ := gk h
                    refine xiast hx hb hK hP hap hS (363) (by decide) (show kd 363 = 8 by decide) (by rw [show ln 363 = 6 by decide]; exact hn46) dX7_second_221 (fun H locs hP hS => ?_)
                    obtain ⟨A47, eA47, h⟩ := bd_e h
                    rw [← eA47] at hP
                    have hP : va_P D vwCl (VW K ad I30 G A47 L) H := hP
                    refine lv_iinc (v := (v36 + 1)) (lv' := [(7, .int (v36 + 1)), (6, .int z33), (0, .ref (ad 318)), (4, .int v23)]) hx hb dX7_second_222 hl (k := 0) rfl rfl (by decide) rfl (fun ls hl => ?_)
                    refine lv_goto (tgt := 188) hx hb dX7_second_225 (by decide) ?_
                    exact ih35 (v36 + 1) A47 h _ _ hP hS ls (lv_sub hl [0, 1, 2, 3] rfl)
            exact lp35 FU 0 A26 h _ _ hP hS ls (lv_sub hl [0, 1, 2, 3] rfl)
          refine lv_icmp_eq (tgt := 168) hx hb dX7_second_155 (by decide) (fun c_48 => ?_) (fun c_48 => ?_)
          · have h := ip c_48 h
            refine lv_iload hx hb dX7_second_168 (lv_at hl 2 rfl) ?_
            refine lv_bipush (v := (-9)) hx hb dX7_second_170 (by decide) ?_
            refine lv_icmp_ne (tgt := 180) hx hb dX7_second_172 (by decide) (fun c_49 => ?_) (fun c_49 => ?_)
            · have h := iN c_49 h
              refine lv_ldcw (v := (-1000001)) hx hb hown (hts (.constant RX7 357 (-1000001)) (by decide +kernel)) dX7_second_180 ?_
              exact kj34 (-1000001) h _ _ hP hS ls (lv_sub hl [0, 1] rfl)
            · have h := ip c_49 h
              refine lv_ldc (v := (-1000000)) hx hb hown (hts (.constant RX7 224 (-1000000)) (by decide +kernel)) dX7_second_175 ?_
              refine lv_goto (tgt := 183) hx hb dX7_second_177 (by decide) ?_
              exact kj34 (-1000000) h _ _ hP hS ls (lv_sub hl [0, 1] rfl)
          · have h := iN c_48 h
            refine lv_aload_n hx hb dX7_second_158 rfl (lv_at hl 0 rfl) ?_
            refine vgC hx hb hts hi7 hown hK hP (318) (by decide) (show kd 318 = 7 by decide) (C := RX7) (T := TX7) (N := 79) rfl 35 (by decide) (by decide) (by decide) (by decide) (341) rfl (hts (.fieldLink RX7 83 "CrateHelpersModel" "bound" "[I") (by decide +kernel)) (fun _ h9 => h9) dX7_second_159 ?_
            refine lv_iload hx hb dX7_second_162 (lv_at hl 1 rfl) ?_
            obtain ⟨hn50, h⟩ := gk h
            refine xiald hx hb hK hP (341) (by decide) (show kd 341 = 8 by decide) (by rw [show ln 341 = 2000 by decide]; exact hn50) dX7_second_164 ?_
            refine lv_goto (tgt := 183) hx hb dX7_second_165 (by decide) ?_
            exact kj34 (A26 341 v23.toNatClampNeg) h _ _ hP hS ls (lv_sub hl [0, 1] rfl)
        refine lv_icmp_ne (tgt := 142) hx hb dX7_second_134 (by decide) (fun c_51 => ?_) (fun c_51 => ?_)
        · have h := iN c_51 h
          refine lv_aload_n hx hb dX7_second_142 rfl (lv_at hl 0 rfl) ?_
          refine vgC hx hb hts hi7 hown hK hP (318) (by decide) (show kd 318 = 7 by decide) (C := RX7) (T := TX7) (N := 79) rfl 3 (by decide) (by decide) (by decide) (by decide) (319) rfl (hts (.fieldLink RX7 7 "CrateHelpersModel" "variables" "[I") (by decide +kernel)) (fun _ h9 => h9) dX7_second_143 ?_
          refine lv_iload_n hx hb dX7_second_146 rfl (lv_at hl 1 rfl) ?_
          obtain ⟨hn52, h⟩ := gk h
          refine xiald hx hb hK hP (319) (by decide) (show kd 319 = 8 by decide) (by rw [show ln 319 = 5 by decide]; exact hn52) dX7_second_147 ?_
          exact kj29 (A26 319 a1.toNatClampNeg) h _ _ hP hS ls (lv_sub hl [0, 2, 3] rfl)
        · have h := ip c_51 h
          refine lv_bipush (v := (-9)) hx hb dX7_second_137 (by decide) ?_
          refine lv_goto (tgt := 148) hx hb dX7_second_139 (by decide) ?_
          exact kj29 (-9) h _ _ hP hS ls (lv_sub hl [0, 2, 3] rfl)
      have lp16 : ∀ (n : Nat) (v17 : Int32) (v18 : Int32) (v19 : Int32) (I20 : Nat → Nat → Int32) (A21 : Nat → Nat → Int32), f_X7_second_L49 a1 a2 k22 n v17 v18 v19 I20 A21 = some (r0, I0, A0) → ∀ (H : Heap) (locs : List Loc), va_P D vwCl (VW K ad I20 G A21 L) H → va_S (vF ad s.heap.size) s.heap H locs → ∀ (ls : Array Slot), lv_has ls 8 [(5, .int v17), (4, .int v18), (3, .int v19), (0, .ref (ad 318)), (1, .int a1), (2, .int a2)] → W p l e ({ frames := 6, cells := 0, slots := 0, locals := 172 }) s m ([.ref (ad 318), .int a1, .int a2] : List Value).toArray below meth c H locs 0 0 (MQ below (va_Qi (fun (r : Int32) (u : Mem) => r = r0 ∧ u = (I0, G, A0, L)) (vB D K ad) (vF ad s.heap.size)) ([.ref (ad 318), .int a1, .int a2] : List Value).toArray s 0 0 (vF ad s.heap.size)) (F0 m 49 ls []) := by
        intro n
        induction n with
        | zero => intro v17 v18 v19 I20 A21 h; exact absurd h (by rw [f_X7_second_L49]; exact nofun)
        | succ n ih16 =>
          intro v17 v18 v19 I20 A21 h H locs hP hS ls hl
          rw [f_X7_second_L49] at h
          refine lv_iload hx hb dX7_second_49 (lv_at hl 0 rfl) ?_
          refine lv_bipush (v := (-9)) hx hb dX7_second_51 (by decide) ?_
          refine lv_icmp_eq (tgt := 129) hx hb dX7_second_53 (by decide) (fun c_53 => ?_) (fun c_53 => ?_)
          · have h := ip c_53 h
            exact kk22 v18 v17 I20 A21 h _ _ hP hS ls (lv_sub hl [3, 4, 1, 0] rfl)
          · have h := iN c_53 h
            refine lv_aload_n hx hb dX7_second_56 rfl (lv_at hl 3 rfl) ?_
            refine vgI hx hb hts hi7 hown hK hP (318) (by decide) (show kd 318 = 7 by decide) (C := RX7) (T := TX7) (N := 79) rfl 31 (by decide) (by decide) (by decide) (by decide) (hts (.fieldLink RX7 303 "CrateHelpersModel" "taken" "I") (by decide +kernel)) (fun _ h9 => h9) dX7_second_57 ?_
            refine lv_sipush (v := 250) hx hb dX7_second_60 (by decide) ?_
            refine lv_icmp_ge (tgt := 129) hx hb dX7_second_63 (by decide) (fun c_54 => ?_) (fun c_54 => ?_)
            · have h := iN (Int32.not_lt.mpr c_54) h
              exact kk22 v18 v17 I20 A21 h _ _ hP hS ls (lv_sub hl [3, 4, 1, 0] rfl)
            · have h := ip (Int32.not_le.mp c_54) h
              refine lv_iload hx hb dX7_second_66 (lv_at hl 1 rfl) ?_
              refine lv_bipush (v := (-9)) hx hb dX7_second_68 (by decide) ?_
              refine lv_icmp_ne (tgt := 129) hx hb dX7_second_70 (by decide) (fun c_55 => ?_) (fun c_55 => ?_)
              · have h := iN c_55 h
                exact kk22 v18 v17 I20 A21 h _ _ hP hS ls (lv_sub hl [3, 4, 1, 0] rfl)
              · have h := ip c_55 h
                refine lv_aload_n hx hb dX7_second_73 rfl (lv_at hl 3 rfl) ?_
                refine lv_iload hx hb dX7_second_74 (lv_at hl 0 rfl) ?_
                obtain ⟨⟨I56, A57⟩, hc58, h⟩ := Option.bind_eq_some_iff.mp h
                refine ecVv (As := [.int v17]) (rest := []) ⟨hx, hb, hml, hown, hts⟩ (e_X7_takes l D K ad hap0 v17 I20 G A21 L I56 A57 hc58) (cwV 1 hts gX7_second_X7_takes rfl rfl rfl (by decide +kernel) ⟨Nat.le_of_ble_eq_true rfl, Nat.le_of_ble_eq_true rfl⟩) hK hP hS (by decide) (show kd 318 = 7 by decide) (by decide) rfl rfl rfl hl.1 (Nat.le_of_ble_eq_true rfl) (Nat.le_of_ble_eq_true rfl) (Nat.le_of_ble_eq_true rfl) dX7_second_76 (fun H locs hP hS => ?_) rfl
                have hP : va_P D vwCl (VW K ad I56 G A57 L) H := hP
                refine lv_aload_n hx hb dX7_second_79 rfl (lv_at hl 3 rfl) ?_
                refine lv_iload_n hx hb dX7_second_80 rfl (lv_at hl 4 rfl) ?_
                refine lv_iload hx hb dX7_second_81 (lv_at hl 0 rfl) ?_
                refine lv_iconst (v := 0) hx hb dX7_second_83 (by decide) ?_
                obtain ⟨⟨I59, A60⟩, hc61, h⟩ := Option.bind_eq_some_iff.mp h
                refine ecVv (As := [.int a1, .int v17, .int 0]) (rest := []) ⟨hx, hb, hml, hown, hts⟩ (e_X7_opens l D K ad hap0 a1 v17 0 I56 G A57 L I59 A60 hc61) (cwV 3 hts gX7_second_X7_opens rfl rfl rfl (by decide +kernel) ⟨Nat.le_of_ble_eq_true rfl, Nat.le_of_ble_eq_true rfl⟩) hK hP hS (by decide) (show kd 318 = 7 by decide) (by decide) rfl rfl rfl hl.1 (Nat.le_of_ble_eq_true rfl) (Nat.le_of_ble_eq_true rfl) (Nat.le_of_ble_eq_true rfl) dX7_second_84 (fun H locs hP hS => ?_) rfl
                have hP : va_P D vwCl (VW K ad I59 G A60 L) H := hP
                refine lv_aload_n hx hb dX7_second_87 rfl (lv_at hl 3 rfl) ?_
                refine vgC hx hb hts hi7 hown hK hP (318) (by decide) (show kd 318 = 7 by decide) (C := RX7) (T := TX7) (N := 79) rfl 32 (by decide) (by decide) (by decide) (by decide) (338) rfl (hts (.fieldLink RX7 74 "CrateHelpersModel" "depth" "[I") (by decide +kernel)) (fun _ h9 => h9) dX7_second_88 ?_
                refine lv_iload hx hb dX7_second_91 (lv_at hl 0 rfl) ?_
                obtain ⟨hn62, h⟩ := gk h
                refine xiald hx hb hK hP (338) (by decide) (show kd 338 = 8 by decide) (by rw [show ln 338 = 2000 by decide]; exact hn62) dX7_second_93 ?_
                refine lv_aload_n hx hb dX7_second_94 rfl (lv_at hl 3 rfl) ?_
                refine vgC hx hb hts hi7 hown hK hP (318) (by decide) (show kd 318 = 7 by decide) (C := RX7) (T := TX7) (N := 79) rfl 3 (by decide) (by decide) (by decide) (by decide) (319) rfl (hts (.fieldLink RX7 7 "CrateHelpersModel" "variables" "[I") (by decide +kernel)) (fun _ h9 => h9) dX7_second_95 ?_
                refine lv_iload_n hx hb dX7_second_98 rfl (lv_at hl 4 rfl) ?_
                obtain ⟨hn63, h⟩ := gk h
                refine xiald hx hb hK hP (319) (by decide) (show kd 319 = 8 by decide) (by rw [show ln 319 = 5 by decide]; exact hn63) dX7_second_99 ?_
                refine lv_icmp_ne (tgt := 120) hx hb dX7_second_100 (by decide) (fun c_64 => ?_) (fun c_64 => ?_)
                · have h := iN c_64 h
                  refine lv_aload_n hx hb dX7_second_120 rfl (lv_at hl 3 rfl) ?_
                  obtain ⟨r65, hc66, h⟩ := Option.bind_eq_some_iff.mp h
                  refine ecV (As := []) (rest := []) ⟨hx, hb, hml, hown, hts⟩ (e_X7_nextOf l D K ad hap0  I59 G A60 L r65 hc66) (cwV 0 hts gX7_second_X7_nextOf rfl rfl rfl (by decide +kernel) ⟨Nat.le_of_ble_eq_true rfl, Nat.le_of_ble_eq_true rfl⟩) hK hP hS (by decide) (show kd 318 = 7 by decide) (by decide) rfl rfl rfl hl.1 (Nat.le_of_ble_eq_true rfl) (Nat.le_of_ble_eq_true rfl) (Nat.le_of_ble_eq_true rfl) dX7_second_121 (fun H locs hP hS => ?_) rfl
                  have hP : va_P D vwCl (VW K ad I59 G A60 L) H := hP
                  refine lv_istore (lv' := [(5, .int r65), (4, .int v18), (3, .int v19), (0, .ref (ad 318)), (1, .int a1), (2, .int a2)]) hx hb dX7_second_124 hl (by decide) rfl (fun ls hl => ?_)
                  refine lv_goto (tgt := 49) hx hb dX7_second_126 (by decide) ?_
                  exact ih16 r65 v18 v19 I59 A60 h _ _ hP hS ls (lv_sub hl [0, 1, 2, 3, 4, 5] rfl)
                · have h := ip c_64 h
                  refine lv_iload_n hx hb dX7_second_103 rfl (lv_at hl 2 rfl) ?_
                  refine lv_iload_n hx hb dX7_second_104 rfl (lv_at hl 5 rfl) ?_
                  refine lv_icmp_ne (tgt := 113) hx hb dX7_second_105 (by decide) (fun c_67 => ?_) (fun c_67 => ?_)
                  · have h := iN c_67 h
                    refine lv_bipush (v := (-9)) hx hb dX7_second_113 (by decide) ?_
                    refine lv_istore (lv' := [(4, .int (-9)), (5, .int v17), (3, .int v19), (0, .ref (ad 318)), (1, .int a1), (2, .int a2)]) hx hb dX7_second_115 hl (by decide) rfl (fun ls hl => ?_)
                    refine lv_iinc (v := (v19 + 1)) (lv' := [(3, .int (v19 + 1)), (4, .int (-9)), (5, .int v17), (0, .ref (ad 318)), (1, .int a1), (2, .int a2)]) hx hb dX7_second_117 hl (k := 2) rfl rfl (by decide) rfl (fun ls hl => ?_)
                    refine lv_aload_n hx hb dX7_second_120 rfl (lv_at hl 3 rfl) ?_
                    obtain ⟨r68, hc69, h⟩ := Option.bind_eq_some_iff.mp h
                    refine ecV (As := []) (rest := []) ⟨hx, hb, hml, hown, hts⟩ (e_X7_nextOf l D K ad hap0  I59 G A60 L r68 hc69) (cwV 0 hts gX7_second_X7_nextOf rfl rfl rfl (by decide +kernel) ⟨Nat.le_of_ble_eq_true rfl, Nat.le_of_ble_eq_true rfl⟩) hK hP hS (by decide) (show kd 318 = 7 by decide) (by decide) rfl rfl rfl hl.1 (Nat.le_of_ble_eq_true rfl) (Nat.le_of_ble_eq_true rfl) (Nat.le_of_ble_eq_true rfl) dX7_second_121 (fun H locs hP hS => ?_) rfl
                    have hP : va_P D vwCl (VW K ad I59 G A60 L) H := hP
                    refine lv_istore (lv' := [(5, .int r68), (3, .int (v19 + 1)), (4, .int (-9)), (0, .ref (ad 318)), (1, .int a1), (2, .int a2)]) hx hb dX7_second_124 hl (by decide) rfl (fun ls hl => ?_)
                    refine lv_goto (tgt := 49) hx hb dX7_second_126 (by decide) ?_
                    exact ih16 r68 (-9) (v19 + 1) I59 A60 h _ _ hP hS ls (lv_sub hl [0, 2, 1, 3, 4, 5] rfl)
                  · have h := ip c_67 h
                    refine lv_iload hx hb dX7_second_108 (lv_at hl 0 rfl) ?_
                    refine lv_goto (tgt := 115) hx hb dX7_second_110 (by decide) ?_
                    refine lv_istore (lv' := [(4, .int v17), (5, .int v17), (3, .int v19), (0, .ref (ad 318)), (1, .int a1), (2, .int a2)]) hx hb dX7_second_115 hl (by decide) rfl (fun ls hl => ?_)
                    refine lv_iinc (v := (v19 + 1)) (lv' := [(3, .int (v19 + 1)), (4, .int v17), (5, .int v17), (0, .ref (ad 318)), (1, .int a1), (2, .int a2)]) hx hb dX7_second_117 hl (k := 2) rfl rfl (by decide) rfl (fun ls hl => ?_)
                    refine lv_aload_n hx hb dX7_second_120 rfl (lv_at hl 3 rfl) ?_
                    obtain ⟨r70, hc71, h⟩ := Option.bind_eq_some_iff.mp h
                    refine ecV (As := []) (rest := []) ⟨hx, hb, hml, hown, hts⟩ (e_X7_nextOf l D K ad hap0  I59 G A60 L r70 hc71) (cwV 0 hts gX7_second_X7_nextOf rfl rfl rfl (by decide +kernel) ⟨Nat.le_of_ble_eq_true rfl, Nat.le_of_ble_eq_true rfl⟩) hK hP hS (by decide) (show kd 318 = 7 by decide) (by decide) rfl rfl rfl hl.1 (Nat.le_of_ble_eq_true rfl) (Nat.le_of_ble_eq_true rfl) (Nat.le_of_ble_eq_true rfl) dX7_second_121 (fun H locs hP hS => ?_) rfl
                    have hP : va_P D vwCl (VW K ad I59 G A60 L) H := hP
                    refine lv_istore (lv' := [(5, .int r70), (3, .int (v19 + 1)), (4, .int v17), (0, .ref (ad 318)), (1, .int a1), (2, .int a2)]) hx hb dX7_second_124 hl (by decide) rfl (fun ls hl => ?_)
                    refine lv_goto (tgt := 49) hx hb dX7_second_126 (by decide) ?_
                    exact ih16 r70 v17 (v19 + 1) I59 A60 h _ _ hP hS ls (lv_sub hl [0, 2, 1, 3, 4, 5] rfl)
      exact lp16 FU r14 (-9) 0 I11 A12 h _ _ hP hS ls (lv_sub hl [0, 1, 2, 3, 4, 5] rfl)
    · have h := ip c_7 h
      refine lv_ldcw (v := (-1000002)) hx hb hown (hts (.constant RX7 353 (-1000002)) (by decide +kernel)) dX7_second_23 ?_
      exact W.iret (v := (-1000002)) hx hb hr (fun t9 ht9 hW9 => ⟨⟨(-1000002), (I1, G, A, L), rfl, by cases h; exact ⟨rfl, rfl⟩, by rw [ht9]; exact hP, va_K.moved hW9.alike hK⟩, hS.F ht9⟩) hS.2.2 dX7_second_26
set_option maxHeartbeats 4000000 in
set_option maxRecDepth 100000 in
theorem e_X7_turnOf (l : Launch) (D : va_G) (K : Nat → ClassId) (ad : Nat → Nat) (hap0 : apart ad (fun _ => True)) (a1 : Int32) (a2 : Int32) (I : Nat → Nat → Int32) (G : Nat → Nat → Nat) (A : Nat → Nat → Int32) (L : Nat → Nat → Int64) (I0 : Nat → Nat → Int32) (A0 : Nat → Nat → Int32) (h : f_X7_turnOf I A a1 a2 = some (I0, A0)) : Cv l D K ad yX7_turnOf wsX7_turnOf 6 172 [.ref (ad 318), .int a1, .int a2] (I, G, A, L) (fun (u : Mem) => u = (I0, G, A0, L)) := by
  intro sz
  refine Met.ofW (cc := cX7_turnOf) (maxL := 5) (ret := none) (by decide) rfl ?_
  intro p e s m args below meth c s₁ Bd hml hv0
  obtain ⟨rfl, hsz, hP, hK⟩ := hv0
  have hx := Bd.exec
  have hb := Bd.bytes
  have hr := Bd.returns
  have hts := atoms_spec (ws := wsX7_turnOf) Bd.pre
  have hown : s.vm.findClass RX7 = some m.cls := findClass_of_methodNamed Bd.named
  have hlocks := Bd.notSynchronized
  have hi7 : ∀ w ∈ u_ws RX7 TX7 79, w ∈ wsX7_turnOf := fun w h => List.mem_cons_of_mem _ (List.mem_append_right _ h)
  subst hsz
  have hap := vF_ap hap0 s.heap.size
  have hS : va_S (vF ad s.heap.size) s.heap s.heap [] := va_S.rf
  have hP : va_P D vwCl (VW K ad I G A L) s.heap := hP
  have hl := lv_entry ([.ref (ad 318), .int a1, .int a2]) (n := 5) (Nat.le_of_ble_eq_true rfl)
  rw [lg_entry_eq]
  generalize (lg_sl ([.ref (ad 318), .int a1, .int a2]) ++ List.replicate (5 - (lg_sl ([.ref (ad 318), .int a1, .int a2])).length) Slot.unset).toArray = ls at hl ⊢
  have hl : lv_has ls 5 [(0, .ref (ad 318)), (1, .int a1), (2, .int a2)] := hl
  rw [f_X7_turnOf] at h
  refine lv_aload_n hx hb dX7_turnOf_0 rfl (lv_at hl 0 rfl) ?_
  refine vgC hx hb hts hi7 hown hK hP (318) (by decide) (show kd 318 = 7 by decide) (C := RX7) (T := TX7) (N := 79) rfl 27 (by decide) (by decide) (by decide) (by decide) (337) rfl (hts (.fieldLink RX7 71 "CrateHelpersModel" "holds" "[I") (by decide +kernel)) (fun _ h9 => h9) dX7_turnOf_1 ?_
  refine lv_iload_n hx hb dX7_turnOf_4 rfl (lv_at hl 2 rfl) ?_
  obtain ⟨hn1, h⟩ := gk h
  refine xiald hx hb hK hP (337) (by decide) (show kd 337 = 8 by decide) (by rw [show ln 337 = 5 by decide]; exact hn1) dX7_turnOf_5 ?_
  refine lv_bipush (v := (-9)) hx hb dX7_turnOf_6 (by decide) ?_
  refine lv_icmp_ne (tgt := 123) hx hb dX7_turnOf_8 (by decide) (fun c_2 => ?_) (fun c_2 => ?_)
  · have h := iN c_2 h
    refine lv_aload_n hx hb dX7_turnOf_123 rfl (lv_at hl 0 rfl) ?_
    refine vgC hx hb hts hi7 hown hK hP (318) (by decide) (show kd 318 = 7 by decide) (C := RX7) (T := TX7) (N := 79) rfl 27 (by decide) (by decide) (by decide) (by decide) (337) rfl (hts (.fieldLink RX7 71 "CrateHelpersModel" "holds" "[I") (by decide +kernel)) (fun _ h9 => h9) dX7_turnOf_124 ?_
    refine lv_iload_n hx hb dX7_turnOf_127 rfl (lv_at hl 2 rfl) ?_
    refine xiald hx hb hK hP (337) (by decide) (show kd 337 = 8 by decide) (by rw [show ln 337 = 5 by decide]; exact hn1) dX7_turnOf_128 ?_
    refine lv_istore_n (lv' := [(3, .int (A 337 a2.toNatClampNeg)), (0, .ref (ad 318)), (1, .int a1), (2, .int a2)]) hx hb dX7_turnOf_129 rfl hl (by decide) rfl (fun ls hl => ?_)
    refine lv_aload_n hx hb dX7_turnOf_130 rfl (lv_at hl 1 rfl) ?_
    refine vgC hx hb hts hi7 hown hK hP (318) (by decide) (show kd 318 = 7 by decide) (C := RX7) (T := TX7) (N := 79) rfl 27 (by decide) (by decide) (by decide) (by decide) (337) rfl (hts (.fieldLink RX7 71 "CrateHelpersModel" "holds" "[I") (by decide +kernel)) (fun _ h9 => h9) dX7_turnOf_131 ?_
    refine lv_iload_n hx hb dX7_turnOf_134 rfl (lv_at hl 3 rfl) ?_
    refine lv_bipush (v := (-9)) hx hb dX7_turnOf_135 (by decide) ?_
    refine xiast hx hb hK hP hap hS (337) (by decide) (show kd 337 = 8 by decide) (by rw [show ln 337 = 5 by decide]; exact hn1) dX7_turnOf_137 (fun H locs hP hS => ?_)
    obtain ⟨A3, eA3, h⟩ := bd_e h
    rw [← eA3] at hP
    have hP : va_P D vwCl (VW K ad I G A3 L) H := hP
    refine lv_aload_n hx hb dX7_turnOf_138 rfl (lv_at hl 1 rfl) ?_
    refine vgC hx hb hts hi7 hown hK hP (318) (by decide) (show kd 318 = 7 by decide) (C := RX7) (T := TX7) (N := 79) rfl 25 (by decide) (by decide) (by decide) (by decide) (335) rfl (hts (.fieldLink RX7 65 "CrateHelpersModel" "failNow" "[I") (by decide +kernel)) (fun _ h9 => h9) dX7_turnOf_139 ?_
    refine lv_iload_n hx hb dX7_turnOf_142 rfl (lv_at hl 3 rfl) ?_
    refine xiald hx hb hK hP (335) (by decide) (show kd 335 = 8 by decide) (by rw [show ln 335 = 5 by decide]; exact hn1) dX7_turnOf_143 ?_
    refine lv_if_le (tgt := 188) hx hb dX7_turnOf_144 (by decide) (fun c_4 => ?_) (fun c_4 => ?_)
    · have h := iN (Int32.not_lt.mpr c_4) h
      refine lv_aload_n hx hb dX7_turnOf_188 rfl (lv_at hl 1 rfl) ?_
      refine vgC hx hb hts hi7 hown hK hP (318) (by decide) (show kd 318 = 7 by decide) (C := RX7) (T := TX7) (N := 79) rfl 22 (by decide) (by decide) (by decide) (by decide) (334) rfl (hts (.fieldLink RX7 59 "CrateHelpersModel" "didNow" "[I") (by decide +kernel)) (fun _ h9 => h9) dX7_turnOf_189 ?_
      refine lv_iload_n hx hb dX7_turnOf_192 rfl (lv_at hl 3 rfl) ?_
      refine lv_dup2_11 hx hb dX7_turnOf_193 rfl rfl ?_
      refine xiald hx hb hK hP (334) (by decide) (show kd 334 = 8 by decide) (by rw [show ln 334 = 5 by decide]; exact hn1) dX7_turnOf_194 ?_
      refine lv_iconst (v := 1) hx hb dX7_turnOf_195 (by decide) ?_
      refine lv_iadd hx hb dX7_turnOf_196 ?_
      refine xiast hx hb hK hP hap hS (334) (by decide) (show kd 334 = 8 by decide) (by rw [show ln 334 = 5 by decide]; exact hn1) dX7_turnOf_197 (fun H locs hP hS => ?_)
      obtain ⟨A5, eA5, h⟩ := bd_e h
      rw [← eA5] at hP
      have hP : va_P D vwCl (VW K ad I G A5 L) H := hP
      refine lv_aload_n hx hb dX7_turnOf_198 rfl (lv_at hl 1 rfl) ?_
      refine lv_iload_n hx hb dX7_turnOf_199 rfl (lv_at hl 2 rfl) ?_
      refine lv_iload_n hx hb dX7_turnOf_200 rfl (lv_at hl 0 rfl) ?_
      refine lv_iconst (v := 1) hx hb dX7_turnOf_201 (by decide) ?_
      obtain ⟨⟨I6, A7⟩, hc8, h⟩ := Option.bind_eq_some_iff.mp h
      refine ecVv (As := [.int a1, .int (A 337 a2.toNatClampNeg), .int 1]) (rest := []) ⟨hx, hb, hml, hown, hts⟩ (e_X7_opens l D K ad hap0 a1 (A 337 a2.toNatClampNeg) 1 I G A5 L I6 A7 hc8) (cwV 3 hts gX7_turnOf_X7_opens rfl rfl rfl (by decide +kernel) ⟨Nat.le_of_ble_eq_true rfl, Nat.le_of_ble_eq_true rfl⟩) hK hP hS (by decide) (show kd 318 = 7 by decide) (by decide) rfl rfl rfl hl.1 (Nat.le_of_ble_eq_true rfl) (Nat.le_of_ble_eq_true rfl) (Nat.le_of_ble_eq_true rfl) dX7_turnOf_202 (fun H locs hP hS => ?_) rfl
      have hP : va_P D vwCl (VW K ad I6 G A7 L) H := hP
      exact W.vret hx hb hr (fun t9 ht9 hW9 => ⟨⟨(I6, G, A7, L), rfl, by cases h; rfl, by rw [ht9]; exact hP, va_K.moved hW9.alike hK⟩, hS.F ht9⟩) hS.2.2 dX7_turnOf_205
    · have h := ip (Int32.not_le.mp c_4) h
      refine lv_aload_n hx hb dX7_turnOf_147 rfl (lv_at hl 1 rfl) ?_
      refine vgC hx hb hts hi7 hown hK hP (318) (by decide) (show kd 318 = 7 by decide) (C := RX7) (T := TX7) (N := 79) rfl 26 (by decide) (by decide) (by decide) (by decide) (336) rfl (hts (.fieldLink RX7 68 "CrateHelpersModel" "hadNow" "[I") (by decide +kernel)) (fun _ h9 => h9) dX7_turnOf_148 ?_
      refine lv_iload_n hx hb dX7_turnOf_151 rfl (lv_at hl 3 rfl) ?_
      refine xiald hx hb hK hP (336) (by decide) (show kd 336 = 8 by decide) (by rw [show ln 336 = 5 by decide]; exact hn1) dX7_turnOf_152 ?_
      refine lv_aload_n hx hb dX7_turnOf_153 rfl (lv_at hl 1 rfl) ?_
      refine vgC hx hb hts hi7 hown hK hP (318) (by decide) (show kd 318 = 7 by decide) (C := RX7) (T := TX7) (N := 79) rfl 25 (by decide) (by decide) (by decide) (by decide) (335) rfl (hts (.fieldLink RX7 65 "CrateHelpersModel" "failNow" "[I") (by decide +kernel)) (fun _ h9 => h9) dX7_turnOf_154 ?_
      refine lv_iload_n hx hb dX7_turnOf_157 rfl (lv_at hl 3 rfl) ?_
      refine xiald hx hb hK hP (335) (by decide) (show kd 335 = 8 by decide) (by rw [show ln 335 = 5 by decide]; exact hn1) dX7_turnOf_158 ?_
      refine lv_icmp_ne (tgt := 188) hx hb dX7_turnOf_159 (by decide) (fun c_9 => ?_) (fun c_9 => ?_)
      · have h := iN c_9 h
        refine lv_aload_n hx hb dX7_turnOf_188 rfl (lv_at hl 1 rfl) ?_
        refine vgC hx hb hts hi7 hown hK hP (318) (by decide) (show kd 318 = 7 by decide) (C := RX7) (T := TX7) (N := 79) rfl 22 (by decide) (by decide) (by decide) (by decide) (334) rfl (hts (.fieldLink RX7 59 "CrateHelpersModel" "didNow" "[I") (by decide +kernel)) (fun _ h9 => h9) dX7_turnOf_189 ?_
        refine lv_iload_n hx hb dX7_turnOf_192 rfl (lv_at hl 3 rfl) ?_
        refine lv_dup2_11 hx hb dX7_turnOf_193 rfl rfl ?_
        refine xiald hx hb hK hP (334) (by decide) (show kd 334 = 8 by decide) (by rw [show ln 334 = 5 by decide]; exact hn1) dX7_turnOf_194 ?_
        refine lv_iconst (v := 1) hx hb dX7_turnOf_195 (by decide) ?_
        refine lv_iadd hx hb dX7_turnOf_196 ?_
        refine xiast hx hb hK hP hap hS (334) (by decide) (show kd 334 = 8 by decide) (by rw [show ln 334 = 5 by decide]; exact hn1) dX7_turnOf_197 (fun H locs hP hS => ?_)
        obtain ⟨A10, eA10, h⟩ := bd_e h
        rw [← eA10] at hP
        have hP : va_P D vwCl (VW K ad I G A10 L) H := hP
        refine lv_aload_n hx hb dX7_turnOf_198 rfl (lv_at hl 1 rfl) ?_
        refine lv_iload_n hx hb dX7_turnOf_199 rfl (lv_at hl 2 rfl) ?_
        refine lv_iload_n hx hb dX7_turnOf_200 rfl (lv_at hl 0 rfl) ?_
        refine lv_iconst (v := 1) hx hb dX7_turnOf_201 (by decide) ?_
        obtain ⟨⟨I11, A12⟩, hc13, h⟩ := Option.bind_eq_some_iff.mp h
        refine ecVv (As := [.int a1, .int (A 337 a2.toNatClampNeg), .int 1]) (rest := []) ⟨hx, hb, hml, hown, hts⟩ (e_X7_opens l D K ad hap0 a1 (A 337 a2.toNatClampNeg) 1 I G A10 L I11 A12 hc13) (cwV 3 hts gX7_turnOf_X7_opens rfl rfl rfl (by decide +kernel) ⟨Nat.le_of_ble_eq_true rfl, Nat.le_of_ble_eq_true rfl⟩) hK hP hS (by decide) (show kd 318 = 7 by decide) (by decide) rfl rfl rfl hl.1 (Nat.le_of_ble_eq_true rfl) (Nat.le_of_ble_eq_true rfl) (Nat.le_of_ble_eq_true rfl) dX7_turnOf_202 (fun H locs hP hS => ?_) rfl
        have hP : va_P D vwCl (VW K ad I11 G A12 L) H := hP
        exact W.vret hx hb hr (fun t9 ht9 hW9 => ⟨⟨(I11, G, A12, L), rfl, by cases h; rfl, by rw [ht9]; exact hP, va_K.moved hW9.alike hK⟩, hS.F ht9⟩) hS.2.2 dX7_turnOf_205
      · have h := ip c_9 h
        refine lv_aload_n hx hb dX7_turnOf_162 rfl (lv_at hl 1 rfl) ?_
        refine vgC hx hb hts hi7 hown hK hP (318) (by decide) (show kd 318 = 7 by decide) (C := RX7) (T := TX7) (N := 79) rfl 37 (by decide) (by decide) (by decide) (by decide) (343) rfl (hts (.fieldLink RX7 89 "CrateHelpersModel" "holder" "[I") (by decide +kernel)) (fun _ h9 => h9) dX7_turnOf_163 ?_
        refine lv_iload_n hx hb dX7_turnOf_166 rfl (lv_at hl 0 rfl) ?_
        refine lv_bipush (v := (-9)) hx hb dX7_turnOf_167 (by decide) ?_
        obtain ⟨hn14, h⟩ := gk h
        refine xiast hx hb hK hP hap hS (343) (by decide) (show kd 343 = 8 by decide) (by rw [show ln 343 = 2000 by decide]; exact hn14) dX7_turnOf_169 (fun H locs hP hS => ?_)
        obtain ⟨A15, eA15, h⟩ := bd_e h
        rw [← eA15] at hP
        have hP : va_P D vwCl (VW K ad I G A15 L) H := hP
        refine lv_aload_n hx hb dX7_turnOf_170 rfl (lv_at hl 1 rfl) ?_
        refine vgC hx hb hts hi7 hown hK hP (318) (by decide) (show kd 318 = 7 by decide) (C := RX7) (T := TX7) (N := 79) rfl 25 (by decide) (by decide) (by decide) (by decide) (335) rfl (hts (.fieldLink RX7 65 "CrateHelpersModel" "failNow" "[I") (by decide +kernel)) (fun _ h9 => h9) dX7_turnOf_171 ?_
        refine lv_iload_n hx hb dX7_turnOf_174 rfl (lv_at hl 3 rfl) ?_
        refine lv_iconst (v := 0) hx hb dX7_turnOf_175 (by decide) ?_
        refine xiast hx hb hK hP hap hS (335) (by decide) (show kd 335 = 8 by decide) (by rw [show ln 335 = 5 by decide]; exact hn1) dX7_turnOf_176 (fun H locs hP hS => ?_)
        obtain ⟨A16, eA16, h⟩ := bd_e h
        rw [← eA16] at hP
        have hP : va_P D vwCl (VW K ad I G A16 L) H := hP
        refine lv_aload_n hx hb dX7_turnOf_177 rfl (lv_at hl 1 rfl) ?_
        refine vgC hx hb hts hi7 hown hK hP (318) (by decide) (show kd 318 = 7 by decide) (C := RX7) (T := TX7) (N := 79) rfl 21 (by decide) (by decide) (by decide) (by decide) (333) rfl (hts (.fieldLink RX7 56 "CrateHelpersModel" "replaced" "[I") (by decide +kernel)) (fun _ h9 => h9) dX7_turnOf_178 ?_
        refine lv_iload_n hx hb dX7_turnOf_181 rfl (lv_at hl 3 rfl) ?_
        refine lv_dup2_11 hx hb dX7_turnOf_182 rfl rfl ?_
        refine xiald hx hb hK hP (333) (by decide) (show kd 333 = 8 by decide) (by rw [show ln 333 = 5 by decide]; exact hn1) dX7_turnOf_183 ?_
        refine lv_iconst (v := 1) hx hb dX7_turnOf_184 (by decide) ?_
        refine lv_iadd hx hb dX7_turnOf_185 ?_
        refine xiast hx hb hK hP hap hS (333) (by decide) (show kd 333 = 8 by decide) (by rw [show ln 333 = 5 by decide]; exact hn1) dX7_turnOf_186 (fun H locs hP hS => ?_)
        obtain ⟨A17, eA17, h⟩ := bd_e h
        rw [← eA17] at hP
        have hP : va_P D vwCl (VW K ad I G A17 L) H := hP
        exact W.vret hx hb hr (fun t9 ht9 hW9 => ⟨⟨(I, G, A17, L), rfl, by cases h; rfl, by rw [ht9]; exact hP, va_K.moved hW9.alike hK⟩, hS.F ht9⟩) hS.2.2 dX7_turnOf_187
  · have h := ip c_2 h
    refine lv_bipush (v := (-9)) hx hb dX7_turnOf_11 (by decide) ?_
    refine lv_istore_n (lv' := [(3, .int (-9)), (0, .ref (ad 318)), (1, .int a1), (2, .int a2)]) hx hb dX7_turnOf_13 rfl hl (by decide) rfl (fun ls hl => ?_)
    refine lv_iconst (v := 0) hx hb dX7_turnOf_14 (by decide) ?_
    refine lv_istore (lv' := [(4, .int 0), (3, .int (-9)), (0, .ref (ad 318)), (1, .int a1), (2, .int a2)]) hx hb dX7_turnOf_15 hl (by decide) rfl (fun ls hl => ?_)
    obtain ⟨k21, ek21, h⟩ := bd_e h
    have kk21 : ∀ (v22 : Int32), k21 v22 = some (I0, A0) → ∀ (H : Heap) (locs : List Loc), va_P D vwCl (VW K ad I G A L) H → va_S (vF ad s.heap.size) s.heap H locs → ∀ (ls : Array Slot), lv_has ls 5 [(0, .ref (ad 318)), (2, .int a2), (3, .int v22)] → W p l e ({ frames := 6, cells := 0, slots := 0, locals := 172 }) s m ([.ref (ad 318), .int a1, .int a2] : List Value).toArray below meth c H locs 0 0 (MQ below (va_Qv (fun (u : Mem) => u = (I0, G, A0, L)) (vB D K ad) (vF ad s.heap.size)) ([.ref (ad 318), .int a1, .int a2] : List Value).toArray s 0 0 (vF ad s.heap.size)) (F0 m 67 ls []) := by
      intro v22 h H locs hP hS ls hl
      subst ek21
      refine lv_iload_n hx hb dX7_turnOf_67 rfl (lv_at hl 2 rfl) ?_
      refine lv_bipush (v := (-9)) hx hb dX7_turnOf_68 (by decide) ?_
      refine lv_icmp_eq (tgt := 87) hx hb dX7_turnOf_70 (by decide) (fun c_23 => ?_) (fun c_23 => ?_)
      · have h := ip c_23 h
        refine lv_aload_n hx hb dX7_turnOf_87 rfl (lv_at hl 0 rfl) ?_
        refine vgC hx hb hts hi7 hown hK hP (318) (by decide) (show kd 318 = 7 by decide) (C := RX7) (T := TX7) (N := 79) rfl 20 (by decide) (by decide) (by decide) (by decide) (332) rfl (hts (.fieldLink RX7 53 "CrateHelpersModel" "idle" "[I") (by decide +kernel)) (fun _ h9 => h9) dX7_turnOf_88 ?_
        refine lv_iload_n hx hb dX7_turnOf_91 rfl (lv_at hl 1 rfl) ?_
        refine lv_dup2_11 hx hb dX7_turnOf_92 rfl rfl ?_
        refine xiald hx hb hK hP (332) (by decide) (show kd 332 = 8 by decide) (by rw [show ln 332 = 5 by decide]; exact hn1) dX7_turnOf_93 ?_
        refine lv_iconst (v := 1) hx hb dX7_turnOf_94 (by decide) ?_
        refine lv_iadd hx hb dX7_turnOf_95 ?_
        refine xiast hx hb hK hP hap hS (332) (by decide) (show kd 332 = 8 by decide) (by rw [show ln 332 = 5 by decide]; exact hn1) dX7_turnOf_96 (fun H locs hP hS => ?_)
        obtain ⟨A24, eA24, h⟩ := bd_e h
        rw [← eA24] at hP
        have hP : va_P D vwCl (VW K ad I G A24 L) H := hP
        exact W.vret hx hb hr (fun t9 ht9 hW9 => ⟨⟨(I, G, A24, L), rfl, by cases h; rfl, by rw [ht9]; exact hP, va_K.moved hW9.alike hK⟩, hS.F ht9⟩) hS.2.2 dX7_turnOf_97
      · have h := iN c_23 h
        refine lv_aload_n hx hb dX7_turnOf_73 rfl (lv_at hl 0 rfl) ?_
        refine vgI hx hb hts hi7 hown hK hP (318) (by decide) (show kd 318 = 7 by decide) (C := RX7) (T := TX7) (N := 79) rfl 30 (by decide) (by decide) (by decide) (by decide) (hts (.fieldLink RX7 287 "CrateHelpersModel" "done" "I") (by decide +kernel)) (fun _ h9 => h9) dX7_turnOf_74 ?_
        refine lv_aload_n hx hb dX7_turnOf_77 rfl (lv_at hl 0 rfl) ?_
        refine vgI hx hb hts hi7 hown hK hP (318) (by decide) (show kd 318 = 7 by decide) (C := RX7) (T := TX7) (N := 79) rfl 31 (by decide) (by decide) (by decide) (by decide) (hts (.fieldLink RX7 303 "CrateHelpersModel" "taken" "I") (by decide +kernel)) (fun _ h9 => h9) dX7_turnOf_78 ?_
        refine lv_isub hx hb dX7_turnOf_81 ?_
        refine lv_bipush (v := 30) hx hb dX7_turnOf_82 (by decide) ?_
        refine lv_icmp_lt (tgt := 98) hx hb dX7_turnOf_84 (by decide) (fun c_25 => ?_) (fun c_25 => ?_)
        · have h := ip c_25 h
          refine lv_aload_n hx hb dX7_turnOf_98 rfl (lv_at hl 0 rfl) ?_
          refine vgC hx hb hts hi7 hown hK hP (318) (by decide) (show kd 318 = 7 by decide) (C := RX7) (T := TX7) (N := 79) rfl 27 (by decide) (by decide) (by decide) (by decide) (337) rfl (hts (.fieldLink RX7 71 "CrateHelpersModel" "holds" "[I") (by decide +kernel)) (fun _ h9 => h9) dX7_turnOf_99 ?_
          refine lv_iload_n hx hb dX7_turnOf_102 rfl (lv_at hl 1 rfl) ?_
          refine lv_iload_n hx hb dX7_turnOf_103 rfl (lv_at hl 2 rfl) ?_
          refine xiast hx hb hK hP hap hS (337) (by decide) (show kd 337 = 8 by decide) (by rw [show ln 337 = 5 by decide]; exact hn1) dX7_turnOf_104 (fun H locs hP hS => ?_)
          obtain ⟨A26, eA26, h⟩ := bd_e h
          rw [← eA26] at hP
          have hP : va_P D vwCl (VW K ad I G A26 L) H := hP
          refine lv_aload_n hx hb dX7_turnOf_105 rfl (lv_at hl 0 rfl) ?_
          refine vgC hx hb hts hi7 hown hK hP (318) (by decide) (show kd 318 = 7 by decide) (C := RX7) (T := TX7) (N := 79) rfl 37 (by decide) (by decide) (by decide) (by decide) (343) rfl (hts (.fieldLink RX7 89 "CrateHelpersModel" "holder" "[I") (by decide +kernel)) (fun _ h9 => h9) dX7_turnOf_106 ?_
          refine lv_iload_n hx hb dX7_turnOf_109 rfl (lv_at hl 2 rfl) ?_
          refine lv_iload_n hx hb dX7_turnOf_110 rfl (lv_at hl 1 rfl) ?_
          obtain ⟨hn27, h⟩ := gk h
          refine xiast hx hb hK hP hap hS (343) (by decide) (show kd 343 = 8 by decide) (by rw [show ln 343 = 2000 by decide]; exact hn27) dX7_turnOf_111 (fun H locs hP hS => ?_)
          obtain ⟨A28, eA28, h⟩ := bd_e h
          rw [← eA28] at hP
          have hP : va_P D vwCl (VW K ad I G A28 L) H := hP
          refine lv_aload_n hx hb dX7_turnOf_112 rfl (lv_at hl 0 rfl) ?_
          refine vgC hx hb hts hi7 hown hK hP (318) (by decide) (show kd 318 = 7 by decide) (C := RX7) (T := TX7) (N := 79) rfl 26 (by decide) (by decide) (by decide) (by decide) (336) rfl (hts (.fieldLink RX7 68 "CrateHelpersModel" "hadNow" "[I") (by decide +kernel)) (fun _ h9 => h9) dX7_turnOf_113 ?_
          refine lv_iload_n hx hb dX7_turnOf_116 rfl (lv_at hl 1 rfl) ?_
          refine lv_dup2_11 hx hb dX7_turnOf_117 rfl rfl ?_
          refine xiald hx hb hK hP (336) (by decide) (show kd 336 = 8 by decide) (by rw [show ln 336 = 5 by decide]; exact hn1) dX7_turnOf_118 ?_
          refine lv_iconst (v := 1) hx hb dX7_turnOf_119 (by decide) ?_
          refine lv_iadd hx hb dX7_turnOf_120 ?_
          refine xiast hx hb hK hP hap hS (336) (by decide) (show kd 336 = 8 by decide) (by rw [show ln 336 = 5 by decide]; exact hn1) dX7_turnOf_121 (fun H locs hP hS => ?_)
          obtain ⟨A29, eA29, h⟩ := bd_e h
          rw [← eA29] at hP
          have hP : va_P D vwCl (VW K ad I G A29 L) H := hP
          exact W.vret hx hb hr (fun t9 ht9 hW9 => ⟨⟨(I, G, A29, L), rfl, by cases h; rfl, by rw [ht9]; exact hP, va_K.moved hW9.alike hK⟩, hS.F ht9⟩) hS.2.2 dX7_turnOf_122
        · have h := iN c_25 h
          refine lv_aload_n hx hb dX7_turnOf_87 rfl (lv_at hl 0 rfl) ?_
          refine vgC hx hb hts hi7 hown hK hP (318) (by decide) (show kd 318 = 7 by decide) (C := RX7) (T := TX7) (N := 79) rfl 20 (by decide) (by decide) (by decide) (by decide) (332) rfl (hts (.fieldLink RX7 53 "CrateHelpersModel" "idle" "[I") (by decide +kernel)) (fun _ h9 => h9) dX7_turnOf_88 ?_
          refine lv_iload_n hx hb dX7_turnOf_91 rfl (lv_at hl 1 rfl) ?_
          refine lv_dup2_11 hx hb dX7_turnOf_92 rfl rfl ?_
          refine xiald hx hb hK hP (332) (by decide) (show kd 332 = 8 by decide) (by rw [show ln 332 = 5 by decide]; exact hn1) dX7_turnOf_93 ?_
          refine lv_iconst (v := 1) hx hb dX7_turnOf_94 (by decide) ?_
          refine lv_iadd hx hb dX7_turnOf_95 ?_
          refine xiast hx hb hK hP hap hS (332) (by decide) (show kd 332 = 8 by decide) (by rw [show ln 332 = 5 by decide]; exact hn1) dX7_turnOf_96 (fun H locs hP hS => ?_)
          obtain ⟨A30, eA30, h⟩ := bd_e h
          rw [← eA30] at hP
          have hP : va_P D vwCl (VW K ad I G A30 L) H := hP
          exact W.vret hx hb hr (fun t9 ht9 hW9 => ⟨⟨(I, G, A30, L), rfl, by cases h; rfl, by rw [ht9]; exact hP, va_K.moved hW9.alike hK⟩, hS.F ht9⟩) hS.2.2 dX7_turnOf_97
    have lp18 : ∀ (n : Nat) (v19 : Int32) (v20 : Int32), f_X7_turnOf_L17 a2 I A k21 n v19 v20 = some (I0, A0) → ∀ (H : Heap) (locs : List Loc), va_P D vwCl (VW K ad I G A L) H → va_S (vF ad s.heap.size) s.heap H locs → ∀ (ls : Array Slot), lv_has ls 5 [(4, .int v19), (3, .int v20), (0, .ref (ad 318)), (2, .int a2)] → W p l e ({ frames := 6, cells := 0, slots := 0, locals := 172 }) s m ([.ref (ad 318), .int a1, .int a2] : List Value).toArray below meth c H locs 0 0 (MQ below (va_Qv (fun (u : Mem) => u = (I0, G, A0, L)) (vB D K ad) (vF ad s.heap.size)) ([.ref (ad 318), .int a1, .int a2] : List Value).toArray s 0 0 (vF ad s.heap.size)) (F0 m 17 ls []) := by
      intro n
      induction n with
      | zero => intro v19 v20 h; exact absurd h (by rw [f_X7_turnOf_L17]; exact nofun)
      | succ n ih18 =>
        intro v19 v20 h H locs hP hS ls hl
        rw [f_X7_turnOf_L17] at h
        refine lv_iload hx hb dX7_turnOf_17 (lv_at hl 0 rfl) ?_
        refine lv_aload_n hx hb dX7_turnOf_19 rfl (lv_at hl 2 rfl) ?_
        refine vgI hx hb hts hi7 hown hK hP (318) (by decide) (show kd 318 = 7 by decide) (C := RX7) (T := TX7) (N := 79) rfl 29 (by decide) (by decide) (by decide) (by decide) (hts (.fieldLink RX7 284 "CrateHelpersModel" "nodes" "I") (by decide +kernel)) (fun _ h9 => h9) dX7_turnOf_20 ?_
        refine lv_icmp_ge (tgt := 67) hx hb dX7_turnOf_23 (by decide) (fun c_31 => ?_) (fun c_31 => ?_)
        · have h := iN (Int32.not_lt.mpr c_31) h
          exact kk21 v20 h _ _ hP hS ls (lv_sub hl [2, 3, 1] rfl)
        · have h := ip (Int32.not_le.mp c_31) h
          refine lv_aload_n hx hb dX7_turnOf_26 rfl (lv_at hl 2 rfl) ?_
          refine vgC hx hb hts hi7 hown hK hP (318) (by decide) (show kd 318 = 7 by decide) (C := RX7) (T := TX7) (N := 79) rfl 37 (by decide) (by decide) (by decide) (by decide) (343) rfl (hts (.fieldLink RX7 89 "CrateHelpersModel" "holder" "[I") (by decide +kernel)) (fun _ h9 => h9) dX7_turnOf_27 ?_
          refine lv_iload hx hb dX7_turnOf_30 (lv_at hl 0 rfl) ?_
          obtain ⟨hn32, h⟩ := gk h
          refine xiald hx hb hK hP (343) (by decide) (show kd 343 = 8 by decide) (by rw [show ln 343 = 2000 by decide]; exact hn32) dX7_turnOf_32 ?_
          refine lv_bipush (v := (-9)) hx hb dX7_turnOf_33 (by decide) ?_
          refine lv_icmp_ne (tgt := 59) hx hb dX7_turnOf_35 (by decide) (fun c_33 => ?_) (fun c_33 => ?_)
          · have h := iN c_33 h
            refine lv_iload_n hx hb dX7_turnOf_59 rfl (lv_at hl 1 rfl) ?_
            refine lv_istore_n (lv' := [(3, .int v20), (4, .int v19), (0, .ref (ad 318)), (2, .int a2)]) hx hb dX7_turnOf_60 rfl hl (by decide) rfl (fun ls hl => ?_)
            refine lv_iinc (v := (v19 + 1)) (lv' := [(4, .int (v19 + 1)), (3, .int v20), (0, .ref (ad 318)), (2, .int a2)]) hx hb dX7_turnOf_61 hl (k := 1) rfl rfl (by decide) rfl (fun ls hl => ?_)
            refine lv_goto (tgt := 17) hx hb dX7_turnOf_64 (by decide) ?_
            exact ih18 (v19 + 1) v20 h _ _ hP hS ls (lv_sub hl [0, 1, 2, 3] rfl)
          · have h := ip c_33 h
            refine lv_iload_n hx hb dX7_turnOf_38 rfl (lv_at hl 1 rfl) ?_
            refine lv_bipush (v := (-9)) hx hb dX7_turnOf_39 (by decide) ?_
            refine lv_icmp_eq (tgt := 54) hx hb dX7_turnOf_41 (by decide) (fun c_34 => ?_) (fun c_34 => ?_)
            · have h := ip c_34 h
              refine lv_iload hx hb dX7_turnOf_54 (lv_at hl 0 rfl) ?_
              refine lv_goto (tgt := 60) hx hb dX7_turnOf_56 (by decide) ?_
              refine lv_istore_n (lv' := [(3, .int v19), (4, .int v19), (0, .ref (ad 318)), (2, .int a2)]) hx hb dX7_turnOf_60 rfl hl (by decide) rfl (fun ls hl => ?_)
              refine lv_iinc (v := (v19 + 1)) (lv' := [(4, .int (v19 + 1)), (3, .int v19), (0, .ref (ad 318)), (2, .int a2)]) hx hb dX7_turnOf_61 hl (k := 1) rfl rfl (by decide) rfl (fun ls hl => ?_)
              refine lv_goto (tgt := 17) hx hb dX7_turnOf_64 (by decide) ?_
              exact ih18 (v19 + 1) v19 h _ _ hP hS ls (lv_sub hl [0, 1, 2, 3] rfl)
            · have h := iN c_34 h
              refine lv_aload_n hx hb dX7_turnOf_44 rfl (lv_at hl 2 rfl) ?_
              refine lv_iload hx hb dX7_turnOf_45 (lv_at hl 0 rfl) ?_
              refine lv_iload_n hx hb dX7_turnOf_47 rfl (lv_at hl 1 rfl) ?_
              obtain ⟨r35, hc36, h⟩ := Option.bind_eq_some_iff.mp h
              refine ecV (As := [.int v19, .int v20]) (rest := []) ⟨hx, hb, hml, hown, hts⟩ (e_X7_isAhead l D K ad hap0 v19 v20 I G A L r35 hc36) (cwV 2 hts gX7_turnOf_X7_isAhead rfl rfl rfl (by decide +kernel) ⟨Nat.le_of_ble_eq_true rfl, Nat.le_of_ble_eq_true rfl⟩) hK hP hS (by decide) (show kd 318 = 7 by decide) (by decide) rfl rfl rfl hl.1 (Nat.le_of_ble_eq_true rfl) (Nat.le_of_ble_eq_true rfl) (Nat.le_of_ble_eq_true rfl) dX7_turnOf_48 (fun H locs hP hS => ?_) rfl
              have hP : va_P D vwCl (VW K ad I G A L) H := hP
              refine lv_if_eq (tgt := 59) hx hb dX7_turnOf_51 (by decide) (fun c_37 => ?_) (fun c_37 => ?_)
              · have h := ip c_37 h
                refine lv_iload_n hx hb dX7_turnOf_59 rfl (lv_at hl 1 rfl) ?_
                refine lv_istore_n (lv' := [(3, .int v20), (4, .int v19), (0, .ref (ad 318)), (2, .int a2)]) hx hb dX7_turnOf_60 rfl hl (by decide) rfl (fun ls hl => ?_)
                refine lv_iinc (v := (v19 + 1)) (lv' := [(4, .int (v19 + 1)), (3, .int v20), (0, .ref (ad 318)), (2, .int a2)]) hx hb dX7_turnOf_61 hl (k := 1) rfl rfl (by decide) rfl (fun ls hl => ?_)
                refine lv_goto (tgt := 17) hx hb dX7_turnOf_64 (by decide) ?_
                exact ih18 (v19 + 1) v20 h _ _ hP hS ls (lv_sub hl [0, 1, 2, 3] rfl)
              · have h := iN c_37 h
                refine lv_iload hx hb dX7_turnOf_54 (lv_at hl 0 rfl) ?_
                refine lv_goto (tgt := 60) hx hb dX7_turnOf_56 (by decide) ?_
                refine lv_istore_n (lv' := [(3, .int v19), (4, .int v19), (0, .ref (ad 318)), (2, .int a2)]) hx hb dX7_turnOf_60 rfl hl (by decide) rfl (fun ls hl => ?_)
                refine lv_iinc (v := (v19 + 1)) (lv' := [(4, .int (v19 + 1)), (3, .int v19), (0, .ref (ad 318)), (2, .int a2)]) hx hb dX7_turnOf_61 hl (k := 1) rfl rfl (by decide) rfl (fun ls hl => ?_)
                refine lv_goto (tgt := 17) hx hb dX7_turnOf_64 (by decide) ?_
                exact ih18 (v19 + 1) v19 h _ _ hP hS ls (lv_sub hl [0, 1, 2, 3] rfl)
    exact lp18 FU 0 (-9) h _ _ hP hS ls (lv_sub hl [0, 1, 2, 4] rfl)
