set_option maxHeartbeats 4000000 in
set_option maxRecDepth 100000 in
theorem e_X7_walked (l : Launch) (D : va_G) (K : Nat → ClassId) (ad : Nat → Nat) (hap0 : apart ad (fun _ => True)) (a1 : Int32) (a2 : Int32) (I : Nat → Nat → Int32) (G : Nat → Nat → Nat) (A : Nat → Nat → Int32) (L : Nat → Nat → Int64) (r0 : Int32) (I0 : Nat → Nat → Int32) (h : f_X7_walked I A a1 a2 = some (r0, I0)) : Ci l D K ad yX7_walked wsX7_walked 1 25 [.ref (ad 318), .int a1, .int a2] (I, G, A, L) (fun (r : Int32) (u : Mem) => r = r0 ∧ u = (I0, G, A, L)) := by
  intro sz
  refine Met.ofW (cc := cX7_walked) (maxL := 3) (ret := (some .int)) (by decide) rfl ?_
  intro p e s m args below meth c s₁ Bd hml hv0
  obtain ⟨rfl, hsz, hP, hK⟩ := hv0
  have hx := Bd.exec
  have hb := Bd.bytes
  have hr := Bd.returns
  have hts := atoms_spec (ws := wsX7_walked) Bd.pre
  have hown : s.vm.findClass RX7 = some m.cls := findClass_of_methodNamed Bd.named
  have hlocks := Bd.notSynchronized
  have hi7 : ∀ w ∈ u_ws RX7 TX7 79, w ∈ wsX7_walked := fun w h => List.mem_cons_of_mem _ (List.mem_append_right _ h)
  subst hsz
  have hap := vF_ap hap0 s.heap.size
  have hS : va_S (vF ad s.heap.size) s.heap s.heap [] := va_S.rf
  have hP : va_P D vwCl (VW K ad I G A L) s.heap := hP
  have hl := lv_entry ([.ref (ad 318), .int a1, .int a2]) (n := 3) (Nat.le_of_ble_eq_true rfl)
  rw [lg_entry_eq]
  generalize (lg_sl ([.ref (ad 318), .int a1, .int a2]) ++ List.replicate (3 - (lg_sl ([.ref (ad 318), .int a1, .int a2])).length) Slot.unset).toArray = ls at hl ⊢
  have hl : lv_has ls 3 [(0, .ref (ad 318)), (1, .int a1), (2, .int a2)] := hl
  rw [f_X7_walked] at h
  refine lv_aload_n hx hb dX7_walked_0 rfl (lv_at hl 0 rfl) ?_
  refine lv_iconst (v := 0) hx hb dX7_walked_1 (by decide) ?_
  refine vpI (v := 0) (ty := .int) hx hb hts hi7 tyX7 tyX7_ok nmX7 hown hK hP hap hS (318) (by decide) (show kd 318 = 7 by decide) (C := RX7) (T := TX7) (N := 79) rfl 0 (by decide) (by decide) (by decide) (by decide) (hts (.fieldLink RX7 201 "CrateHelpersModel" "thrown" "I") (by decide +kernel)) (fun _ h9 => h9) rfl (by decide +kernel) rfl rfl dX7_walked_2 (fun H locs hP hS => ?_)
  obtain ⟨I1, eI1, h⟩ := bd_e h
  rw [← eI1] at hP
  have hP : va_P D vwCl (VW K ad I1 G A L) H := hP
  refine lv_iload_n hx hb dX7_walked_5 rfl (lv_at hl 2 rfl) ?_
  refine lv_iconst (v := 0) hx hb dX7_walked_6 (by decide) ?_
  refine lv_bipush (v := 9) hx hb dX7_walked_7 (by decide) ?_
  obtain ⟨r2, hc3, h⟩ := Option.bind_eq_some_iff.mp h
  refine ecS (As := [.int a2, .int 0, .int 9]) (rest := []) ⟨hx, hb, hml, hown, hts⟩ (e_X7_in l D K ad hap0 a2 0 9 I1 G A L r2 hc3) (va_cwS 3 hts gX7_walked_X7_in rfl rfl rfl (by decide +kernel) ⟨Nat.le_of_ble_eq_true rfl, Nat.le_of_ble_eq_true rfl⟩) hK hP hS rfl hl.1 (Nat.le_of_ble_eq_true rfl) (Nat.le_of_ble_eq_true rfl) (Nat.le_of_ble_eq_true rfl) dX7_walked_9 (fun H locs hP hS => ?_) rfl
  have hP : va_P D vwCl (VW K ad I1 G A L) H := hP
  refine lv_if_ne (tgt := 17) hx hb dX7_walked_12 (by decide) (fun c_4 => ?_) (fun c_4 => ?_)
  · have h := iN c_4 h
    refine lv_iload_n hx hb dX7_walked_17 rfl (lv_at hl 1 rfl) ?_
    refine lv_iconst (v := 0) hx hb dX7_walked_18 (by decide) ?_
    refine lv_aload_n hx hb dX7_walked_19 rfl (lv_at hl 0 rfl) ?_
    refine vgI hx hb hts hi7 hown hK hP (318) (by decide) (show kd 318 = 7 by decide) (C := RX7) (T := TX7) (N := 79) rfl 48 (by decide) (by decide) (by decide) (by decide) (hts (.fieldLink RX7 313 "CrateHelpersModel" "walked" "I") (by decide +kernel)) (fun _ h9 => h9) dX7_walked_20 ?_
    refine lv_iconst (v := 1) hx hb dX7_walked_23 (by decide) ?_
    refine lv_isub hx hb dX7_walked_24 ?_
    obtain ⟨r5, hc6, h⟩ := Option.bind_eq_some_iff.mp h
    refine ecS (As := [.int a1, .int 0, .int ((I1 318 48) - 1)]) (rest := []) ⟨hx, hb, hml, hown, hts⟩ (e_X7_in l D K ad hap0 a1 0 ((I1 318 48) - 1) I1 G A L r5 hc6) (va_cwS 3 hts gX7_walked_X7_in rfl rfl rfl (by decide +kernel) ⟨Nat.le_of_ble_eq_true rfl, Nat.le_of_ble_eq_true rfl⟩) hK hP hS rfl hl.1 (Nat.le_of_ble_eq_true rfl) (Nat.le_of_ble_eq_true rfl) (Nat.le_of_ble_eq_true rfl) dX7_walked_25 (fun H locs hP hS => ?_) rfl
    have hP : va_P D vwCl (VW K ad I1 G A L) H := hP
    refine lv_if_ne (tgt := 34) hx hb dX7_walked_28 (by decide) (fun c_7 => ?_) (fun c_7 => ?_)
    · have h := iN c_7 h
      refine lv_iload_n hx hb dX7_walked_34 rfl (lv_at hl 2 rfl) ?_
      refine lv_if_ne (tgt := 47) hx hb dX7_walked_35 (by decide) (fun c_8 => ?_) (fun c_8 => ?_)
      · have h := iN c_8 h
        refine lv_iload_n hx hb dX7_walked_47 rfl (lv_at hl 2 rfl) ?_
        refine lv_bipush (v := 7) hx hb dX7_walked_48 (by decide) ?_
        refine lv_icmp_ge (tgt := 69) hx hb dX7_walked_50 (by decide) (fun c_9 => ?_) (fun c_9 => ?_)
        · have h := iN (Int32.not_lt.mpr c_9) h
          refine lv_iload_n hx hb dX7_walked_69 rfl (lv_at hl 2 rfl) ?_
          refine lv_bipush (v := 7) hx hb dX7_walked_70 (by decide) ?_
          refine lv_icmp_ne (tgt := 84) hx hb dX7_walked_72 (by decide) (fun c_10 => ?_) (fun c_10 => ?_)
          · have h := iN c_10 h
            refine lv_iload_n hx hb dX7_walked_84 rfl (lv_at hl 2 rfl) ?_
            refine lv_bipush (v := 8) hx hb dX7_walked_85 (by decide) ?_
            refine lv_icmp_ne (tgt := 99) hx hb dX7_walked_87 (by decide) (fun c_11 => ?_) (fun c_11 => ?_)
            · have h := iN c_11 h
              refine lv_aload_n hx hb dX7_walked_99 rfl (lv_at hl 0 rfl) ?_
              refine vgC hx hb hts hi7 hown hK hP (318) (by decide) (show kd 318 = 7 by decide) (C := RX7) (T := TX7) (N := 79) rfl 53 (by decide) (by decide) (by decide) (by decide) (358) rfl (hts (.fieldLink RX7 135 "CrateHelpersModel" "walkedOpen" "[I") (by decide +kernel)) (fun _ h9 => h9) dX7_walked_100 ?_
              refine lv_iload_n hx hb dX7_walked_103 rfl (lv_at hl 1 rfl) ?_
              obtain ⟨hn12, h⟩ := gk h
              refine xiald hx hb hK hP (358) (by decide) (show kd 358 = 8 by decide) (by rw [show ln 358 = 250 by decide]; exact hn12) dX7_walked_104 ?_
              exact W.iret (v := (A 358 a1.toNatClampNeg)) hx hb hr (fun t9 ht9 hW9 => ⟨⟨(A 358 a1.toNatClampNeg), (I1, G, A, L), rfl, by cases h; exact ⟨rfl, rfl⟩, by rw [ht9]; exact hP, va_K.moved hW9.alike hK⟩, hS.F ht9⟩) hS.2.2 dX7_walked_105
            · have h := ip c_11 h
              refine lv_aload_n hx hb dX7_walked_90 rfl (lv_at hl 0 rfl) ?_
              refine vgC hx hb hts hi7 hown hK hP (318) (by decide) (show kd 318 = 7 by decide) (C := RX7) (T := TX7) (N := 79) rfl 52 (by decide) (by decide) (by decide) (by decide) (357) rfl (hts (.fieldLink RX7 132 "CrateHelpersModel" "walkedBy" "[I") (by decide +kernel)) (fun _ h9 => h9) dX7_walked_91 ?_
              refine lv_iload_n hx hb dX7_walked_94 rfl (lv_at hl 1 rfl) ?_
              obtain ⟨hn13, h⟩ := gk h
              refine xiald hx hb hK hP (357) (by decide) (show kd 357 = 8 by decide) (by rw [show ln 357 = 250 by decide]; exact hn13) dX7_walked_95 ?_
              refine lv_goto (tgt := 105) hx hb dX7_walked_96 (by decide) ?_
              exact W.iret (v := (A 357 a1.toNatClampNeg)) hx hb hr (fun t9 ht9 hW9 => ⟨⟨(A 357 a1.toNatClampNeg), (I1, G, A, L), rfl, by cases h; exact ⟨rfl, rfl⟩, by rw [ht9]; exact hP, va_K.moved hW9.alike hK⟩, hS.F ht9⟩) hS.2.2 dX7_walked_105
          · have h := ip c_10 h
            refine lv_aload_n hx hb dX7_walked_75 rfl (lv_at hl 0 rfl) ?_
            refine vgC hx hb hts hi7 hown hK hP (318) (by decide) (show kd 318 = 7 by decide) (C := RX7) (T := TX7) (N := 79) rfl 51 (by decide) (by decide) (by decide) (by decide) (356) rfl (hts (.fieldLink RX7 129 "CrateHelpersModel" "walkedBound" "[I") (by decide +kernel)) (fun _ h9 => h9) dX7_walked_76 ?_
            refine lv_iload_n hx hb dX7_walked_79 rfl (lv_at hl 1 rfl) ?_
            obtain ⟨hn14, h⟩ := gk h
            refine xiald hx hb hK hP (356) (by decide) (show kd 356 = 8 by decide) (by rw [show ln 356 = 250 by decide]; exact hn14) dX7_walked_80 ?_
            refine lv_goto (tgt := 105) hx hb dX7_walked_81 (by decide) ?_
            exact W.iret (v := (A 356 a1.toNatClampNeg)) hx hb hr (fun t9 ht9 hW9 => ⟨⟨(A 356 a1.toNatClampNeg), (I1, G, A, L), rfl, by cases h; exact ⟨rfl, rfl⟩, by rw [ht9]; exact hP, va_K.moved hW9.alike hK⟩, hS.F ht9⟩) hS.2.2 dX7_walked_105
        · have h := ip (Int32.not_le.mp c_9) h
          refine lv_aload_n hx hb dX7_walked_53 rfl (lv_at hl 0 rfl) ?_
          refine vgC hx hb hts hi7 hown hK hP (318) (by decide) (show kd 318 = 7 by decide) (C := RX7) (T := TX7) (N := 79) rfl 50 (by decide) (by decide) (by decide) (by decide) (355) rfl (hts (.fieldLink RX7 126 "CrateHelpersModel" "walkedRow" "[I") (by decide +kernel)) (fun _ h9 => h9) dX7_walked_54 ?_
          refine lv_bipush (v := 6) hx hb dX7_walked_57 (by decide) ?_
          refine lv_iload_n hx hb dX7_walked_59 rfl (lv_at hl 1 rfl) ?_
          refine lv_imul hx hb dX7_walked_60 ?_
          refine lv_iload_n hx hb dX7_walked_61 rfl (lv_at hl 2 rfl) ?_
          refine lv_iadd hx hb dX7_walked_62 ?_
          refine lv_iconst (v := 1) hx hb dX7_walked_63 (by decide) ?_
          refine lv_isub hx hb dX7_walked_64 ?_
          obtain ⟨hn15, h⟩ := gk h
          refine xiald hx hb hK hP (355) (by decide) (show kd 355 = 8 by decide) (by rw [show ln 355 = 1500 by decide]; exact hn15) dX7_walked_65 ?_
          refine lv_goto (tgt := 105) hx hb dX7_walked_66 (by decide) ?_
          exact W.iret (v := (A 355 ((((6 * a1) + a2) - 1).toNatClampNeg))) hx hb hr (fun t9 ht9 hW9 => ⟨⟨(A 355 ((((6 * a1) + a2) - 1).toNatClampNeg)), (I1, G, A, L), rfl, by cases h; exact ⟨rfl, rfl⟩, by rw [ht9]; exact hP, va_K.moved hW9.alike hK⟩, hS.F ht9⟩) hS.2.2 dX7_walked_105
      · have h := ip c_8 h
        refine lv_aload_n hx hb dX7_walked_38 rfl (lv_at hl 0 rfl) ?_
        refine vgC hx hb hts hi7 hown hK hP (318) (by decide) (show kd 318 = 7 by decide) (C := RX7) (T := TX7) (N := 79) rfl 49 (by decide) (by decide) (by decide) (by decide) (354) rfl (hts (.fieldLink RX7 123 "CrateHelpersModel" "walkedDepth" "[I") (by decide +kernel)) (fun _ h9 => h9) dX7_walked_39 ?_
        refine lv_iload_n hx hb dX7_walked_42 rfl (lv_at hl 1 rfl) ?_
        obtain ⟨hn16, h⟩ := gk h
        refine xiald hx hb hK hP (354) (by decide) (show kd 354 = 8 by decide) (by rw [show ln 354 = 250 by decide]; exact hn16) dX7_walked_43 ?_
        refine lv_goto (tgt := 105) hx hb dX7_walked_44 (by decide) ?_
        exact W.iret (v := (A 354 a1.toNatClampNeg)) hx hb hr (fun t9 ht9 hW9 => ⟨⟨(A 354 a1.toNatClampNeg), (I1, G, A, L), rfl, by cases h; exact ⟨rfl, rfl⟩, by rw [ht9]; exact hP, va_K.moved hW9.alike hK⟩, hS.F ht9⟩) hS.2.2 dX7_walked_105
    · have h := ip c_7 h
      refine lv_bipush (v := (-9)) hx hb dX7_walked_31 (by decide) ?_
      exact W.iret (v := (-9)) hx hb hr (fun t9 ht9 hW9 => ⟨⟨(-9), (I1, G, A, L), rfl, by cases h; exact ⟨rfl, rfl⟩, by rw [ht9]; exact hP, va_K.moved hW9.alike hK⟩, hS.F ht9⟩) hS.2.2 dX7_walked_33
  · have h := ip c_4 h
    refine lv_iconst (v := (-1)) hx hb dX7_walked_15 (by decide) ?_
    exact W.iret (v := (-1)) hx hb hr (fun t9 ht9 hW9 => ⟨⟨(-1), (I1, G, A, L), rfl, by cases h; exact ⟨rfl, rfl⟩, by rw [ht9]; exact hP, va_K.moved hW9.alike hK⟩, hS.F ht9⟩) hS.2.2 dX7_walked_16
set_option maxHeartbeats 4000000 in
set_option maxRecDepth 100000 in
theorem e_X7_with (l : Launch) (D : va_G) (K : Nat → ClassId) (ad : Nat → Nat) (hap0 : apart ad (fun _ => True)) (a1 : Int32) (I : Nat → Nat → Int32) (G : Nat → Nat → Nat) (A : Nat → Nat → Int32) (L : Nat → Nat → Int64) (r0 : Int32) (I0 : Nat → Nat → Int32) (A0 : Nat → Nat → Int32) (h : f_X7_with I A a1 = some (r0, I0, A0)) : Ci l D K ad yX7_with wsX7_with 1 25 [.ref (ad 318), .int a1] (I, G, A, L) (fun (r : Int32) (u : Mem) => r = r0 ∧ u = (I0, G, A0, L)) := by
  intro sz
  refine Met.ofW (cc := cX7_with) (maxL := 2) (ret := (some .int)) (by decide) rfl ?_
  intro p e s m args below meth c s₁ Bd hml hv0
  obtain ⟨rfl, hsz, hP, hK⟩ := hv0
  have hx := Bd.exec
  have hb := Bd.bytes
  have hr := Bd.returns
  have hts := atoms_spec (ws := wsX7_with) Bd.pre
  have hown : s.vm.findClass RX7 = some m.cls := findClass_of_methodNamed Bd.named
  have hlocks := Bd.notSynchronized
  have hi7 : ∀ w ∈ u_ws RX7 TX7 79, w ∈ wsX7_with := fun w h => List.mem_cons_of_mem _ (List.mem_append_right _ h)
  subst hsz
  have hap := vF_ap hap0 s.heap.size
  have hS : va_S (vF ad s.heap.size) s.heap s.heap [] := va_S.rf
  have hP : va_P D vwCl (VW K ad I G A L) s.heap := hP
  have hl := lv_entry ([.ref (ad 318), .int a1]) (n := 2) (Nat.le_of_ble_eq_true rfl)
  rw [lg_entry_eq]
  generalize (lg_sl ([.ref (ad 318), .int a1]) ++ List.replicate (2 - (lg_sl ([.ref (ad 318), .int a1])).length) Slot.unset).toArray = ls at hl ⊢
  have hl : lv_has ls 2 [(0, .ref (ad 318)), (1, .int a1)] := hl
  rw [f_X7_with] at h
  refine lv_aload_n hx hb dX7_with_0 rfl (lv_at hl 0 rfl) ?_
  refine lv_iconst (v := 0) hx hb dX7_with_1 (by decide) ?_
  refine vpI (v := 0) (ty := .int) hx hb hts hi7 tyX7 tyX7_ok nmX7 hown hK hP hap hS (318) (by decide) (show kd 318 = 7 by decide) (C := RX7) (T := TX7) (N := 79) rfl 0 (by decide) (by decide) (by decide) (by decide) (hts (.fieldLink RX7 201 "CrateHelpersModel" "thrown" "I") (by decide +kernel)) (fun _ h9 => h9) rfl (by decide +kernel) rfl rfl dX7_with_2 (fun H locs hP hS => ?_)
  obtain ⟨I1, eI1, h⟩ := bd_e h
  rw [← eI1] at hP
  have hP : va_P D vwCl (VW K ad I1 G A L) H := hP
  refine lv_aload_n hx hb dX7_with_5 rfl (lv_at hl 0 rfl) ?_
  refine vgI hx hb hts hi7 hown hK hP (318) (by decide) (show kd 318 = 7 by decide) (C := RX7) (T := TX7) (N := 79) rfl 57 (by decide) (by decide) (by decide) (by decide) (hts (.fieldLink RX7 147 "CrateHelpersModel" "asked" "I") (by decide +kernel)) (fun _ h9 => h9) dX7_with_6 ?_
  refine lv_bipush (v := (-9)) hx hb dX7_with_9 (by decide) ?_
  refine lv_icmp_eq (tgt := 57) hx hb dX7_with_11 (by decide) (fun c_2 => ?_) (fun c_2 => ?_)
  · have h := ip c_2 h
    refine lv_iconst (v := (-1)) hx hb dX7_with_57 (by decide) ?_
    exact W.iret (v := (-1)) hx hb hr (fun t9 ht9 hW9 => ⟨⟨(-1), (I1, G, A, L), rfl, by cases h; exact ⟨rfl, rfl⟩, by rw [ht9]; exact hP, va_K.moved hW9.alike hK⟩, hS.F ht9⟩) hS.2.2 dX7_with_58
  · have h := iN c_2 h
    refine lv_aload_n hx hb dX7_with_14 rfl (lv_at hl 0 rfl) ?_
    refine vgI hx hb hts hi7 hown hK hP (318) (by decide) (show kd 318 = 7 by decide) (C := RX7) (T := TX7) (N := 79) rfl 59 (by decide) (by decide) (by decide) (by decide) (hts (.fieldLink RX7 342 "CrateHelpersModel" "askedDepth" "I") (by decide +kernel)) (fun _ h9 => h9) dX7_with_15 ?_
    refine lv_aload_n hx hb dX7_with_18 rfl (lv_at hl 0 rfl) ?_
    refine vgC hx hb hts hi7 hown hK hP (318) (by decide) (show kd 318 = 7 by decide) (C := RX7) (T := TX7) (N := 79) rfl 3 (by decide) (by decide) (by decide) (by decide) (319) rfl (hts (.fieldLink RX7 7 "CrateHelpersModel" "variables" "[I") (by decide +kernel)) (fun _ h9 => h9) dX7_with_19 ?_
    refine lv_aload_n hx hb dX7_with_22 rfl (lv_at hl 0 rfl) ?_
    refine vgI hx hb hts hi7 hown hK hP (318) (by decide) (show kd 318 = 7 by decide) (C := RX7) (T := TX7) (N := 79) rfl 57 (by decide) (by decide) (by decide) (by decide) (hts (.fieldLink RX7 147 "CrateHelpersModel" "asked" "I") (by decide +kernel)) (fun _ h9 => h9) dX7_with_23 ?_
    obtain ⟨hn3, h⟩ := gk h
    refine xiald hx hb hK hP (319) (by decide) (show kd 319 = 8 by decide) (by rw [show ln 319 = 5 by decide]; exact hn3) dX7_with_26 ?_
    refine lv_icmp_eq (tgt := 57) hx hb dX7_with_27 (by decide) (fun c_4 => ?_) (fun c_4 => ?_)
    · have h := ip c_4 h
      refine lv_iconst (v := (-1)) hx hb dX7_with_57 (by decide) ?_
      exact W.iret (v := (-1)) hx hb hr (fun t9 ht9 hW9 => ⟨⟨(-1), (I1, G, A, L), rfl, by cases h; exact ⟨rfl, rfl⟩, by rw [ht9]; exact hP, va_K.moved hW9.alike hK⟩, hS.F ht9⟩) hS.2.2 dX7_with_58
    · have h := iN c_4 h
      refine lv_iload_n hx hb dX7_with_30 rfl (lv_at hl 1 rfl) ?_
      refine lv_iconst (v := 0) hx hb dX7_with_31 (by decide) ?_
      refine lv_aload_n hx hb dX7_with_32 rfl (lv_at hl 0 rfl) ?_
      refine vgC hx hb hts hi7 hown hK hP (318) (by decide) (show kd 318 = 7 by decide) (C := RX7) (T := TX7) (N := 79) rfl 5 (by decide) (by decide) (by decide) (by decide) (321) rfl (hts (.fieldLink RX7 16 "CrateHelpersModel" "values" "[I") (by decide +kernel)) (fun _ h9 => h9) dX7_with_33 ?_
      refine lv_bipush (v := 6) hx hb dX7_with_36 (by decide) ?_
      refine lv_aload_n hx hb dX7_with_38 rfl (lv_at hl 0 rfl) ?_
      refine vgI hx hb hts hi7 hown hK hP (318) (by decide) (show kd 318 = 7 by decide) (C := RX7) (T := TX7) (N := 79) rfl 57 (by decide) (by decide) (by decide) (by decide) (hts (.fieldLink RX7 147 "CrateHelpersModel" "asked" "I") (by decide +kernel)) (fun _ h9 => h9) dX7_with_39 ?_
      refine lv_imul hx hb dX7_with_42 ?_
      refine lv_aload_n hx hb dX7_with_43 rfl (lv_at hl 0 rfl) ?_
      refine vgI hx hb hts hi7 hown hK hP (318) (by decide) (show kd 318 = 7 by decide) (C := RX7) (T := TX7) (N := 79) rfl 59 (by decide) (by decide) (by decide) (by decide) (hts (.fieldLink RX7 342 "CrateHelpersModel" "askedDepth" "I") (by decide +kernel)) (fun _ h9 => h9) dX7_with_44 ?_
      refine lv_iadd hx hb dX7_with_47 ?_
      obtain ⟨hn5, h⟩ := gk h
      refine xiald hx hb hK hP (321) (by decide) (show kd 321 = 8 by decide) (by rw [show ln 321 = 30 by decide]; exact hn5) dX7_with_48 ?_
      refine lv_iconst (v := 1) hx hb dX7_with_49 (by decide) ?_
      refine lv_isub hx hb dX7_with_50 ?_
      obtain ⟨r6, hc7, h⟩ := Option.bind_eq_some_iff.mp h
      refine ecS (As := [.int a1, .int 0, .int ((A 321 (((6 * (I1 318 57)) + (I1 318 59)).toNatClampNeg)) - 1)]) (rest := []) ⟨hx, hb, hml, hown, hts⟩ (e_X7_in l D K ad hap0 a1 0 ((A 321 (((6 * (I1 318 57)) + (I1 318 59)).toNatClampNeg)) - 1) I1 G A L r6 hc7) (va_cwS 3 hts gX7_with_X7_in rfl rfl rfl (by decide +kernel) ⟨Nat.le_of_ble_eq_true rfl, Nat.le_of_ble_eq_true rfl⟩) hK hP hS rfl hl.1 (Nat.le_of_ble_eq_true rfl) (Nat.le_of_ble_eq_true rfl) (Nat.le_of_ble_eq_true rfl) dX7_with_51 (fun H locs hP hS => ?_) rfl
      have hP : va_P D vwCl (VW K ad I1 G A L) H := hP
      refine lv_if_ne (tgt := 59) hx hb dX7_with_54 (by decide) (fun c_8 => ?_) (fun c_8 => ?_)
      · have h := iN c_8 h
        refine lv_aload_n hx hb dX7_with_59 rfl (lv_at hl 0 rfl) ?_
        refine vgC hx hb hts hi7 hown hK hP (318) (by decide) (show kd 318 = 7 by decide) (C := RX7) (T := TX7) (N := 79) rfl 60 (by decide) (by decide) (by decide) (by decide) (362) rfl (hts (.fieldLink RX7 150 "CrateHelpersModel" "askedRow" "[I") (by decide +kernel)) (fun _ h9 => h9) dX7_with_60 ?_
        refine lv_aload_n hx hb dX7_with_63 rfl (lv_at hl 0 rfl) ?_
        refine vgI hx hb hts hi7 hown hK hP (318) (by decide) (show kd 318 = 7 by decide) (C := RX7) (T := TX7) (N := 79) rfl 59 (by decide) (by decide) (by decide) (by decide) (hts (.fieldLink RX7 342 "CrateHelpersModel" "askedDepth" "I") (by decide +kernel)) (fun _ h9 => h9) dX7_with_64 ?_
        refine lv_iload_n hx hb dX7_with_67 rfl (lv_at hl 1 rfl) ?_
        obtain ⟨hn9, h⟩ := gk h
        refine xiast hx hb hK hP hap hS (362) (by decide) (show kd 362 = 8 by decide) (by rw [show ln 362 = 6 by decide]; exact hn9) dX7_with_68 (fun H locs hP hS => ?_)
        obtain ⟨A10, eA10, h⟩ := bd_e h
        rw [← eA10] at hP
        have hP : va_P D vwCl (VW K ad I1 G A10 L) H := hP
        refine lv_aload_n hx hb dX7_with_69 rfl (lv_at hl 0 rfl) ?_
        refine lv_dup hx hb dX7_with_70 rfl ?_
        refine vgI hx hb hts hi7 hown hK hP (318) (by decide) (show kd 318 = 7 by decide) (C := RX7) (T := TX7) (N := 79) rfl 59 (by decide) (by decide) (by decide) (by decide) (hts (.fieldLink RX7 342 "CrateHelpersModel" "askedDepth" "I") (by decide +kernel)) (fun _ h9 => h9) dX7_with_71 ?_
        refine lv_iconst (v := 1) hx hb dX7_with_74 (by decide) ?_
        refine lv_iadd hx hb dX7_with_75 ?_
        refine vpI (v := ((I1 318 59) + 1)) (ty := .int) hx hb hts hi7 tyX7 tyX7_ok nmX7 hown hK hP hap hS (318) (by decide) (show kd 318 = 7 by decide) (C := RX7) (T := TX7) (N := 79) rfl 59 (by decide) (by decide) (by decide) (by decide) (hts (.fieldLink RX7 342 "CrateHelpersModel" "askedDepth" "I") (by decide +kernel)) (fun _ h9 => h9) rfl (by decide +kernel) rfl rfl dX7_with_76 (fun H locs hP hS => ?_)
        obtain ⟨I11, eI11, h⟩ := bd_e h
        rw [← eI11] at hP
        have hP : va_P D vwCl (VW K ad I11 G A10 L) H := hP
        refine lv_aload_n hx hb dX7_with_79 rfl (lv_at hl 0 rfl) ?_
        refine vgI hx hb hts hi7 hown hK hP (318) (by decide) (show kd 318 = 7 by decide) (C := RX7) (T := TX7) (N := 79) rfl 59 (by decide) (by decide) (by decide) (by decide) (hts (.fieldLink RX7 342 "CrateHelpersModel" "askedDepth" "I") (by decide +kernel)) (fun _ h9 => h9) dX7_with_80 ?_
        exact W.iret (v := (I11 318 59)) hx hb hr (fun t9 ht9 hW9 => ⟨⟨(I11 318 59), (I11, G, A10, L), rfl, by cases h; exact ⟨rfl, rfl⟩, by rw [ht9]; exact hP, va_K.moved hW9.alike hK⟩, hS.F ht9⟩) hS.2.2 dX7_with_83
      · have h := ip c_8 h
        refine lv_iconst (v := (-1)) hx hb dX7_with_57 (by decide) ?_
        exact W.iret (v := (-1)) hx hb hr (fun t9 ht9 hW9 => ⟨⟨(-1), (I1, G, A, L), rfl, by cases h; exact ⟨rfl, rfl⟩, by rw [ht9]; exact hP, va_K.moved hW9.alike hK⟩, hS.F ht9⟩) hS.2.2 dX7_with_58
