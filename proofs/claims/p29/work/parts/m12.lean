/-! part 51.r09 -/
set_option maxHeartbeats 4000000 in
set_option maxRecDepth 100000 in
theorem e_X7_walked (l : Launch) (D : va_G) (K : Nat → ClassId) (ad : Nat → Nat) (hap0 : apart ad (fun _ => True)) (a1 : Int32) (a2 : Int32) (I : Nat → Nat → Int32) (G : Nat → Nat → Nat) (A : Nat → Nat → Int32) (L : Nat → Nat → Int64) (r0 : Int32) (I0 : Nat → Nat → Int32) (h : f_X7_walked I A a1 a2 = some (r0, I0)) : Ci l D K ad yX7_walked wsX7_walked 1 25 [.ref (ad 318), .int a1, .int a2] (I, G, A, L) (fun (r : Int32) (u : Mem) => r = r0 ∧ u = (I0, G, A, L)) := by
  intro sz
  refine Met.ofW (cc := cX7_walked) (maxL := 3) (ret := (some .int)) (by decide) rfl ?_
  intro p e s m args below meth c s₁ Bd hml hv0
  obtain ⟨rfl, hsz, hP, hK⟩ := hv0
  have hx := Bd.exec
  have hb := Bd.bytes
  have hr := Bd.returns
  have hts := atoms_spec (ws := wsX7_walked) Bd.pre
  have hown : s.vm.findClass RX7 = some m.cls := findClass_of_methodNamed Bd.named
  have hlocks := Bd.notSynchronized
  have hi7 : ∀ w ∈ u_ws RX7 TX7 79, w ∈ wsX7_walked := fun w h => List.mem_cons_of_mem _ (List.mem_append_right _ h)
  subst hsz
  have hap := vF_ap hap0 s.heap.size
  have hS : va_S (vF ad s.heap.size) s.heap s.heap [] := va_S.rf
  have hP : va_P D vwCl (VW K ad I G A L) s.heap := hP
  have hl := lv_entry ([.ref (ad 318), .int a1, .int a2]) (n := 3) (Nat.le_of_ble_eq_true rfl)
  rw [lg_entry_eq]
  generalize (lg_sl ([.ref (ad 318), .int a1, .int a2]) ++ List.replicate (3 - (lg_sl ([.ref (ad 318), .int a1, .int a2])).length) Slot.unset).toArray = ls at hl ⊢
  have hl : lv_has ls 3 [(0, .ref (ad 318)), (1, .int a1), (2, .int a2)] := hl
  rw [f_X7_walked] at h
  refine lv_aload_n hx hb dX7_walked_0 rfl (lv_at hl 0 rfl) ?_
  refine lv_iconst (v := 0) hx hb dX7_walked_1 (by decide) ?_
  refine vpI (v := 0) (ty := .int) hx hb hts hi7 tyX7 tyX7_ok nmX7 hown hK hP hap hS (318) (by decide) (show kd 318 = 7 by decide) (C := RX7) (T := TX7) (N := 79) rfl 0 (by decide) (by decide) (by decide) (by decide) (hts (.fieldLink RX7 201 "CrateHelpersModel" "thrown" "I") (by decide +kernel)) (fun _ h9 => h9) rfl (by decide +kernel) rfl rfl dX7_walked_2 (fun H locs hP hS => ?_)
  obtain ⟨I1, eI1, h⟩ := bd_e h
  rw [← eI1] at hP
  have hP : va_P D vwCl (VW K ad I1 G A L) H := hP
  refine lv_iload_n hx hb dX7_walked_5 rfl (lv_at hl 2 rfl) ?_
  refine lv_iconst (v := 0) hx hb dX7_walked_6 (by decide) ?_
  refine lv_bipush (v := 9) hx hb dX7_walked_7 (by decide) ?_
  obtain ⟨r2, hc3, h⟩ := Option.bind_eq_some_iff.mp h
  refine ecS (As := [.int a2, .int 0, .int 9]) (rest := []) ⟨hx, hb, hml, hown, hts⟩ (e_X7_in l D K ad hap0 a2 0 9 I1 G A L r2 hc3) (va_cwS 3 hts gX7_walked_X7_in rfl rfl rfl (by decide +kernel) ⟨Nat.le_of_ble_eq_true rfl, Nat.le_of_ble_eq_true rfl⟩) hK hP hS rfl hl.1 (Nat.le_of_ble_eq_true rfl) (Nat.le_of_ble_eq_true rfl) (Nat.le_of_ble_eq_true rfl) dX7_walked_9 (fun H locs hP hS => ?_) rfl
  have hP : va_P D vwCl (VW K ad I1 G A L) H := hP
  refine lv_if_ne (tgt := 17) hx hb dX7_walked_12 (by decide) (fun c_4 => ?_) (fun c_4 => ?_)
  · have h := iN c_4 h
    refine lv_iload_n hx hb dX7_walked_17 rfl (lv_at hl 1 rfl) ?_
    refine lv_iconst (v := 0) hx hb dX7_walked_18 (by decide) ?_
    refine lv_aload_n hx hb dX7_walked_19 rfl (lv_at hl 0 rfl) ?_
    refine vgI hx hb hts hi7 hown hK hP (318) (by decide) (show kd 318 = 7 by decide) (C := RX7) (T := TX7) (N := 79) rfl 48 (by decide) (by decide) (by decide) (by decide) (hts (.fieldLink RX7 313 "CrateHelpersModel" "walked" "I") (by decide +kernel)) (fun _ h9 => h9) dX7_walked_20 ?_
    refine lv_iconst (v := 1) hx hb dX7_walked_23 (by decide) ?_
    refine lv_isub hx hb dX7_walked_24 ?_
    obtain ⟨r5, hc6, h⟩ := Option.bind_eq_some_iff.mp h
    refine ecS (As := [.int a1, .int 0, .int ((I1 318 48) - 1)]) (rest := []) ⟨hx, hb, hml, hown, hts⟩ (e_X7_in l D K ad hap0 a1 0 ((I1 318 48) - 1) I1 G A L r5 hc6) (va_cwS 3 hts gX7_walked_X7_in rfl rfl rfl (by decide +kernel) ⟨Nat.le_of_ble_eq_true rfl, Nat.le_of_ble_eq_true rfl⟩) hK hP hS rfl hl.1 (Nat.le_of_ble_eq_true rfl) (Nat.le_of_ble_eq_true rfl) (Nat.le_of_ble_eq_true rfl) dX7_walked_25 (fun H locs hP hS => ?_) rfl
    have hP : va_P D vwCl (VW K ad I1 G A L) H := hP
    refine lv_if_ne (tgt := 34) hx hb dX7_walked_28 (by decide) (fun c_7 => ?_) (fun c_7 => ?_)
    · have h := iN c_7 h
      refine lv_iload_n hx hb dX7_walked_34 rfl (lv_at hl 2 rfl) ?_
      refine lv_if_ne (tgt := 47) hx hb dX7_walked_35 (by decide) (fun c_8 => ?_) (fun c_8 => ?_)
      · have h := iN c_8 h
        refine lv_iload_n hx hb dX7_walked_47 rfl (lv_at hl 2 rfl) ?_
        refine lv_bipush (v := 7) hx hb dX7_walked_48 (by decide) ?_
        refine lv_icmp_ge (tgt := 69) hx hb dX7_walked_50 (by decide) (fun c_9 => ?_) (fun c_9 => ?_)
        · have h := iN (Int32.not_lt.mpr c_9) h
          refine lv_iload_n hx hb dX7_walked_69 rfl (lv_at hl 2 rfl) ?_
          refine lv_bipush (v := 7) hx hb dX7_walked_70 (by decide) ?_
          refine lv_icmp_ne (tgt := 84) hx hb dX7_walked_72 (by decide) (fun c_10 => ?_) (fun c_10 => ?_)
          · have h := iN c_10 h
            refine lv_iload_n hx hb dX7_walked_84 rfl (lv_at hl 2 rfl) ?_
            refine lv_bipush (v := 8) hx hb dX7_walked_85 (by decide) ?_
            refine lv_icmp_ne (tgt := 99) hx hb dX7_walked_87 (by decide) (fun c_11 => ?_) (fun c_11 => ?_)
            · have h := iN c_11 h
              refine lv_aload_n hx hb dX7_walked_99 rfl (lv_at hl 0 rfl) ?_
              refine vgC hx hb hts hi7 hown hK hP (318) (by decide) (show kd 318 = 7 by decide) (C := RX7) (T := TX7) (N := 79) rfl 53 (by decide) (by decide) (by decide) (by decide) (358) rfl (hts (.fieldLink RX7 135 "CrateHelpersModel" "walkedOpen" "[I") (by decide +kernel)) (fun _ h9 => h9) dX7_walked_100 ?_
              refine lv_iload_n hx hb dX7_walked_103 rfl (lv_at hl 1 rfl) ?_
              obtain ⟨hn12, h⟩ := gk h
              refine xiald hx hb hK hP (358) (by decide) (show kd 358 = 8 by decide) (by rw [show ln 358 = 250 by decide]; exact hn12) dX7_walked_104 ?_
              exact W.iret (v := (A 358 a1.toNatClampNeg)) hx hb hr (fun t9 ht9 hW9 => ⟨⟨(A 358 a1.toNatClampNeg), (I1, G, A, L), rfl, by cases h; exact ⟨rfl, rfl⟩, by rw [ht9]; exact hP, va_K.moved hW9.alike hK⟩, hS.F ht9⟩) hS.2.2 dX7_walked_105
            · have h := ip c_11 h
              refine lv_aload_n hx hb dX7_walked_90 rfl (lv_at hl 0 rfl) ?_
              refine vgC hx hb hts hi7 hown hK hP (318) (by decide) (show kd 318 = 7 by decide) (C := RX7) (T := TX7) (N := 79) rfl 52 (by decide) (by decide) (by decide) (by decide) (357) rfl (hts (.fieldLink RX7 132 "CrateHelpersModel" "walkedBy" "[I") (by decide +kernel)) (fun _ h9 => h9) dX7_walked_91 ?_
              refine lv_iload_n hx hb dX7_walked_94 rfl (lv_at hl 1 rfl) ?_
              obtain ⟨hn13, h⟩ := gk h
              refine xiald hx hb hK hP (357) (by decide) (show kd 357 = 8 by decide) (by rw [show ln 357 = 250 by decide]; exact hn13) dX7_walked_95 ?_
              refine lv_goto (tgt := 105) hx hb dX7_walked_96 (by decide) ?_
              exact W.iret (v := (A 357 a1.toNatClampNeg)) hx hb hr (fun t9 ht9 hW9 => ⟨⟨(A 357 a1.toNatClampNeg), (I1, G, A, L), rfl, by cases h; exact ⟨rfl, rfl⟩, by rw [ht9]; exact hP, va_K.moved hW9.alike hK⟩, hS.F ht9⟩) hS.2.2 dX7_walked_105
          · have h := ip c_10 h
            refine lv_aload_n hx hb dX7_walked_75 rfl (lv_at hl 0 rfl) ?_
            refine vgC hx hb hts hi7 hown hK hP (318) (by decide) (show kd 318 = 7 by decide) (C := RX7) (T := TX7) (N := 79) rfl 51 (by decide) (by decide) (by decide) (by decide) (356) rfl (hts (.fieldLink RX7 129 "CrateHelpersModel" "walkedBound" "[I") (by decide +kernel)) (fun _ h9 => h9) dX7_walked_76 ?_
            refine lv_iload_n hx hb dX7_walked_79 rfl (lv_at hl 1 rfl) ?_
            obtain ⟨hn14, h⟩ := gk h
            refine xiald hx hb hK hP (356) (by decide) (show kd 356 = 8 by decide) (by rw [show ln 356 = 250 by decide]; exact hn14) dX7_walked_80 ?_
            refine lv_goto (tgt := 105) hx hb dX7_walked_81 (by decide) ?_
            exact W.iret (v := (A 356 a1.toNatClampNeg)) hx hb hr (fun t9 ht9 hW9 => ⟨⟨(A 356 a1.toNatClampNeg), (I1, G, A, L), rfl, by cases h; exact ⟨rfl, rfl⟩, by rw [ht9]; exact hP, va_K.moved hW9.alike hK⟩, hS.F ht9⟩) hS.2.2 dX7_walked_105
        · have h := ip (Int32.not_le.mp c_9) h
          refine lv_aload_n hx hb dX7_walked_53 rfl (lv_at hl 0 rfl) ?_
          refine vgC hx hb hts hi7 hown hK hP (318) (by decide) (show kd 318 = 7 by decide) (C := RX7) (T := TX7) (N := 79) rfl 50 (by decide) (by decide) (by decide) (by decide) (355) rfl (hts (.fieldLink RX7 126 "CrateHelpersModel" "walkedRow" "[I") (by decide +kernel)) (fun _ h9 => h9) dX7_walked_54 ?_
          refine lv_bipush (v := 6) hx hb dX7_walked_57 (by decide) ?_
          refine lv_iload_n hx hb dX7_walked_59 rfl (lv_at hl 1 rfl) ?_
          refine lv_imul hx hb dX7_walked_60 ?_
          refine lv_iload_n hx hb dX7_walked_61 rfl (lv_at hl 2 rfl) ?_
          refine lv_iadd hx hb dX7_walked_62 ?_
          refine lv_iconst (v := 1) hx hb dX7_walked_63 (by decide) ?_
          refine lv_isub hx hb dX7_walked_64 ?_
          obtain ⟨hn15, h⟩ := gk h
          refine xiald hx hb hK hP (355) (by decide) (show kd 355 = 8 by decide) (by rw [show ln 355 = 1500 by decide]; exact hn15) dX7_walked_65 ?_
          refine lv_goto (tgt := 105) hx hb dX7_walked_66 (by decide) ?_
          exact W.iret (v := (A 355 ((((6 * a1) + a2) - 1).toNatClampNeg))) hx hb hr (fun t9 ht9 hW9 => ⟨⟨(A 355 ((((6 * a1) + a2) - 1).toNatClampNeg)), (I1, G, A, L), rfl, by cases h; exact ⟨rfl, rfl⟩, by rw [ht9]; exact hP, va_K.moved hW9.alike hK⟩, hS.F ht9⟩) hS.2.2 dX7_walked_105
      · have h := ip c_8 h
        refine lv_aload_n hx hb dX7_walked_38 rfl (lv_at hl 0 rfl) ?_
        refine vgC hx hb hts hi7 hown hK hP (318) (by decide) (show kd 318 = 7 by decide) (C := RX7) (T := TX7) (N := 79) rfl 49 (by decide) (by decide) (by decide) (by decide) (354) rfl (hts (.fieldLink RX7 123 "CrateHelpersModel" "walkedDepth" "[I") (by decide +kernel)) (fun _ h9 => h9) dX7_walked_39 ?_
        refine lv_iload_n hx hb dX7_walked_42 rfl (lv_at hl 1 rfl) ?_
        obtain ⟨hn16, h⟩ := gk h
        refine xiald hx hb hK hP (354) (by decide) (show kd 354 = 8 by decide) (by rw [show ln 354 = 250 by decide]; exact hn16) dX7_walked_43 ?_
        refine lv_goto (tgt := 105) hx hb dX7_walked_44 (by decide) ?_
        exact W.iret (v := (A 354 a1.toNatClampNeg)) hx hb hr (fun t9 ht9 hW9 => ⟨⟨(A 354 a1.toNatClampNeg), (I1, G, A, L), rfl, by cases h; exact ⟨rfl, rfl⟩, by rw [ht9]; exact hP, va_K.moved hW9.alike hK⟩, hS.F ht9⟩) hS.2.2 dX7_walked_105
    · have h := ip c_7 h
      refine lv_bipush (v := (-9)) hx hb dX7_walked_31 (by decide) ?_
      exact W.iret (v := (-9)) hx hb hr (fun t9 ht9 hW9 => ⟨⟨(-9), (I1, G, A, L), rfl, by cases h; exact ⟨rfl, rfl⟩, by rw [ht9]; exact hP, va_K.moved hW9.alike hK⟩, hS.F ht9⟩) hS.2.2 dX7_walked_33
  · have h := ip c_4 h
    refine lv_iconst (v := (-1)) hx hb dX7_walked_15 (by decide) ?_
    exact W.iret (v := (-1)) hx hb hr (fun t9 ht9 hW9 => ⟨⟨(-1), (I1, G, A, L), rfl, by cases h; exact ⟨rfl, rfl⟩, by rw [ht9]; exact hP, va_K.moved hW9.alike hK⟩, hS.F ht9⟩) hS.2.2 dX7_walked_16
set_option maxHeartbeats 4000000 in
set_option maxRecDepth 100000 in
theorem e_X7_with (l : Launch) (D : va_G) (K : Nat → ClassId) (ad : Nat → Nat) (hap0 : apart ad (fun _ => True)) (a1 : Int32) (I : Nat → Nat → Int32) (G : Nat → Nat → Nat) (A : Nat → Nat → Int32) (L : Nat → Nat → Int64) (r0 : Int32) (I0 : Nat → Nat → Int32) (A0 : Nat → Nat → Int32) (h : f_X7_with I A a1 = some (r0, I0, A0)) : Ci l D K ad yX7_with wsX7_with 1 25 [.ref (ad 318), .int a1] (I, G, A, L) (fun (r : Int32) (u : Mem) => r = r0 ∧ u = (I0, G, A0, L)) := by
  intro sz
  refine Met.ofW (cc := cX7_with) (maxL := 2) (ret := (some .int)) (by decide) rfl ?_
  intro p e s m args below meth c s₁ Bd hml hv0
  obtain ⟨rfl, hsz, hP, hK⟩ := hv0
  have hx := Bd.exec
  have hb := Bd.bytes
  have hr := Bd.returns
  have hts := atoms_spec (ws := wsX7_with) Bd.pre
  have hown : s.vm.findClass RX7 = some m.cls := findClass_of_methodNamed Bd.named
  have hlocks := Bd.notSynchronized
  have hi7 : ∀ w ∈ u_ws RX7 TX7 79, w ∈ wsX7_with := fun w h => List.mem_cons_of_mem _ (List.mem_append_right _ h)
  subst hsz
  have hap := vF_ap hap0 s.heap.size
  have hS : va_S (vF ad s.heap.size) s.heap s.heap [] := va_S.rf
  have hP : va_P D vwCl (VW K ad I G A L) s.heap := hP
  have hl := lv_entry ([.ref (ad 318), .int a1]) (n := 2) (Nat.le_of_ble_eq_true rfl)
  rw [lg_entry_eq]
  generalize (lg_sl ([.ref (ad 318), .int a1]) ++ List.replicate (2 - (lg_sl ([.ref (ad 318), .int a1])).length) Slot.unset).toArray = ls at hl ⊢
  have hl : lv_has ls 2 [(0, .ref (ad 318)), (1, .int a1)] := hl
  rw [f_X7_with] at h
  refine lv_aload_n hx hb dX7_with_0 rfl (lv_at hl 0 rfl) ?_
  refine lv_iconst (v := 0) hx hb dX7_with_1 (by decide) ?_
  refine vpI (v := 0) (ty := .int) hx hb hts hi7 tyX7 tyX7_ok nmX7 hown hK hP hap hS (318) (by decide) (show kd 318 = 7 by decide) (C := RX7) (T := TX7) (N := 79) rfl 0 (by decide) (by decide) (by decide) (by decide) (hts (.fieldLink RX7 201 "CrateHelpersModel" "thrown" "I") (by decide +kernel)) (fun _ h9 => h9) rfl (by decide +kernel) rfl rfl dX7_with_2 (fun H locs hP hS => ?_)
  obtain ⟨I1, eI1, h⟩ := bd_e h
  rw [← eI1] at hP
  have hP : va_P D vwCl (VW K ad I1 G A L) H := hP
  refine lv_aload_n hx hb dX7_with_5 rfl (lv_at hl 0 rfl) ?_
  refine vgI hx hb hts hi7 hown hK hP (318) (by decide) (show kd 318 = 7 by decide) (C := RX7) (T := TX7) (N := 79) rfl 57 (by decide) (by decide) (by decide) (by decide) (hts (.fieldLink RX7 147 "CrateHelpersModel" "asked" "I") (by decide +kernel)) (fun _ h9 => h9) dX7_with_6 ?_
  refine lv_bipush (v := (-9)) hx hb dX7_with_9 (by decide) ?_
  refine lv_icmp_eq (tgt := 57) hx hb dX7_with_11 (by decide) (fun c_2 => ?_) (fun c_2 => ?_)
  · have h := ip c_2 h
    refine lv_iconst (v := (-1)) hx hb dX7_with_57 (by decide) ?_
    exact W.iret (v := (-1)) hx hb hr (fun t9 ht9 hW9 => ⟨⟨(-1), (I1, G, A, L), rfl, by cases h; exact ⟨rfl, rfl⟩, by rw [ht9]; exact hP, va_K.moved hW9.alike hK⟩, hS.F ht9⟩) hS.2.2 dX7_with_58
  · have h := iN c_2 h
    refine lv_aload_n hx hb dX7_with_14 rfl (lv_at hl 0 rfl) ?_
    refine vgI hx hb hts hi7 hown hK hP (318) (by decide) (show kd 318 = 7 by decide) (C := RX7) (T := TX7) (N := 79) rfl 59 (by decide) (by decide) (by decide) (by decide) (hts (.fieldLink RX7 342 "CrateHelpersModel" "askedDepth" "I") (by decide +kernel)) (fun _ h9 => h9) dX7_with_15 ?_
    refine lv_aload_n hx hb dX7_with_18 rfl (lv_at hl 0 rfl) ?_
    refine vgC hx hb hts hi7 hown hK hP (318) (by decide) (show kd 318 = 7 by decide) (C := RX7) (T := TX7) (N := 79) rfl 3 (by decide) (by decide) (by decide) (by decide) (319) rfl (hts (.fieldLink RX7 7 "CrateHelpersModel" "variables" "[I") (by decide +kernel)) (fun _ h9 => h9) dX7_with_19 ?_
    refine lv_aload_n hx hb dX7_with_22 rfl (lv_at hl 0 rfl) ?_
    refine vgI hx hb hts hi7 hown hK hP (318) (by decide) (show kd 318 = 7 by decide) (C := RX7) (T := TX7) (N := 79) rfl 57 (by decide) (by decide) (by decide) (by decide) (hts (.fieldLink RX7 147 "CrateHelpersModel" "asked" "I") (by decide +kernel)) (fun _ h9 => h9) dX7_with_23 ?_
    obtain ⟨hn3, h⟩ := gk h
    refine xiald hx hb hK hP (319) (by decide) (show kd 319 = 8 by decide) (by rw [show ln 319 = 5 by decide]; exact hn3) dX7_with_26 ?_
    refine lv_icmp_eq (tgt := 57) hx hb dX7_with_27 (by decide) (fun c_4 => ?_) (fun c_4 => ?_)
    · have h := ip c_4 h
      refine lv_iconst (v := (-1)) hx hb dX7_with_57 (by decide) ?_
      exact W.iret (v := (-1)) hx hb hr (fun t9 ht9 hW9 => ⟨⟨(-1), (I1, G, A, L), rfl, by cases h; exact ⟨rfl, rfl⟩, by rw [ht9]; exact hP, va_K.moved hW9.alike hK⟩, hS.F ht9⟩) hS.2.2 dX7_with_58
    · have h := iN c_4 h
      refine lv_iload_n hx hb dX7_with_30 rfl (lv_at hl 1 rfl) ?_
      refine lv_iconst (v := 0) hx hb dX7_with_31 (by decide) ?_
      refine lv_aload_n hx hb dX7_with_32 rfl (lv_at hl 0 rfl) ?_
      refine vgC hx hb hts hi7 hown hK hP (318) (by decide) (show kd 318 = 7 by decide) (C := RX7) (T := TX7) (N := 79) rfl 5 (by decide) (by decide) (by decide) (by decide) (321) rfl (hts (.fieldLink RX7 16 "CrateHelpersModel" "values" "[I") (by decide +kernel)) (fun _ h9 => h9) dX7_with_33 ?_
      refine lv_bipush (v := 6) hx hb dX7_with_36 (by decide) ?_
      refine lv_aload_n hx hb dX7_with_38 rfl (lv_at hl 0 rfl) ?_
      refine vgI hx hb hts hi7 hown hK hP (318) (by decide) (show kd 318 = 7 by decide) (C := RX7) (T := TX7) (N := 79) rfl 57 (by decide) (by decide) (by decide) (by decide) (hts (.fieldLink RX7 147 "CrateHelpersModel" "asked" "I") (by decide +kernel)) (fun _ h9 => h9) dX7_with_39 ?_
      refine lv_imul hx hb dX7_with_42 ?_
      refine lv_aload_n hx hb dX7_with_43 rfl (lv_at hl 0 rfl) ?_
      refine vgI hx hb hts hi7 hown hK hP (318) (by decide) (show kd 318 = 7 by decide) (C := RX7) (T := TX7) (N := 79) rfl 59 (by decide) (by decide) (by decide) (by decide) (hts (.fieldLink RX7 342 "CrateHelpersModel" "askedDepth" "I") (by decide +kernel)) (fun _ h9 => h9) dX7_with_44 ?_
      refine lv_iadd hx hb dX7_with_47 ?_
      obtain ⟨hn5, h⟩ := gk h
      refine xiald hx hb hK hP (321) (by decide) (show kd 321 = 8 by decide) (by rw [show ln 321 = 30 by decide]; exact hn5) dX7_with_48 ?_
      refine lv_iconst (v := 1) hx hb dX7_with_49 (by decide) ?_
      refine lv_isub hx hb dX7_with_50 ?_
      obtain ⟨r6, hc7, h⟩ := Option.bind_eq_some_iff.mp h
      refine ecS (As := [.int a1, .int 0, .int ((A 321 (((6 * (I1 318 57)) + (I1 318 59)).toNatClampNeg)) - 1)]) (rest := []) ⟨hx, hb, hml, hown, hts⟩ (e_X7_in l D K ad hap0 a1 0 ((A 321 (((6 * (I1 318 57)) + (I1 318 59)).toNatClampNeg)) - 1) I1 G A L r6 hc7) (va_cwS 3 hts gX7_with_X7_in rfl rfl rfl (by decide +kernel) ⟨Nat.le_of_ble_eq_true rfl, Nat.le_of_ble_eq_true rfl⟩) hK hP hS rfl hl.1 (Nat.le_of_ble_eq_true rfl) (Nat.le_of_ble_eq_true rfl) (Nat.le_of_ble_eq_true rfl) dX7_with_51 (fun H locs hP hS => ?_) rfl
      have hP : va_P D vwCl (VW K ad I1 G A L) H := hP
      refine lv_if_ne (tgt := 59) hx hb dX7_with_54 (by decide) (fun c_8 => ?_) (fun c_8 => ?_)
      · have h := iN c_8 h
        refine lv_aload_n hx hb dX7_with_59 rfl (lv_at hl 0 rfl) ?_
        refine vgC hx hb hts hi7 hown hK hP (318) (by decide) (show kd 318 = 7 by decide) (C := RX7) (T := TX7) (N := 79) rfl 60 (by decide) (by decide) (by decide) (by decide) (362) rfl (hts (.fieldLink RX7 150 "CrateHelpersModel" "askedRow" "[I") (by decide +kernel)) (fun _ h9 => h9) dX7_with_60 ?_
        refine lv_aload_n hx hb dX7_with_63 rfl (lv_at hl 0 rfl) ?_
        refine vgI hx hb hts hi7 hown hK hP (318) (by decide) (show kd 318 = 7 by decide) (C := RX7) (T := TX7) (N := 79) rfl 59 (by decide) (by decide) (by decide) (by decide) (hts (.fieldLink RX7 342 "CrateHelpersModel" "askedDepth" "I") (by decide +kernel)) (fun _ h9 => h9) dX7_with_64 ?_
        refine lv_iload_n hx hb dX7_with_67 rfl (lv_at hl 1 rfl) ?_
        obtain ⟨hn9, h⟩ := gk h
        refine xiast hx hb hK hP hap hS (362) (by decide) (show kd 362 = 8 by decide) (by rw [show ln 362 = 6 by decide]; exact hn9) dX7_with_68 (fun H locs hP hS => ?_)
        obtain ⟨A10, eA10, h⟩ := bd_e h
        rw [← eA10] at hP
        have hP : va_P D vwCl (VW K ad I1 G A10 L) H := hP
        refine lv_aload_n hx hb dX7_with_69 rfl (lv_at hl 0 rfl) ?_
        refine lv_dup hx hb dX7_with_70 rfl ?_
        refine vgI hx hb hts hi7 hown hK hP (318) (by decide) (show kd 318 = 7 by decide) (C := RX7) (T := TX7) (N := 79) rfl 59 (by decide) (by decide) (by decide) (by decide) (hts (.fieldLink RX7 342 "CrateHelpersModel" "askedDepth" "I") (by decide +kernel)) (fun _ h9 => h9) dX7_with_71 ?_
        refine lv_iconst (v := 1) hx hb dX7_with_74 (by decide) ?_
        refine lv_iadd hx hb dX7_with_75 ?_
        refine vpI (v := ((I1 318 59) + 1)) (ty := .int) hx hb hts hi7 tyX7 tyX7_ok nmX7 hown hK hP hap hS (318) (by decide) (show kd 318 = 7 by decide) (C := RX7) (T := TX7) (N := 79) rfl 59 (by decide) (by decide) (by decide) (by decide) (hts (.fieldLink RX7 342 "CrateHelpersModel" "askedDepth" "I") (by decide +kernel)) (fun _ h9 => h9) rfl (by decide +kernel) rfl rfl dX7_with_76 (fun H locs hP hS => ?_)
        obtain ⟨I11, eI11, h⟩ := bd_e h
        rw [← eI11] at hP
        have hP : va_P D vwCl (VW K ad I11 G A10 L) H := hP
        refine lv_aload_n hx hb dX7_with_79 rfl (lv_at hl 0 rfl) ?_
        refine vgI hx hb hts hi7 hown hK hP (318) (by decide) (show kd 318 = 7 by decide) (C := RX7) (T := TX7) (N := 79) rfl 59 (by decide) (by decide) (by decide) (by decide) (hts (.fieldLink RX7 342 "CrateHelpersModel" "askedDepth" "I") (by decide +kernel)) (fun _ h9 => h9) dX7_with_80 ?_
        exact W.iret (v := (I11 318 59)) hx hb hr (fun t9 ht9 hW9 => ⟨⟨(I11 318 59), (I11, G, A10, L), rfl, by cases h; exact ⟨rfl, rfl⟩, by rw [ht9]; exact hP, va_K.moved hW9.alike hK⟩, hS.F ht9⟩) hS.2.2 dX7_with_83
      · have h := ip c_8 h
        refine lv_iconst (v := (-1)) hx hb dX7_with_57 (by decide) ?_
        exact W.iret (v := (-1)) hx hb hr (fun t9 ht9 hW9 => ⟨⟨(-1), (I1, G, A, L), rfl, by cases h; exact ⟨rfl, rfl⟩, by rw [ht9]; exact hP, va_K.moved hW9.alike hK⟩, hS.F ht9⟩) hS.2.2 dX7_with_58

/-! part 52.wrap -/
theorem e_J7_fill_53178 (l : Launch) (D : va_G) (K : Nat → ClassId) (ad : Nat → Nat) (hap0 : apart ad (fun _ => True)) (s0 : Nat) (a1 : Int32) (I : Nat → Nat → Int32) (G : Nat → Nat → Nat) (A : Nat → Nat → Int32) (L : Nat → Nat → Int64) (A0 : Nat → Nat → Int32) (h : f_J7_fill_53178 A s0 a1 = some A0) : Cv l D K ad yJ7_fill_53178 wsJ7_fill_53178 0 0 [.ref (ad s0), .int a1] (I, G, A, L) (fun (u : Mem) => u = (I, G, A0, L)) := by
  unfold f_J7_fill_53178 at h
  obtain ⟨⟨h1, h2, h3⟩, h⟩ := gk h
  cases h
  exact c_fill l D K ad hap0 s0 _ a1 ⟨s318 h1, h2, rfl⟩ h3 I G A L
theorem e_X0_look (l : Launch) (D : va_G) (K : Nat → ClassId) (ad : Nat → Nat) (hap0 : apart ad (fun _ => True)) (o s1 s2 : Nat) (a3 a4 : Int32) (I : Nat → Nat → Int32) (G : Nat → Nat → Nat) (A : Nat → Nat → Int32) (L : Nat → Nat → Int64) (I0 : Nat → Nat → Int32) (h : f_X0_look I A o s1 s2 a3 a4 = some I0) : Cv l D K ad yX0_look wsX0_look 4 150 [.ref (ad o), .ref (ad s1), .ref (ad s2), .int a3, .int a4] (I, G, A, L) (fun (u : Mem) => u = (I0, G, A, L)) := by
  unfold f_X0_look at h
  obtain ⟨⟨h1, h2, h3, h4, h5, h6, h7, h8⟩, h⟩ := gk h
  cases h
  have q := c_X0_look l D K ad hap0 o s1 s2 _ _ _ a4 h1 h2 h3 h4 h6 I G A L h7 h8
  rw [← h5] at q
  exact q
theorem e_X5_nextFree (l : Launch) (D : va_G) (K : Nat → ClassId) (ad : Nat → Nat) (hap0 : apart ad (fun _ => True)) (o : Nat) (I : Nat → Nat → Int32) (G : Nat → Nat → Nat) (A : Nat → Nat → Int32) (L : Nat → Nat → Int64) (r0 : Int32) (h : f_X5_nextFree I A L o = some r0) : Ci l D K ad yX5_nextFree wsX5_nextFree 0 0 [.ref (ad o)] (I, G, A, L) (fun (r : Int32) (u : Mem) => r = r0 ∧ u = (I, G, A, L)) := by
  unfold f_X5_nextFree at h
  obtain ⟨⟨h1, h2, h3⟩, h⟩ := gk h
  cases h
  exact c_X5_nextFree l D K ad hap0 o _ h1 h2 I G A L h3
theorem e_X5_nextOfWalk (l : Launch) (D : va_G) (K : Nat → ClassId) (ad : Nat → Nat) (hap0 : apart ad (fun _ => True)) (o : Nat) (I : Nat → Nat → Int32) (G : Nat → Nat → Nat) (A : Nat → Nat → Int32) (L : Nat → Nat → Int64) (r0 : Int32) (h : f_X5_nextOfWalk I A L o = some r0) : Ci l D K ad yX5_nextOfWalk wsX5_nextOfWalk 0 0 [.ref (ad o)] (I, G, A, L) (fun (r : Int32) (u : Mem) => r = r0 ∧ u = (I, G, A, L)) := by
  unfold f_X5_nextOfWalk at h
  obtain ⟨⟨h1, h2, h3⟩, h⟩ := gk h
  cases h
  exact c_X5_nextOfWalk l D K ad hap0 o _ h1 h2 I G A L h3
theorem e_X5_copyValues (l : Launch) (D : va_G) (K : Nat → ClassId) (ad : Nat → Nat) (hap0 : apart ad (fun _ => True)) (o : Nat) (a1 : Int32) (s2 : Nat) (a3 : Int32) (I : Nat → Nat → Int32) (G : Nat → Nat → Nat) (A : Nat → Nat → Int32) (L : Nat → Nat → Int64) (A0 : Nat → Nat → Int32) (h : f_X5_copyValues A L o a1 s2 a3 = some A0) : Cv l D K ad yX5_copyValues wsX5_copyValues 2 80 [.ref (ad o), .int a1, .ref (ad s2), .int a3] (I, G, A, L) (fun (u : Mem) => u = (I, G, A0, L)) := by
  unfold f_X5_copyValues at h
  obtain ⟨⟨h1, h2, h3, h4, h5, h6, h7, h8, h9, h10⟩, h⟩ := gk h
  cases h
  have q := c_X5_copyValues l D K ad hap0 o _ h1 h2 s2 _ _ _ h4 h5 h6 h7 I G A L h10
  rw [← h3, ← h9] at q
  exact q
theorem e_X2_isBroken (l : Launch) (D : va_G) (K : Nat → ClassId) (ad : Nat → Nat) (hap0 : apart ad (fun _ => True)) (o s1 s2 : Nat) (I : Nat → Nat → Int32) (G : Nat → Nat → Nat) (A : Nat → Nat → Int32) (L : Nat → Nat → Int64) (r0 : Int32) (h : f_X2_isBroken I A o s1 s2 = some r0) : Ci l D K ad yX2_isBroken wsX2_isBroken 2 80 [.ref (ad o), .ref (ad s1), .ref (ad s2)] (I, G, A, L) (fun (r : Int32) (u : Mem) => r = r0 ∧ u = (I, G, A, L)) := by
  unfold f_X2_isBroken at h
  obtain ⟨⟨h1, h2, h3, h4⟩, h⟩ := gk h
  cases h
  exact c_X2_isBroken l D K ad hap0 o s1 s2 _ h1 h2 h3 I G A L h4
theorem e_X1_isOut (l : Launch) (D : va_G) (K : Nat → ClassId) (ad : Nat → Nat) (hap0 : apart ad (fun _ => True)) (o s1 : Nat) (a2 a3 : Int32) (I : Nat → Nat → Int32) (G : Nat → Nat → Nat) (A : Nat → Nat → Int32) (L : Nat → Nat → Int64) (r0 : Int32) (h : f_X1_isOut I A o s1 a2 a3 = some r0) : Ci l D K ad yX1_isOut wsX1_isOut 4 150 [.ref (ad o), .ref (ad s1), .int a2, .int a3] (I, G, A, L) (fun (r : Int32) (u : Mem) => r = r0 ∧ u = (I, G, A, L)) := by
  unfold f_X1_isOut at h
  obtain ⟨⟨h1, h2, h3, h4, h5, h6⟩, h⟩ := gk h
  cases h
  have q := c_X1_isOut l D K ad hap0 o s1 _ _ _ a3 h1 h2 h3 h4 I G A L h6
  rw [← h5] at q
  exact q
theorem e_X4_whoHasTurn (l : Launch) (D : va_G) (K : Nat → ClassId) (ad : Nat → Nat) (hap0 : apart ad (fun _ => True)) (o : Nat) (a1 : Int32) (I : Nat → Nat → Int32) (G : Nat → Nat → Nat) (A : Nat → Nat → Int32) (L : Nat → Nat → Int64) (r0 : Int32) (h : f_X4_whoHasTurn I A o a1 = some r0) : Ci l D K ad yX4_whoHasTurn wsX4_whoHasTurn 1 40 [.ref (ad o), .int a1] (I, G, A, L) (fun (r : Int32) (u : Mem) => r = r0 ∧ u = (I, G, A, L)) := by
  unfold f_X4_whoHasTurn at h
  obtain ⟨⟨h1, h2, h3, h4, h5, h6, h7, h8⟩, h⟩ := gk h
  cases h
  have q := c_X4_whoHasTurn l D K ad hap0 o h1 _ _ _ h3 h4 h5 h6 I G A L h7 h8
  rw [← h2] at q
  exact q
theorem e_X5_take (l : Launch) (D : va_G) (K : Nat → ClassId) (ad : Nat → Nat) (hap0 : apart ad (fun _ => True)) (o : Nat) (a1 : Int32) (I : Nat → Nat → Int32) (G : Nat → Nat → Nat) (A : Nat → Nat → Int32) (L : Nat → Nat → Int64) (I0 : Nat → Nat → Int32) (A0 : Nat → Nat → Int32) (h : f_X5_take I G A o a1 = some (I0, A0)) : Cv l D K ad yX5_take wsX5_take 1 40 [.ref (ad o), .int a1] (I, G, A, L) (fun (u : Mem) => u = (I0, G, A0, L)) := by
  unfold f_X5_take at h
  obtain ⟨⟨h1, h2, h3, h4, h5, h6, h7, h8⟩, h⟩ := gk h
  cases h
  have q := c_X5_take l D K ad hap0 o _ h1 h2 _ _ _ _ h3 h4 h5 I G A L rfl h6 h7
  rw [← h8] at q
  exact q
theorem e_X5_openBelow (l : Launch) (D : va_G) (K : Nat → ClassId) (ad : Nat → Nat) (hap0 : apart ad (fun _ => True)) (o : Nat) (a1 : Int32) (I : Nat → Nat → Int32) (G : Nat → Nat → Nat) (A : Nat → Nat → Int32) (L : Nat → Nat → Int64) (r0 : Int32) (h : f_X5_openBelow G A o a1 = some r0) : Ci l D K ad yX5_openBelow wsX5_openBelow 1 40 [.ref (ad o), .int a1] (I, G, A, L) (fun (r : Int32) (u : Mem) => r = r0 ∧ u = (I, G, A, L)) := by
  unfold f_X5_openBelow at h
  obtain ⟨⟨h1, h2, h3, h4, h5, h6⟩, h⟩ := gk h
  cases h
  have q := c_X5_openBelow l D K ad hap0 o _ h1 h2 _ _ _ h3 h4 I G A L rfl h5
  rw [← h6] at q
  exact q

/-! part 53.c00 -/
set_option maxHeartbeats 4000000 in
set_option maxRecDepth 100000 in
theorem e_X1_hasRule (l : Launch) (D : va_G) (K : Nat → ClassId) (ad : Nat → Nat) (hap0 : apart ad (fun _ => True)) (o : Nat) (a1 : Int32) (I : Nat → Nat → Int32) (G : Nat → Nat → Nat) (A : Nat → Nat → Int32) (L : Nat → Nat → Int64) (r0 : Int32) (h : f_X1_hasRule I o a1 = some r0) : Ci l D K ad yX1_hasRule wsX1_hasRule 0 0 [.ref (ad o), .int a1] (I, G, A, L) (fun (r : Int32) (u : Mem) => r = r0 ∧ u = (I, G, A, L)) := by
  intro sz
  refine Met.ofW (cc := cX1_hasRule) (maxL := 2) (ret := (some .boolean)) (by decide) rfl ?_
  intro p e s m args below meth c s₁ Bd hml hv0
  obtain ⟨rfl, hsz, hP, hK⟩ := hv0
  have hx := Bd.exec
  have hb := Bd.bytes
  have hr := Bd.returns
  have hts := atoms_spec (ws := wsX1_hasRule) Bd.pre
  have hown : s.vm.findClass RX1 = some m.cls := findClass_of_methodNamed Bd.named
  have hlocks := Bd.notSynchronized
  have hi1 : ∀ w ∈ u_ws RX1 TX1 9, w ∈ wsX1_hasRule := fun w h => List.mem_cons_of_mem _ (List.mem_append_right _ h)
  subst hsz
  have hap := vF_ap hap0 s.heap.size
  have hS : va_S (vF ad s.heap.size) s.heap s.heap [] := va_S.rf
  have hP : va_P D vwCl (VW K ad I G A L) s.heap := hP
  have hl := lv_entry ([.ref (ad o), .int a1]) (n := 2) (Nat.le_of_ble_eq_true rfl)
  rw [lg_entry_eq]
  generalize (lg_sl ([.ref (ad o), .int a1]) ++ List.replicate (2 - (lg_sl ([.ref (ad o), .int a1])).length) Slot.unset).toArray = ls at hl ⊢
  have hl : lv_has ls 2 [(0, .ref (ad o)), (1, .int a1)] := hl
  rw [f_X1_hasRule] at h
  refine lv_iload_n hx hb dX1_hasRule_0 rfl (lv_at hl 1 rfl) ?_
  refine lv_if_lt (tgt := 16) hx hb dX1_hasRule_1 (by decide) (fun c_1 => ?_) (fun c_1 => ?_)
  · have h := ip c_1 h
    refine lv_iconst (v := 0) hx hb dX1_hasRule_16 (by decide) ?_
    exact W.zret (v := 0) hx hb hr (by decide) (fun t9 ht9 hW9 => ⟨⟨0, (I, G, A, L), rfl, by cases h; exact ⟨rfl, rfl⟩, by rw [ht9]; exact hP, va_K.moved hW9.alike hK⟩, hS.F ht9⟩) hS.2.2 dX1_hasRule_17
  · have h := iN c_1 h
    refine lv_iload_n hx hb dX1_hasRule_4 rfl (lv_at hl 1 rfl) ?_
    refine lv_aload_n hx hb dX1_hasRule_5 rfl (lv_at hl 0 rfl) ?_
    obtain ⟨hk2, h⟩ := gk h
    refine vgI hx hb hts hi1 hown hK hP (o) (s318 hk2.1) hk2.2 (C := RX1) (T := TX1) (N := 9) rfl 1 (by decide) (by decide) (by decide) (by decide) (hts (.fieldLink RX1 15 "CrateHelpers$Problem" "ruleCount" "I") (by decide +kernel)) (fun _ h9 => h9) dX1_hasRule_6 ?_
    refine lv_icmp_ge (tgt := 16) hx hb dX1_hasRule_9 (by decide) (fun c_3 => ?_) (fun c_3 => ?_)
    · have h := iN (Int32.not_lt.mpr c_3) h
      refine lv_iconst (v := 0) hx hb dX1_hasRule_16 (by decide) ?_
      exact W.zret (v := 0) hx hb hr (by decide) (fun t9 ht9 hW9 => ⟨⟨0, (I, G, A, L), rfl, by cases h; exact ⟨rfl, rfl⟩, by rw [ht9]; exact hP, va_K.moved hW9.alike hK⟩, hS.F ht9⟩) hS.2.2 dX1_hasRule_17
    · have h := ip (Int32.not_le.mp c_3) h
      refine lv_iconst (v := 1) hx hb dX1_hasRule_12 (by decide) ?_
      refine lv_goto (tgt := 17) hx hb dX1_hasRule_13 (by decide) ?_
      exact W.zret (v := 1) hx hb hr (by decide) (fun t9 ht9 hW9 => ⟨⟨1, (I, G, A, L), rfl, by cases h; exact ⟨rfl, rfl⟩, by rw [ht9]; exact hP, va_K.moved hW9.alike hK⟩, hS.F ht9⟩) hS.2.2 dX1_hasRule_17
set_option maxHeartbeats 4000000 in
set_option maxRecDepth 100000 in
theorem e_X1_hasVariable (l : Launch) (D : va_G) (K : Nat → ClassId) (ad : Nat → Nat) (hap0 : apart ad (fun _ => True)) (o : Nat) (a1 : Int32) (I : Nat → Nat → Int32) (G : Nat → Nat → Nat) (A : Nat → Nat → Int32) (L : Nat → Nat → Int64) (r0 : Int32) (h : f_X1_hasVariable I o a1 = some r0) : Ci l D K ad yX1_hasVariable wsX1_hasVariable 0 0 [.ref (ad o), .int a1] (I, G, A, L) (fun (r : Int32) (u : Mem) => r = r0 ∧ u = (I, G, A, L)) := by
  intro sz
  refine Met.ofW (cc := cX1_hasVariable) (maxL := 2) (ret := (some .boolean)) (by decide) rfl ?_
  intro p e s m args below meth c s₁ Bd hml hv0
  obtain ⟨rfl, hsz, hP, hK⟩ := hv0
  have hx := Bd.exec
  have hb := Bd.bytes
  have hr := Bd.returns
  have hts := atoms_spec (ws := wsX1_hasVariable) Bd.pre
  have hown : s.vm.findClass RX1 = some m.cls := findClass_of_methodNamed Bd.named
  have hlocks := Bd.notSynchronized
  have hi1 : ∀ w ∈ u_ws RX1 TX1 9, w ∈ wsX1_hasVariable := fun w h => List.mem_cons_of_mem _ (List.mem_append_right _ h)
  subst hsz
  have hap := vF_ap hap0 s.heap.size
  have hS : va_S (vF ad s.heap.size) s.heap s.heap [] := va_S.rf
  have hP : va_P D vwCl (VW K ad I G A L) s.heap := hP
  have hl := lv_entry ([.ref (ad o), .int a1]) (n := 2) (Nat.le_of_ble_eq_true rfl)
  rw [lg_entry_eq]
  generalize (lg_sl ([.ref (ad o), .int a1]) ++ List.replicate (2 - (lg_sl ([.ref (ad o), .int a1])).length) Slot.unset).toArray = ls at hl ⊢
  have hl : lv_has ls 2 [(0, .ref (ad o)), (1, .int a1)] := hl
  rw [f_X1_hasVariable] at h
  refine lv_iload_n hx hb dX1_hasVariable_0 rfl (lv_at hl 1 rfl) ?_
  refine lv_if_lt (tgt := 16) hx hb dX1_hasVariable_1 (by decide) (fun c_1 => ?_) (fun c_1 => ?_)
  · have h := ip c_1 h
    refine lv_iconst (v := 0) hx hb dX1_hasVariable_16 (by decide) ?_
    exact W.zret (v := 0) hx hb hr (by decide) (fun t9 ht9 hW9 => ⟨⟨0, (I, G, A, L), rfl, by cases h; exact ⟨rfl, rfl⟩, by rw [ht9]; exact hP, va_K.moved hW9.alike hK⟩, hS.F ht9⟩) hS.2.2 dX1_hasVariable_17
  · have h := iN c_1 h
    refine lv_iload_n hx hb dX1_hasVariable_4 rfl (lv_at hl 1 rfl) ?_
    refine lv_aload_n hx hb dX1_hasVariable_5 rfl (lv_at hl 0 rfl) ?_
    obtain ⟨hk2, h⟩ := gk h
    refine vgI hx hb hts hi1 hown hK hP (o) (s318 hk2.1) hk2.2 (C := RX1) (T := TX1) (N := 9) rfl 0 (by decide) (by decide) (by decide) (by decide) (hts (.fieldLink RX1 9 "CrateHelpers$Problem" "variables" "I") (by decide +kernel)) (fun _ h9 => h9) dX1_hasVariable_6 ?_
    refine lv_icmp_ge (tgt := 16) hx hb dX1_hasVariable_9 (by decide) (fun c_3 => ?_) (fun c_3 => ?_)
    · have h := iN (Int32.not_lt.mpr c_3) h
      refine lv_iconst (v := 0) hx hb dX1_hasVariable_16 (by decide) ?_
      exact W.zret (v := 0) hx hb hr (by decide) (fun t9 ht9 hW9 => ⟨⟨0, (I, G, A, L), rfl, by cases h; exact ⟨rfl, rfl⟩, by rw [ht9]; exact hP, va_K.moved hW9.alike hK⟩, hS.F ht9⟩) hS.2.2 dX1_hasVariable_17
    · have h := ip (Int32.not_le.mp c_3) h
      refine lv_iconst (v := 1) hx hb dX1_hasVariable_12 (by decide) ?_
      refine lv_goto (tgt := 17) hx hb dX1_hasVariable_13 (by decide) ?_
      exact W.zret (v := 1) hx hb hr (by decide) (fun t9 ht9 hW9 => ⟨⟨1, (I, G, A, L), rfl, by cases h; exact ⟨rfl, rfl⟩, by rw [ht9]; exact hP, va_K.moved hW9.alike hK⟩, hS.F ht9⟩) hS.2.2 dX1_hasVariable_17
set_option maxHeartbeats 4000000 in
set_option maxRecDepth 100000 in
theorem e_X2_tell (l : Launch) (D : va_G) (K : Nat → ClassId) (ad : Nat → Nat) (hap0 : apart ad (fun _ => True)) (o : Nat) (a1 : Int32) (I : Nat → Nat → Int32) (G : Nat → Nat → Nat) (A : Nat → Nat → Int32) (L : Nat → Nat → Int64) (r0 : Int32) (h : f_X2_tell I o a1 = some r0) : Ci l D K ad yX2_tell wsX2_tell 0 0 [.ref (ad o), .int a1] (I, G, A, L) (fun (r : Int32) (u : Mem) => r = r0 ∧ u = (I, G, A, L)) := by
  intro sz
  refine Met.ofW (cc := cX2_tell) (maxL := 2) (ret := (some .int)) (by decide) rfl ?_
  intro p e s m args below meth c s₁ Bd hml hv0
  obtain ⟨rfl, hsz, hP, hK⟩ := hv0
  have hx := Bd.exec
  have hb := Bd.bytes
  have hr := Bd.returns
  have hts := atoms_spec (ws := wsX2_tell) Bd.pre
  have hown : s.vm.findClass RX2 = some m.cls := findClass_of_methodNamed Bd.named
  have hlocks := Bd.notSynchronized
  have hi2 : ∀ w ∈ u_ws RX2 TX2 7, w ∈ wsX2_tell := fun w h => List.mem_cons_of_mem _ (List.mem_append_right _ h)
  subst hsz
  have hap := vF_ap hap0 s.heap.size
  have hS : va_S (vF ad s.heap.size) s.heap s.heap [] := va_S.rf
  have hP : va_P D vwCl (VW K ad I G A L) s.heap := hP
  have hl := lv_entry ([.ref (ad o), .int a1]) (n := 2) (Nat.le_of_ble_eq_true rfl)
  rw [lg_entry_eq]
  generalize (lg_sl ([.ref (ad o), .int a1]) ++ List.replicate (2 - (lg_sl ([.ref (ad o), .int a1])).length) Slot.unset).toArray = ls at hl ⊢
  have hl : lv_has ls 2 [(0, .ref (ad o)), (1, .int a1)] := hl
  rw [f_X2_tell] at h
  refine lv_iload_n hx hb dX2_tell_0 rfl (lv_at hl 1 rfl) ?_
  refine lv_iconst (v := 2) hx hb dX2_tell_1 (by decide) ?_
  refine lv_icmp_ne (tgt := 10) hx hb dX2_tell_2 (by decide) (fun c_1 => ?_) (fun c_1 => ?_)
  · have h := iN c_1 h
    refine lv_iload_n hx hb dX2_tell_10 rfl (lv_at hl 1 rfl) ?_
    refine lv_iconst (v := 3) hx hb dX2_tell_11 (by decide) ?_
    refine lv_icmp_ne (tgt := 22) hx hb dX2_tell_12 (by decide) (fun c_2 => ?_) (fun c_2 => ?_)
    · have h := iN c_2 h
      refine lv_aload_n hx hb dX2_tell_22 rfl (lv_at hl 0 rfl) ?_
      obtain ⟨hk3, h⟩ := gk h
      refine vgI hx hb hts hi2 hown hK hP (o) (s318 hk3.1) hk3.2 (C := RX2) (T := TX2) (N := 7) rfl 2 (by decide) (by decide) (by decide) (by decide) (hts (.fieldLink RX2 18 "CrateHelpers$Rule" "parts" "I") (by decide +kernel)) (fun _ h9 => h9) dX2_tell_23 ?_
      exact W.iret (v := (I o 2)) hx hb hr (fun t9 ht9 hW9 => ⟨⟨(I o 2), (I, G, A, L), rfl, by cases h; exact ⟨rfl, rfl⟩, by rw [ht9]; exact hP, va_K.moved hW9.alike hK⟩, hS.F ht9⟩) hS.2.2 dX2_tell_26
    · have h := ip c_2 h
      refine lv_aload_n hx hb dX2_tell_15 rfl (lv_at hl 0 rfl) ?_
      obtain ⟨hk4, h⟩ := gk h
      refine vgI hx hb hts hi2 hown hK hP (o) (s318 hk4.1) hk4.2 (C := RX2) (T := TX2) (N := 7) rfl 1 (by decide) (by decide) (by decide) (by decide) (hts (.fieldLink RX2 15 "CrateHelpers$Rule" "c" "I") (by decide +kernel)) (fun _ h9 => h9) dX2_tell_16 ?_
      refine lv_goto (tgt := 26) hx hb dX2_tell_19 (by decide) ?_
      exact W.iret (v := (I o 1)) hx hb hr (fun t9 ht9 hW9 => ⟨⟨(I o 1), (I, G, A, L), rfl, by cases h; exact ⟨rfl, rfl⟩, by rw [ht9]; exact hP, va_K.moved hW9.alike hK⟩, hS.F ht9⟩) hS.2.2 dX2_tell_26
  · have h := ip c_1 h
    refine lv_aload_n hx hb dX2_tell_5 rfl (lv_at hl 0 rfl) ?_
    obtain ⟨hk5, h⟩ := gk h
    refine vgI hx hb hts hi2 hown hK hP (o) (s318 hk5.1) hk5.2 (C := RX2) (T := TX2) (N := 7) rfl 0 (by decide) (by decide) (by decide) (by decide) (hts (.fieldLink RX2 9 "CrateHelpers$Rule" "kind" "I") (by decide +kernel)) (fun _ h9 => h9) dX2_tell_6 ?_
    exact W.iret (v := (I o 0)) hx hb hr (fun t9 ht9 hW9 => ⟨⟨(I o 0), (I, G, A, L), rfl, by cases h; exact ⟨rfl, rfl⟩, by rw [ht9]; exact hP, va_K.moved hW9.alike hK⟩, hS.F ht9⟩) hS.2.2 dX2_tell_9
set_option maxHeartbeats 4000000 in
set_option maxRecDepth 100000 in
theorem e_X6_grant (l : Launch) (D : va_G) (K : Nat → ClassId) (ad : Nat → Nat) (hap0 : apart ad (fun _ => True)) (a1 : Int32) (I : Nat → Nat → Int32) (G : Nat → Nat → Nat) (A : Nat → Nat → Int32) (L : Nat → Nat → Int64) (r0 : Int32) (I0 : Nat → Nat → Int32) (h : f_X6_grant I a1 = some (r0, I0)) : Ci l D K ad yX6_grant wsX6_grant 0 0 [.ref (ad 0), .int a1] (I, G, A, L) (fun (r : Int32) (u : Mem) => r = r0 ∧ u = (I0, G, A, L)) := by
  intro sz
  refine Met.ofW (cc := cX6_grant) (maxL := 2) (ret := (some .int)) (by decide) rfl ?_
  intro p e s m args below meth c s₁ Bd hml hv0
  obtain ⟨rfl, hsz, hP, hK⟩ := hv0
  have hx := Bd.exec
  have hb := Bd.bytes
  have hr := Bd.returns
  have hts := atoms_spec (ws := wsX6_grant) Bd.pre
  have hown : s.vm.findClass RX6 = some m.cls := findClass_of_methodNamed Bd.named
  have hlocks := Bd.notSynchronized
  have hi6 : ∀ w ∈ u_ws RX6 TX6 18, w ∈ wsX6_grant := fun w h => List.mem_cons_of_mem _ (List.mem_append_right _ h)
  subst hsz
  have hap := vF_ap hap0 s.heap.size
  have hS : va_S (vF ad s.heap.size) s.heap s.heap [] := va_S.rf
  have hP : va_P D vwCl (VW K ad I G A L) s.heap := hP
  have hl := lv_entry ([.ref (ad 0), .int a1]) (n := 2) (Nat.le_of_ble_eq_true rfl)
  rw [lg_entry_eq]
  generalize (lg_sl ([.ref (ad 0), .int a1]) ++ List.replicate (2 - (lg_sl ([.ref (ad 0), .int a1])).length) Slot.unset).toArray = ls at hl ⊢
  have hl : lv_has ls 2 [(0, .ref (ad 0)), (1, .int a1)] := hl
  rw [f_X6_grant] at h
  refine lv_aload_n hx hb dX6_grant_0 rfl (lv_at hl 0 rfl) ?_
  refine lv_iconst (v := 0) hx hb dX6_grant_1 (by decide) ?_
  refine vpI (v := 0) (ty := .int) hx hb hts hi6 tyX6 tyX6_ok nmX6 hown hK hP hap hS (0) (by decide) (show kd 0 = 6 by decide) (C := RX6) (T := TX6) (N := 18) rfl 17 (by decide) (by decide) (by decide) (by decide) (hts (.fieldLink RX6 64 "CrateHelpers" "refusedBy" "I") (by decide +kernel)) (fun _ h9 => h9) rfl (by decide +kernel) rfl rfl dX6_grant_2 (fun H locs hP hS => ?_)
  obtain ⟨I1, eI1, h⟩ := bd_e h
  rw [← eI1] at hP
  have hP : va_P D vwCl (VW K ad I1 G A L) H := hP
  refine lv_iload_n hx hb dX6_grant_5 rfl (lv_at hl 1 rfl) ?_
  exact W.iret (v := a1) hx hb hr (fun t9 ht9 hW9 => ⟨⟨a1, (I1, G, A, L), rfl, by cases h; exact ⟨rfl, rfl⟩, by rw [ht9]; exact hP, va_K.moved hW9.alike hK⟩, hS.F ht9⟩) hS.2.2 dX6_grant_6
set_option maxHeartbeats 4000000 in
set_option maxRecDepth 100000 in
theorem e_X6_isWithin (l : Launch) (D : va_G) (K : Nat → ClassId) (ad : Nat → Nat) (hap0 : apart ad (fun _ => True)) (a0 : Int32) (a1 : Int32) (a2 : Int32) (I : Nat → Nat → Int32) (G : Nat → Nat → Nat) (A : Nat → Nat → Int32) (L : Nat → Nat → Int64) (r0 : Int32) (h : f_X6_isWithin a0 a1 a2 = some r0) : Ci l D K ad yX6_isWithin wsX6_isWithin 0 0 [.int a0, .int a1, .int a2] (I, G, A, L) (fun (r : Int32) (u : Mem) => r = r0 ∧ u = (I, G, A, L)) := by
  intro sz
  refine Met.ofW (cc := cX6_isWithin) (maxL := 3) (ret := (some .boolean)) (by decide) rfl ?_
  intro p e s m args below meth c s₁ Bd hml hv0
  obtain ⟨rfl, hsz, hP, hK⟩ := hv0
  have hx := Bd.exec
  have hb := Bd.bytes
  have hr := Bd.returns
  have hts := atoms_spec (ws := wsX6_isWithin) Bd.pre
  have hown : s.vm.findClass RX6 = some m.cls := findClass_of_methodNamed Bd.named
  have hlocks := Bd.notSynchronized
  subst hsz
  have hap := vF_ap hap0 s.heap.size
  have hS : va_S (vF ad s.heap.size) s.heap s.heap [] := va_S.rf
  have hP : va_P D vwCl (VW K ad I G A L) s.heap := hP
  have hl := lv_entry ([.int a0, .int a1, .int a2]) (n := 3) (Nat.le_of_ble_eq_true rfl)
  rw [lg_entry_eq]
  generalize (lg_sl ([.int a0, .int a1, .int a2]) ++ List.replicate (3 - (lg_sl ([.int a0, .int a1, .int a2])).length) Slot.unset).toArray = ls at hl ⊢
  have hl : lv_has ls 3 [(0, .int a0), (1, .int a1), (2, .int a2)] := hl
  rw [f_X6_isWithin] at h
  refine lv_iload_n hx hb dX6_isWithin_0 rfl (lv_at hl 0 rfl) ?_
  refine lv_iload_n hx hb dX6_isWithin_1 rfl (lv_at hl 1 rfl) ?_
  refine lv_icmp_lt (tgt := 14) hx hb dX6_isWithin_2 (by decide) (fun c_1 => ?_) (fun c_1 => ?_)
  · have h := ip c_1 h
    refine lv_iconst (v := 0) hx hb dX6_isWithin_14 (by decide) ?_
    exact W.zret (v := 0) hx hb hr (by decide) (fun t9 ht9 hW9 => ⟨⟨0, (I, G, A, L), rfl, by cases h; exact ⟨rfl, rfl⟩, by rw [ht9]; exact hP, va_K.moved hW9.alike hK⟩, hS.F ht9⟩) hS.2.2 dX6_isWithin_15
  · have h := iN c_1 h
    refine lv_iload_n hx hb dX6_isWithin_5 rfl (lv_at hl 0 rfl) ?_
    refine lv_iload_n hx hb dX6_isWithin_6 rfl (lv_at hl 2 rfl) ?_
    refine lv_icmp_gt (tgt := 14) hx hb dX6_isWithin_7 (by decide) (fun c_2 => ?_) (fun c_2 => ?_)
    · have h := ip c_2 h
      refine lv_iconst (v := 0) hx hb dX6_isWithin_14 (by decide) ?_
      exact W.zret (v := 0) hx hb hr (by decide) (fun t9 ht9 hW9 => ⟨⟨0, (I, G, A, L), rfl, by cases h; exact ⟨rfl, rfl⟩, by rw [ht9]; exact hP, va_K.moved hW9.alike hK⟩, hS.F ht9⟩) hS.2.2 dX6_isWithin_15
    · have h := iN c_2 h
      refine lv_iconst (v := 1) hx hb dX6_isWithin_10 (by decide) ?_
      refine lv_goto (tgt := 15) hx hb dX6_isWithin_11 (by decide) ?_
      exact W.zret (v := 1) hx hb hr (by decide) (fun t9 ht9 hW9 => ⟨⟨1, (I, G, A, L), rfl, by cases h; exact ⟨rfl, rfl⟩, by rw [ht9]; exact hP, va_K.moved hW9.alike hK⟩, hS.F ht9⟩) hS.2.2 dX6_isWithin_15
set_option maxHeartbeats 4000000 in
set_option maxRecDepth 100000 in
theorem e_X6_isProblem (l : Launch) (D : va_G) (K : Nat → ClassId) (ad : Nat → Nat) (hap0 : apart ad (fun _ => True)) (a1 : Int32) (I : Nat → Nat → Int32) (G : Nat → Nat → Nat) (A : Nat → Nat → Int32) (L : Nat → Nat → Int64) (r0 : Int32) (h : f_X6_isProblem I a1 = some r0) : Ci l D K ad yX6_isProblem wsX6_isProblem 1 25 [.ref (ad 0), .int a1] (I, G, A, L) (fun (r : Int32) (u : Mem) => r = r0 ∧ u = (I, G, A, L)) := by
  intro sz
  refine Met.ofW (cc := cX6_isProblem) (maxL := 2) (ret := (some .boolean)) (by decide) rfl ?_
  intro p e s m args below meth c s₁ Bd hml hv0
  obtain ⟨rfl, hsz, hP, hK⟩ := hv0
  have hx := Bd.exec
  have hb := Bd.bytes
  have hr := Bd.returns
  have hts := atoms_spec (ws := wsX6_isProblem) Bd.pre
  have hown : s.vm.findClass RX6 = some m.cls := findClass_of_methodNamed Bd.named
  have hlocks := Bd.notSynchronized
  have hi6 : ∀ w ∈ u_ws RX6 TX6 18, w ∈ wsX6_isProblem := fun w h => List.mem_cons_of_mem _ (List.mem_append_right _ h)
  subst hsz
  have hap := vF_ap hap0 s.heap.size
  have hS : va_S (vF ad s.heap.size) s.heap s.heap [] := va_S.rf
  have hP : va_P D vwCl (VW K ad I G A L) s.heap := hP
  have hl := lv_entry ([.ref (ad 0), .int a1]) (n := 2) (Nat.le_of_ble_eq_true rfl)
  rw [lg_entry_eq]
  generalize (lg_sl ([.ref (ad 0), .int a1]) ++ List.replicate (2 - (lg_sl ([.ref (ad 0), .int a1])).length) Slot.unset).toArray = ls at hl ⊢
  have hl : lv_has ls 2 [(0, .ref (ad 0)), (1, .int a1)] := hl
  rw [f_X6_isProblem] at h
  refine lv_iload_n hx hb dX6_isProblem_0 rfl (lv_at hl 1 rfl) ?_
  refine lv_iconst (v := 0) hx hb dX6_isProblem_1 (by decide) ?_
  refine lv_aload_n hx hb dX6_isProblem_2 rfl (lv_at hl 0 rfl) ?_
  refine vgI hx hb hts hi6 hown hK hP (0) (by decide) (show kd 0 = 6 by decide) (C := RX6) (T := TX6) (N := 18) rfl 1 (by decide) (by decide) (by decide) (by decide) (hts (.fieldLink RX6 15 "CrateHelpers" "problemCount" "I") (by decide +kernel)) (fun _ h9 => h9) dX6_isProblem_3 ?_
  refine lv_iconst (v := 1) hx hb dX6_isProblem_6 (by decide) ?_
  refine lv_isub hx hb dX6_isProblem_7 ?_
  obtain ⟨r1, hc2, h⟩ := Option.bind_eq_some_iff.mp h
  refine ecS (As := [.int a1, .int 0, .int ((I 0 1) - 1)]) (rest := []) ⟨hx, hb, hml, hown, hts⟩ (e_X6_isWithin l D K ad hap0 a1 0 ((I 0 1) - 1) I G A L r1 hc2) (va_cwS 3 hts gX6_isProblem_X6_isWithin rfl rfl rfl (by decide +kernel) ⟨Nat.le_of_ble_eq_true rfl, Nat.le_of_ble_eq_true rfl⟩) hK hP hS rfl hl.1 (Nat.le_of_ble_eq_true rfl) (Nat.le_of_ble_eq_true rfl) (Nat.le_of_ble_eq_true rfl) dX6_isProblem_8 (fun H locs hP hS => ?_) rfl
  have hP : va_P D vwCl (VW K ad I G A L) H := hP
  obtain ⟨hz3, h⟩ := gk h
  exact W.zret (v := r1) hx hb hr (nar01 hz3) (fun t9 ht9 hW9 => ⟨⟨r1, (I, G, A, L), rfl, by cases h; exact ⟨rfl, rfl⟩, by rw [ht9]; exact hP, va_K.moved hW9.alike hK⟩, hS.F ht9⟩) hS.2.2 dX6_isProblem_11
set_option maxHeartbeats 4000000 in
set_option maxRecDepth 100000 in
theorem e_X6_refuse (l : Launch) (D : va_G) (K : Nat → ClassId) (ad : Nat → Nat) (hap0 : apart ad (fun _ => True)) (a1 : Int32) (I : Nat → Nat → Int32) (G : Nat → Nat → Nat) (A : Nat → Nat → Int32) (L : Nat → Nat → Int64) (r0 : Int32) (I0 : Nat → Nat → Int32) (h : f_X6_refuse I a1 = some (r0, I0)) : Ci l D K ad yX6_refuse wsX6_refuse 0 0 [.ref (ad 0), .int a1] (I, G, A, L) (fun (r : Int32) (u : Mem) => r = r0 ∧ u = (I0, G, A, L)) := by
  intro sz
  refine Met.ofW (cc := cX6_refuse) (maxL := 2) (ret := (some .int)) (by decide) rfl ?_
  intro p e s m args below meth c s₁ Bd hml hv0
  obtain ⟨rfl, hsz, hP, hK⟩ := hv0
  have hx := Bd.exec
  have hb := Bd.bytes
  have hr := Bd.returns
  have hts := atoms_spec (ws := wsX6_refuse) Bd.pre
  have hown : s.vm.findClass RX6 = some m.cls := findClass_of_methodNamed Bd.named
  have hlocks := Bd.notSynchronized
  have hi6 : ∀ w ∈ u_ws RX6 TX6 18, w ∈ wsX6_refuse := fun w h => List.mem_cons_of_mem _ (List.mem_append_right _ h)
  subst hsz
  have hap := vF_ap hap0 s.heap.size
  have hS : va_S (vF ad s.heap.size) s.heap s.heap [] := va_S.rf
  have hP : va_P D vwCl (VW K ad I G A L) s.heap := hP
  have hl := lv_entry ([.ref (ad 0), .int a1]) (n := 2) (Nat.le_of_ble_eq_true rfl)
  rw [lg_entry_eq]
  generalize (lg_sl ([.ref (ad 0), .int a1]) ++ List.replicate (2 - (lg_sl ([.ref (ad 0), .int a1])).length) Slot.unset).toArray = ls at hl ⊢
  have hl : lv_has ls 2 [(0, .ref (ad 0)), (1, .int a1)] := hl
  rw [f_X6_refuse] at h
  refine lv_aload_n hx hb dX6_refuse_0 rfl (lv_at hl 0 rfl) ?_
  refine lv_iload_n hx hb dX6_refuse_1 rfl (lv_at hl 1 rfl) ?_
  refine vpI (v := a1) (ty := .int) hx hb hts hi6 tyX6 tyX6_ok nmX6 hown hK hP hap hS (0) (by decide) (show kd 0 = 6 by decide) (C := RX6) (T := TX6) (N := 18) rfl 17 (by decide) (by decide) (by decide) (by decide) (hts (.fieldLink RX6 64 "CrateHelpers" "refusedBy" "I") (by decide +kernel)) (fun _ h9 => h9) rfl (by decide +kernel) rfl rfl dX6_refuse_2 (fun H locs hP hS => ?_)
  obtain ⟨I1, eI1, h⟩ := bd_e h
  rw [← eI1] at hP
  have hP : va_P D vwCl (VW K ad I1 G A L) H := hP
  refine lv_ldcw (v := (-1000000)) hx hb hown (hts (.constant RX6 269 (-1000000)) (by decide +kernel)) dX6_refuse_5 ?_
  exact W.iret (v := (-1000000)) hx hb hr (fun t9 ht9 hW9 => ⟨⟨(-1000000), (I1, G, A, L), rfl, by cases h; exact ⟨rfl, rfl⟩, by rw [ht9]; exact hP, va_K.moved hW9.alike hK⟩, hS.F ht9⟩) hS.2.2 dX6_refuse_8
set_option maxHeartbeats 4000000 in
set_option maxRecDepth 100000 in
theorem e_X6_about (l : Launch) (D : va_G) (K : Nat → ClassId) (ad : Nat → Nat) (hap0 : apart ad (fun _ => True)) (a1 : Int32) (a2 : Int32) (a3 : Int32) (I : Nat → Nat → Int32) (G : Nat → Nat → Nat) (A : Nat → Nat → Int32) (L : Nat → Nat → Int64) (r0 : Int32) (I0 : Nat → Nat → Int32) (h : f_X6_about I A a1 a2 a3 = some (r0, I0)) : Ci l D K ad yX6_about wsX6_about 2 49 [.ref (ad 0), .int a1, .int a2, .int a3] (I, G, A, L) (fun (r : Int32) (u : Mem) => r = r0 ∧ u = (I0, G, A, L)) := by
  intro sz
  refine Met.ofW (cc := cX6_about) (maxL := 5) (ret := (some .int)) (by decide) rfl ?_
  intro p e s m args below meth c s₁ Bd hml hv0
  obtain ⟨rfl, hsz, hP, hK⟩ := hv0
  have hx := Bd.exec
  have hb := Bd.bytes
  have hr := Bd.returns
  have hts := atoms_spec (ws := wsX6_about) Bd.pre
  have hown : s.vm.findClass RX6 = some m.cls := findClass_of_methodNamed Bd.named
  have hlocks := Bd.notSynchronized
  have hi6 : ∀ w ∈ u_ws RX6 TX6 18, w ∈ wsX6_about := fun w h => List.mem_cons_of_mem _ (List.mem_append_left _ (List.mem_append_left _ (List.mem_append_right _ h)))
  have hi1 : ∀ w ∈ u_ws RX1 TX1 9, w ∈ wsX6_about := fun w h => List.mem_cons_of_mem _ (List.mem_append_left _ (List.mem_append_right _ h))
  have hi2 : ∀ w ∈ u_ws RX2 TX2 7, w ∈ wsX6_about := fun w h => List.mem_cons_of_mem _ (List.mem_append_right _ h)
  subst hsz
  have hap := vF_ap hap0 s.heap.size
  have hS : va_S (vF ad s.heap.size) s.heap s.heap [] := va_S.rf
  have hP : va_P D vwCl (VW K ad I G A L) s.heap := hP
  have hl := lv_entry ([.ref (ad 0), .int a1, .int a2, .int a3]) (n := 5) (Nat.le_of_ble_eq_true rfl)
  rw [lg_entry_eq]
  generalize (lg_sl ([.ref (ad 0), .int a1, .int a2, .int a3]) ++ List.replicate (5 - (lg_sl ([.ref (ad 0), .int a1, .int a2, .int a3])).length) Slot.unset).toArray = ls at hl ⊢
  have hl : lv_has ls 5 [(0, .ref (ad 0)), (1, .int a1), (2, .int a2), (3, .int a3)] := hl
  rw [f_X6_about] at h
  refine lv_aload_n hx hb dX6_about_0 rfl (lv_at hl 0 rfl) ?_
  refine lv_iload_n hx hb dX6_about_1 rfl (lv_at hl 1 rfl) ?_
  obtain ⟨r1, hc2, h⟩ := Option.bind_eq_some_iff.mp h
  refine ecV (As := [.int a1]) (rest := []) ⟨hx, hb, hml, hown, hts⟩ (e_X6_isProblem l D K ad hap0 a1 I G A L r1 hc2) (cwV 1 hts gX6_about_X6_isProblem rfl rfl rfl (by decide +kernel) ⟨Nat.le_of_ble_eq_true rfl, Nat.le_of_ble_eq_true rfl⟩) hK hP hS (by decide) (show kd 0 = 6 by decide) (by decide) rfl rfl rfl hl.1 (Nat.le_of_ble_eq_true rfl) (Nat.le_of_ble_eq_true rfl) (Nat.le_of_ble_eq_true rfl) dX6_about_2 (fun H locs hP hS => ?_) rfl
  have hP : va_P D vwCl (VW K ad I G A L) H := hP
  refine lv_if_eq (tgt := 18) hx hb dX6_about_5 (by decide) (fun c_3 => ?_) (fun c_3 => ?_)
  · have h := ip c_3 h
    refine lv_aload_n hx hb dX6_about_18 rfl (lv_at hl 0 rfl) ?_
    refine lv_iconst (v := (-1)) hx hb dX6_about_19 (by decide) ?_
    obtain ⟨⟨r4, I5⟩, hc6, h⟩ := Option.bind_eq_some_iff.mp h
    refine ecV (As := [.int (-1)]) (rest := []) ⟨hx, hb, hml, hown, hts⟩ (e_X6_refuse l D K ad hap0 (-1) I G A L r4 I5 hc6) (cwV 1 hts gX6_about_X6_refuse rfl rfl rfl (by decide +kernel) ⟨Nat.le_of_ble_eq_true rfl, Nat.le_of_ble_eq_true rfl⟩) hK hP hS (by decide) (show kd 0 = 6 by decide) (by decide) rfl rfl rfl hl.1 (Nat.le_of_ble_eq_true rfl) (Nat.le_of_ble_eq_true rfl) (Nat.le_of_ble_eq_true rfl) dX6_about_20 (fun H locs hP hS => ?_) rfl
    have hP : va_P D vwCl (VW K ad I5 G A L) H := hP
    exact W.iret (v := r4) hx hb hr (fun t9 ht9 hW9 => ⟨⟨r4, (I5, G, A, L), rfl, by cases h; exact ⟨rfl, rfl⟩, by rw [ht9]; exact hP, va_K.moved hW9.alike hK⟩, hS.F ht9⟩) hS.2.2 dX6_about_23
  · have h := iN c_3 h
    refine lv_iload_n hx hb dX6_about_8 rfl (lv_at hl 2 rfl) ?_
    refine lv_iconst (v := 0) hx hb dX6_about_9 (by decide) ?_
    refine lv_bipush (v := 6) hx hb dX6_about_10 (by decide) ?_
    obtain ⟨r7, hc8, h⟩ := Option.bind_eq_some_iff.mp h
    refine ecS (As := [.int a2, .int 0, .int 6]) (rest := []) ⟨hx, hb, hml, hown, hts⟩ (e_X6_isWithin l D K ad hap0 a2 0 6 I G A L r7 hc8) (va_cwS 3 hts gX6_about_X6_isWithin rfl rfl rfl (by decide +kernel) ⟨Nat.le_of_ble_eq_true rfl, Nat.le_of_ble_eq_true rfl⟩) hK hP hS rfl hl.1 (Nat.le_of_ble_eq_true rfl) (Nat.le_of_ble_eq_true rfl) (Nat.le_of_ble_eq_true rfl) dX6_about_12 (fun H locs hP hS => ?_) rfl
    have hP : va_P D vwCl (VW K ad I G A L) H := hP
    refine lv_if_ne (tgt := 24) hx hb dX6_about_15 (by decide) (fun c_9 => ?_) (fun c_9 => ?_)
    · have h := iN c_9 h
      refine lv_aload_n hx hb dX6_about_24 rfl (lv_at hl 0 rfl) ?_
      refine vgC hx hb hts hi6 hown hK hP (0) (by decide) (show kd 0 = 6 by decide) (C := RX6) (T := TX6) (N := 18) rfl 0 (by decide) (by decide) (by decide) (by decide) (1) rfl (hts (.fieldLink RX6 11 "CrateHelpers" "problems" "[LCrateHelpers$Problem;") (by decide +kernel)) (fun _ h9 => h9) dX6_about_25 ?_
      refine lv_iload_n hx hb dX6_about_28 rfl (lv_at hl 1 rfl) ?_
      obtain ⟨hn10, h⟩ := gk h
      refine xaald hx hb hK hP (1) (by decide) 5 13 (show kd 1 = 13 by decide) (by decide) rfl (by rw [show ln 1 = 5 by decide]; exact hn10) (58 + 52 * a1.toNatClampNeg) (drf13 ((show kd 1 = 13 by decide))) dX6_about_29 ?_
      refine lv_astore (lv' := [(4, .ref (ad (58 + 52 * a1.toNatClampNeg))), (0, .ref (ad 0)), (1, .int a1), (2, .int a2), (3, .int a3)]) hx hb dX6_about_30 hl (by decide) rfl (fun ls hl => ?_)
      refine lv_iload_n hx hb dX6_about_32 rfl (lv_at hl 3 rfl) ?_
      refine lv_if_ne (tgt := 46) hx hb dX6_about_33 (by decide) (fun c_11 => ?_) (fun c_11 => ?_)
      · have h := iN c_11 h
        refine lv_iload_n hx hb dX6_about_46 rfl (lv_at hl 3 rfl) ?_
        refine lv_iconst (v := 1) hx hb dX6_about_47 (by decide) ?_
        refine lv_icmp_ne (tgt := 61) hx hb dX6_about_48 (by decide) (fun c_12 => ?_) (fun c_12 => ?_)
        · have h := iN c_12 h
          refine lv_iload_n hx hb dX6_about_61 rfl (lv_at hl 3 rfl) ?_
          refine lv_iconst (v := 4) hx hb dX6_about_62 (by decide) ?_
          refine lv_icmp_gt (tgt := 99) hx hb dX6_about_63 (by decide) (fun c_13 => ?_) (fun c_13 => ?_)
          · have h := ip c_13 h
            refine lv_aload hx hb dX6_about_99 (lv_at hl 0 rfl) ?_
            refine lv_iload_n hx hb dX6_about_101 rfl (lv_at hl 4 rfl) ?_
            obtain ⟨hk14, h⟩ := gk h
            obtain ⟨r15, hc16, h⟩ := Option.bind_eq_some_iff.mp h
            refine ecV (As := [.int a3]) (rest := []) ⟨hx, hb, hml, hown, hts⟩ (e_X1_hasVariable l D K ad hap0 (58 + 52 * a1.toNatClampNeg) a3 I G A L r15 hc16) (cwV 1 hts gX6_about_X1_hasVariable rfl rfl rfl (by decide +kernel) ⟨Nat.le_of_ble_eq_true rfl, Nat.le_of_ble_eq_true rfl⟩) hK hP hS (s318 hk14.1) hk14.2 (by decide) rfl rfl rfl hl.1 (Nat.le_of_ble_eq_true rfl) (Nat.le_of_ble_eq_true rfl) (Nat.le_of_ble_eq_true rfl) dX6_about_102 (fun H locs hP hS => ?_) rfl
            have hP : va_P D vwCl (VW K ad I G A L) H := hP
            refine lv_if_ne (tgt := 114) hx hb dX6_about_105 (by decide) (fun c_17 => ?_) (fun c_17 => ?_)
            · have h := iN c_17 h
              refine lv_aload_n hx hb dX6_about_114 rfl (lv_at hl 1 rfl) ?_
              refine lv_iload_n hx hb dX6_about_115 rfl (lv_at hl 3 rfl) ?_
              refine lv_iconst (v := 5) hx hb dX6_about_116 (by decide) ?_
              refine lv_icmp_ne (tgt := 130) hx hb dX6_about_117 (by decide) (fun c_18 => ?_) (fun c_18 => ?_)
              · have h := iN c_18 h
                refine lv_aload hx hb dX6_about_130 (lv_at hl 0 rfl) ?_
                refine vgS hx hb hts hi1 hown hK hP (58 + 52 * a1.toNatClampNeg) (s318 hk14.1) hk14.2 (C := RX1) (T := TX1) (N := 9) rfl 5 (by decide) (by decide) (by decide) (by decide) (58 + 52 * a1.toNatClampNeg + 2) rfl (hts (.fieldLink RX6 305 "CrateHelpers$Problem" "kinds" "[I") (by decide +kernel)) (fun _ h9 => h9) dX6_about_132 ?_
                refine lv_iload_n hx hb dX6_about_135 rfl (lv_at hl 4 rfl) ?_
                obtain ⟨hk19, h⟩ := gk h
                obtain ⟨hn20, h⟩ := gk h
                refine xiald hx hb hK hP (58 + 52 * a1.toNatClampNeg + 2) (s318 hk19.1) hk19.2 hn20 dX6_about_136 ?_
                obtain ⟨⟨r21, I22⟩, hc23, h⟩ := Option.bind_eq_some_iff.mp h
                refine ecV (As := [.int (A (58 + 52 * a1.toNatClampNeg + 2) a3.toNatClampNeg)]) (rest := []) ⟨hx, hb, hml, hown, hts⟩ (e_X6_grant l D K ad hap0 (A (58 + 52 * a1.toNatClampNeg + 2) a3.toNatClampNeg) I G A L r21 I22 hc23) (cwV 1 hts gX6_about_X6_grant rfl rfl rfl (by decide +kernel) ⟨Nat.le_of_ble_eq_true rfl, Nat.le_of_ble_eq_true rfl⟩) hK hP hS (by decide) (show kd 0 = 6 by decide) (by decide) rfl rfl rfl hl.1 (Nat.le_of_ble_eq_true rfl) (Nat.le_of_ble_eq_true rfl) (Nat.le_of_ble_eq_true rfl) dX6_about_137 (fun H locs hP hS => ?_) rfl
                have hP : va_P D vwCl (VW K ad I22 G A L) H := hP
                exact W.iret (v := r21) hx hb hr (fun t9 ht9 hW9 => ⟨⟨r21, (I22, G, A, L), rfl, by cases h; exact ⟨rfl, rfl⟩, by rw [ht9]; exact hP, va_K.moved hW9.alike hK⟩, hS.F ht9⟩) hS.2.2 dX6_about_140
              · have h := ip c_18 h
                refine lv_aload hx hb dX6_about_120 (lv_at hl 0 rfl) ?_
                refine vgS hx hb hts hi1 hown hK hP (58 + 52 * a1.toNatClampNeg) (s318 hk14.1) hk14.2 (C := RX1) (T := TX1) (N := 9) rfl 4 (by decide) (by decide) (by decide) (by decide) (58 + 52 * a1.toNatClampNeg + 1) rfl (hts (.fieldLink RX6 235 "CrateHelpers$Problem" "sizes" "[I") (by decide +kernel)) (fun _ h9 => h9) dX6_about_122 ?_
                refine lv_iload_n hx hb dX6_about_125 rfl (lv_at hl 4 rfl) ?_
                obtain ⟨hk24, h⟩ := gk h
                obtain ⟨hn25, h⟩ := gk h
                refine xiald hx hb hK hP (58 + 52 * a1.toNatClampNeg + 1) (s318 hk24.1) hk24.2 hn25 dX6_about_126 ?_
                refine lv_goto (tgt := 137) hx hb dX6_about_127 (by decide) ?_
                obtain ⟨⟨r26, I27⟩, hc28, h⟩ := Option.bind_eq_some_iff.mp h
                refine ecV (As := [.int (A (58 + 52 * a1.toNatClampNeg + 1) a3.toNatClampNeg)]) (rest := []) ⟨hx, hb, hml, hown, hts⟩ (e_X6_grant l D K ad hap0 (A (58 + 52 * a1.toNatClampNeg + 1) a3.toNatClampNeg) I G A L r26 I27 hc28) (cwV 1 hts gX6_about_X6_grant rfl rfl rfl (by decide +kernel) ⟨Nat.le_of_ble_eq_true rfl, Nat.le_of_ble_eq_true rfl⟩) hK hP hS (by decide) (show kd 0 = 6 by decide) (by decide) rfl rfl rfl hl.1 (Nat.le_of_ble_eq_true rfl) (Nat.le_of_ble_eq_true rfl) (Nat.le_of_ble_eq_true rfl) dX6_about_137 (fun H locs hP hS => ?_) rfl
                have hP : va_P D vwCl (VW K ad I27 G A L) H := hP
                exact W.iret (v := r26) hx hb hr (fun t9 ht9 hW9 => ⟨⟨r26, (I27, G, A, L), rfl, by cases h; exact ⟨rfl, rfl⟩, by rw [ht9]; exact hP, va_K.moved hW9.alike hK⟩, hS.F ht9⟩) hS.2.2 dX6_about_140
            · have h := ip c_17 h
              refine lv_aload_n hx hb dX6_about_108 rfl (lv_at hl 1 rfl) ?_
              refine lv_iconst (v := (-1)) hx hb dX6_about_109 (by decide) ?_
              obtain ⟨⟨r29, I30⟩, hc31, h⟩ := Option.bind_eq_some_iff.mp h
              refine ecV (As := [.int (-1)]) (rest := []) ⟨hx, hb, hml, hown, hts⟩ (e_X6_refuse l D K ad hap0 (-1) I G A L r29 I30 hc31) (cwV 1 hts gX6_about_X6_refuse rfl rfl rfl (by decide +kernel) ⟨Nat.le_of_ble_eq_true rfl, Nat.le_of_ble_eq_true rfl⟩) hK hP hS (by decide) (show kd 0 = 6 by decide) (by decide) rfl rfl rfl hl.1 (Nat.le_of_ble_eq_true rfl) (Nat.le_of_ble_eq_true rfl) (Nat.le_of_ble_eq_true rfl) dX6_about_110 (fun H locs hP hS => ?_) rfl
              have hP : va_P D vwCl (VW K ad I30 G A L) H := hP
              exact W.iret (v := r29) hx hb hr (fun t9 ht9 hW9 => ⟨⟨r29, (I30, G, A, L), rfl, by cases h; exact ⟨rfl, rfl⟩, by rw [ht9]; exact hP, va_K.moved hW9.alike hK⟩, hS.F ht9⟩) hS.2.2 dX6_about_113
          · have h := iN c_13 h
            refine lv_aload hx hb dX6_about_66 (lv_at hl 0 rfl) ?_
            refine lv_iload_n hx hb dX6_about_68 rfl (lv_at hl 4 rfl) ?_
            obtain ⟨hk32, h⟩ := gk h
            obtain ⟨r33, hc34, h⟩ := Option.bind_eq_some_iff.mp h
            refine ecV (As := [.int a3]) (rest := []) ⟨hx, hb, hml, hown, hts⟩ (e_X1_hasRule l D K ad hap0 (58 + 52 * a1.toNatClampNeg) a3 I G A L r33 hc34) (cwV 1 hts gX6_about_X1_hasRule rfl rfl rfl (by decide +kernel) ⟨Nat.le_of_ble_eq_true rfl, Nat.le_of_ble_eq_true rfl⟩) hK hP hS (s318 hk32.1) hk32.2 (by decide) rfl rfl rfl hl.1 (Nat.le_of_ble_eq_true rfl) (Nat.le_of_ble_eq_true rfl) (Nat.le_of_ble_eq_true rfl) dX6_about_69 (fun H locs hP hS => ?_) rfl
            have hP : va_P D vwCl (VW K ad I G A L) H := hP
            refine lv_if_eq (tgt := 93) hx hb dX6_about_72 (by decide) (fun c_35 => ?_) (fun c_35 => ?_)
            · have h := ip c_35 h
              refine lv_aload_n hx hb dX6_about_93 rfl (lv_at hl 1 rfl) ?_
              refine lv_iconst (v := (-1)) hx hb dX6_about_94 (by decide) ?_
              obtain ⟨⟨r36, I37⟩, hc38, h⟩ := Option.bind_eq_some_iff.mp h
              refine ecV (As := [.int (-1)]) (rest := []) ⟨hx, hb, hml, hown, hts⟩ (e_X6_refuse l D K ad hap0 (-1) I G A L r36 I37 hc38) (cwV 1 hts gX6_about_X6_refuse rfl rfl rfl (by decide +kernel) ⟨Nat.le_of_ble_eq_true rfl, Nat.le_of_ble_eq_true rfl⟩) hK hP hS (by decide) (show kd 0 = 6 by decide) (by decide) rfl rfl rfl hl.1 (Nat.le_of_ble_eq_true rfl) (Nat.le_of_ble_eq_true rfl) (Nat.le_of_ble_eq_true rfl) dX6_about_95 (fun H locs hP hS => ?_) rfl
              have hP : va_P D vwCl (VW K ad I37 G A L) H := hP
              exact W.iret (v := r36) hx hb hr (fun t9 ht9 hW9 => ⟨⟨r36, (I37, G, A, L), rfl, by cases h; exact ⟨rfl, rfl⟩, by rw [ht9]; exact hP, va_K.moved hW9.alike hK⟩, hS.F ht9⟩) hS.2.2 dX6_about_98
            · have h := iN c_35 h
              refine lv_aload_n hx hb dX6_about_75 rfl (lv_at hl 1 rfl) ?_
              refine lv_aload hx hb dX6_about_76 (lv_at hl 0 rfl) ?_
              refine vgS hx hb hts hi1 hown hK hP (58 + 52 * a1.toNatClampNeg) (s318 hk32.1) hk32.2 (C := RX1) (T := TX1) (N := 9) rfl 7 (by decide) (by decide) (by decide) (by decide) (58 + 52 * a1.toNatClampNeg + 10) rfl (hts (.fieldLink RX6 142 "CrateHelpers$Problem" "rules" "[LCrateHelpers$Rule;") (by decide +kernel)) (fun _ h9 => h9) dX6_about_78 ?_
              refine lv_iload_n hx hb dX6_about_81 rfl (lv_at hl 4 rfl) ?_
              obtain ⟨hk39, h⟩ := gk h
              obtain ⟨hn40, h⟩ := gk h
              refine xaald hx hb hK hP (58 + 52 * a1.toNatClampNeg + 10) (s318 hk39.1) 6 14 hk39.2 (by decide) rfl hn40 (58 + 52 * a1.toNatClampNeg + 12 + 5 * a3.toNatClampNeg) (drf14 (hk39.2)) dX6_about_82 ?_
              refine lv_iload_n hx hb dX6_about_83 rfl (lv_at hl 3 rfl) ?_
              obtain ⟨hk41, h⟩ := gk h
              obtain ⟨r42, hc43, h⟩ := Option.bind_eq_some_iff.mp h
              refine ecV (As := [.int a2]) (rest := [.ref (ad 0)]) ⟨hx, hb, hml, hown, hts⟩ (e_X2_tell l D K ad hap0 (58 + 52 * a1.toNatClampNeg + 12 + 5 * a3.toNatClampNeg) a2 I G A L r42 hc43) (cwV 1 hts gX6_about_X2_tell rfl rfl rfl (by decide +kernel) ⟨Nat.le_of_ble_eq_true rfl, Nat.le_of_ble_eq_true rfl⟩) hK hP hS (s318 hk41.1) hk41.2 (by decide) rfl rfl rfl hl.1 (Nat.le_of_ble_eq_true rfl) (Nat.le_of_ble_eq_true rfl) (Nat.le_of_ble_eq_true rfl) dX6_about_84 (fun H locs hP hS => ?_) rfl
              have hP : va_P D vwCl (VW K ad I G A L) H := hP
              obtain ⟨⟨r44, I45⟩, hc46, h⟩ := Option.bind_eq_some_iff.mp h
              refine ecV (As := [.int r42]) (rest := []) ⟨hx, hb, hml, hown, hts⟩ (e_X6_grant l D K ad hap0 r42 I G A L r44 I45 hc46) (cwV 1 hts gX6_about_X6_grant rfl rfl rfl (by decide +kernel) ⟨Nat.le_of_ble_eq_true rfl, Nat.le_of_ble_eq_true rfl⟩) hK hP hS (by decide) (show kd 0 = 6 by decide) (by decide) rfl rfl rfl hl.1 (Nat.le_of_ble_eq_true rfl) (Nat.le_of_ble_eq_true rfl) (Nat.le_of_ble_eq_true rfl) dX6_about_87 (fun H locs hP hS => ?_) rfl
              have hP : va_P D vwCl (VW K ad I45 G A L) H := hP
              refine lv_goto (tgt := 98) hx hb dX6_about_90 (by decide) ?_
              exact W.iret (v := r44) hx hb hr (fun t9 ht9 hW9 => ⟨⟨r44, (I45, G, A, L), rfl, by cases h; exact ⟨rfl, rfl⟩, by rw [ht9]; exact hP, va_K.moved hW9.alike hK⟩, hS.F ht9⟩) hS.2.2 dX6_about_98
        · have h := ip c_12 h
          refine lv_aload_n hx hb dX6_about_51 rfl (lv_at hl 1 rfl) ?_
          refine lv_aload hx hb dX6_about_52 (lv_at hl 0 rfl) ?_
          obtain ⟨hk47, h⟩ := gk h
          refine vgI hx hb hts hi1 hown hK hP (58 + 52 * a1.toNatClampNeg) (s318 hk47.1) hk47.2 (C := RX1) (T := TX1) (N := 9) rfl 1 (by decide) (by decide) (by decide) (by decide) (hts (.fieldLink RX6 130 "CrateHelpers$Problem" "ruleCount" "I") (by decide +kernel)) (fun _ h9 => h9) dX6_about_54 ?_
          obtain ⟨⟨r48, I49⟩, hc50, h⟩ := Option.bind_eq_some_iff.mp h
          refine ecV (As := [.int (I (58 + 52 * a1.toNatClampNeg) 1)]) (rest := []) ⟨hx, hb, hml, hown, hts⟩ (e_X6_grant l D K ad hap0 (I (58 + 52 * a1.toNatClampNeg) 1) I G A L r48 I49 hc50) (cwV 1 hts gX6_about_X6_grant rfl rfl rfl (by decide +kernel) ⟨Nat.le_of_ble_eq_true rfl, Nat.le_of_ble_eq_true rfl⟩) hK hP hS (by decide) (show kd 0 = 6 by decide) (by decide) rfl rfl rfl hl.1 (Nat.le_of_ble_eq_true rfl) (Nat.le_of_ble_eq_true rfl) (Nat.le_of_ble_eq_true rfl) dX6_about_57 (fun H locs hP hS => ?_) rfl
          have hP : va_P D vwCl (VW K ad I49 G A L) H := hP
          exact W.iret (v := r48) hx hb hr (fun t9 ht9 hW9 => ⟨⟨r48, (I49, G, A, L), rfl, by cases h; exact ⟨rfl, rfl⟩, by rw [ht9]; exact hP, va_K.moved hW9.alike hK⟩, hS.F ht9⟩) hS.2.2 dX6_about_60
      · have h := ip c_11 h
        refine lv_aload_n hx hb dX6_about_36 rfl (lv_at hl 1 rfl) ?_
        refine lv_aload hx hb dX6_about_37 (lv_at hl 0 rfl) ?_
        obtain ⟨hk51, h⟩ := gk h
        refine vgI hx hb hts hi1 hown hK hP (58 + 52 * a1.toNatClampNeg) (s318 hk51.1) hk51.2 (C := RX1) (T := TX1) (N := 9) rfl 0 (by decide) (by decide) (by decide) (by decide) (hts (.fieldLink RX6 103 "CrateHelpers$Problem" "variables" "I") (by decide +kernel)) (fun _ h9 => h9) dX6_about_39 ?_
        obtain ⟨⟨r52, I53⟩, hc54, h⟩ := Option.bind_eq_some_iff.mp h
        refine ecV (As := [.int (I (58 + 52 * a1.toNatClampNeg) 0)]) (rest := []) ⟨hx, hb, hml, hown, hts⟩ (e_X6_grant l D K ad hap0 (I (58 + 52 * a1.toNatClampNeg) 0) I G A L r52 I53 hc54) (cwV 1 hts gX6_about_X6_grant rfl rfl rfl (by decide +kernel) ⟨Nat.le_of_ble_eq_true rfl, Nat.le_of_ble_eq_true rfl⟩) hK hP hS (by decide) (show kd 0 = 6 by decide) (by decide) rfl rfl rfl hl.1 (Nat.le_of_ble_eq_true rfl) (Nat.le_of_ble_eq_true rfl) (Nat.le_of_ble_eq_true rfl) dX6_about_42 (fun H locs hP hS => ?_) rfl
        have hP : va_P D vwCl (VW K ad I53 G A L) H := hP
        exact W.iret (v := r52) hx hb hr (fun t9 ht9 hW9 => ⟨⟨r52, (I53, G, A, L), rfl, by cases h; exact ⟨rfl, rfl⟩, by rw [ht9]; exact hP, va_K.moved hW9.alike hK⟩, hS.F ht9⟩) hS.2.2 dX6_about_45
    · have h := ip c_9 h
      refine lv_aload_n hx hb dX6_about_18 rfl (lv_at hl 0 rfl) ?_
      refine lv_iconst (v := (-1)) hx hb dX6_about_19 (by decide) ?_
      obtain ⟨⟨r55, I56⟩, hc57, h⟩ := Option.bind_eq_some_iff.mp h
      refine ecV (As := [.int (-1)]) (rest := []) ⟨hx, hb, hml, hown, hts⟩ (e_X6_refuse l D K ad hap0 (-1) I G A L r55 I56 hc57) (cwV 1 hts gX6_about_X6_refuse rfl rfl rfl (by decide +kernel) ⟨Nat.le_of_ble_eq_true rfl, Nat.le_of_ble_eq_true rfl⟩) hK hP hS (by decide) (show kd 0 = 6 by decide) (by decide) rfl rfl rfl hl.1 (Nat.le_of_ble_eq_true rfl) (Nat.le_of_ble_eq_true rfl) (Nat.le_of_ble_eq_true rfl) dX6_about_20 (fun H locs hP hS => ?_) rfl
      have hP : va_P D vwCl (VW K ad I56 G A L) H := hP
      exact W.iret (v := r55) hx hb hr (fun t9 ht9 hW9 => ⟨⟨r55, (I56, G, A, L), rfl, by cases h; exact ⟨rfl, rfl⟩, by rw [ht9]; exact hP, va_K.moved hW9.alike hK⟩, hS.F ht9⟩) hS.2.2 dX6_about_23
set_option maxHeartbeats 4000000 in
set_option maxRecDepth 100000 in
theorem e_X6_answer (l : Launch) (D : va_G) (K : Nat → ClassId) (ad : Nat → Nat) (hap0 : apart ad (fun _ => True)) (a1 : Int32) (a2 : Int32) (I : Nat → Nat → Int32) (G : Nat → Nat → Nat) (A : Nat → Nat → Int32) (L : Nat → Nat → Int64) (r0 : Int32) (h : f_X6_answer I A a1 a2 = some r0) : Ci l D K ad yX6_answer wsX6_answer 2 49 [.ref (ad 0), .int a1, .int a2] (I, G, A, L) (fun (r : Int32) (u : Mem) => r = r0 ∧ u = (I, G, A, L)) := by
  intro sz
  refine Met.ofW (cc := cX6_answer) (maxL := 4) (ret := (some .int)) (by decide) rfl ?_
  intro p e s m args below meth c s₁ Bd hml hv0
  obtain ⟨rfl, hsz, hP, hK⟩ := hv0
  have hx := Bd.exec
  have hb := Bd.bytes
  have hr := Bd.returns
  have hts := atoms_spec (ws := wsX6_answer) Bd.pre
  have hown : s.vm.findClass RX6 = some m.cls := findClass_of_methodNamed Bd.named
  have hlocks := Bd.notSynchronized
  have hi6 : ∀ w ∈ u_ws RX6 TX6 18, w ∈ wsX6_answer := fun w h => List.mem_cons_of_mem _ (List.mem_append_left _ (List.mem_append_right _ h))
  have hi1 : ∀ w ∈ u_ws RX1 TX1 9, w ∈ wsX6_answer := fun w h => List.mem_cons_of_mem _ (List.mem_append_right _ h)
  subst hsz
  have hap := vF_ap hap0 s.heap.size
  have hS : va_S (vF ad s.heap.size) s.heap s.heap [] := va_S.rf
  have hP : va_P D vwCl (VW K ad I G A L) s.heap := hP
  have hl := lv_entry ([.ref (ad 0), .int a1, .int a2]) (n := 4) (Nat.le_of_ble_eq_true rfl)
  rw [lg_entry_eq]
  generalize (lg_sl ([.ref (ad 0), .int a1, .int a2]) ++ List.replicate (4 - (lg_sl ([.ref (ad 0), .int a1, .int a2])).length) Slot.unset).toArray = ls at hl ⊢
  have hl : lv_has ls 4 [(0, .ref (ad 0)), (1, .int a1), (2, .int a2)] := hl
  rw [f_X6_answer] at h
  refine lv_aload_n hx hb dX6_answer_0 rfl (lv_at hl 0 rfl) ?_
  refine lv_iload_n hx hb dX6_answer_1 rfl (lv_at hl 1 rfl) ?_
  obtain ⟨r1, hc2, h⟩ := Option.bind_eq_some_iff.mp h
  refine ecV (As := [.int a1]) (rest := []) ⟨hx, hb, hml, hown, hts⟩ (e_X6_isProblem l D K ad hap0 a1 I G A L r1 hc2) (cwV 1 hts gX6_answer_X6_isProblem rfl rfl rfl (by decide +kernel) ⟨Nat.le_of_ble_eq_true rfl, Nat.le_of_ble_eq_true rfl⟩) hK hP hS (by decide) (show kd 0 = 6 by decide) (by decide) rfl rfl rfl hl.1 (Nat.le_of_ble_eq_true rfl) (Nat.le_of_ble_eq_true rfl) (Nat.le_of_ble_eq_true rfl) dX6_answer_2 (fun H locs hP hS => ?_) rfl
  have hP : va_P D vwCl (VW K ad I G A L) H := hP
  refine lv_if_eq (tgt := 21) hx hb dX6_answer_5 (by decide) (fun c_3 => ?_) (fun c_3 => ?_)
  · have h := ip c_3 h
    refine lv_iconst (v := (-1)) hx hb dX6_answer_21 (by decide) ?_
    exact W.iret (v := (-1)) hx hb hr (fun t9 ht9 hW9 => ⟨⟨(-1), (I, G, A, L), rfl, by cases h; exact ⟨rfl, rfl⟩, by rw [ht9]; exact hP, va_K.moved hW9.alike hK⟩, hS.F ht9⟩) hS.2.2 dX6_answer_22
  · have h := iN c_3 h
    refine lv_aload_n hx hb dX6_answer_8 rfl (lv_at hl 0 rfl) ?_
    refine vgC hx hb hts hi6 hown hK hP (0) (by decide) (show kd 0 = 6 by decide) (C := RX6) (T := TX6) (N := 18) rfl 0 (by decide) (by decide) (by decide) (by decide) (1) rfl (hts (.fieldLink RX6 11 "CrateHelpers" "problems" "[LCrateHelpers$Problem;") (by decide +kernel)) (fun _ h9 => h9) dX6_answer_9 ?_
    refine lv_iload_n hx hb dX6_answer_12 rfl (lv_at hl 1 rfl) ?_
    obtain ⟨hn4, h⟩ := gk h
    refine xaald hx hb hK hP (1) (by decide) 5 13 (show kd 1 = 13 by decide) (by decide) rfl (by rw [show ln 1 = 5 by decide]; exact hn4) (58 + 52 * a1.toNatClampNeg) (drf13 ((show kd 1 = 13 by decide))) dX6_answer_13 ?_
    refine lv_iload_n hx hb dX6_answer_14 rfl (lv_at hl 2 rfl) ?_
    obtain ⟨hk5, h⟩ := gk h
    obtain ⟨r6, hc7, h⟩ := Option.bind_eq_some_iff.mp h
    refine ecV (As := [.int a2]) (rest := []) ⟨hx, hb, hml, hown, hts⟩ (e_X1_hasVariable l D K ad hap0 (58 + 52 * a1.toNatClampNeg) a2 I G A L r6 hc7) (cwV 1 hts gX6_answer_X1_hasVariable rfl rfl rfl (by decide +kernel) ⟨Nat.le_of_ble_eq_true rfl, Nat.le_of_ble_eq_true rfl⟩) hK hP hS (s318 hk5.1) hk5.2 (by decide) rfl rfl rfl hl.1 (Nat.le_of_ble_eq_true rfl) (Nat.le_of_ble_eq_true rfl) (Nat.le_of_ble_eq_true rfl) dX6_answer_15 (fun H locs hP hS => ?_) rfl
    have hP : va_P D vwCl (VW K ad I G A L) H := hP
    refine lv_if_ne (tgt := 23) hx hb dX6_answer_18 (by decide) (fun c_8 => ?_) (fun c_8 => ?_)
    · have h := iN c_8 h
      refine lv_aload_n hx hb dX6_answer_23 rfl (lv_at hl 0 rfl) ?_
      refine vgC hx hb hts hi6 hown hK hP (0) (by decide) (show kd 0 = 6 by decide) (C := RX6) (T := TX6) (N := 18) rfl 0 (by decide) (by decide) (by decide) (by decide) (1) rfl (hts (.fieldLink RX6 11 "CrateHelpers" "problems" "[LCrateHelpers$Problem;") (by decide +kernel)) (fun _ h9 => h9) dX6_answer_24 ?_
      refine lv_iload_n hx hb dX6_answer_27 rfl (lv_at hl 1 rfl) ?_
      refine xaald hx hb hK hP (1) (by decide) 5 13 (show kd 1 = 13 by decide) (by decide) rfl (by rw [show ln 1 = 5 by decide]; exact hn4) (58 + 52 * a1.toNatClampNeg) (drf13 ((show kd 1 = 13 by decide))) dX6_answer_28 ?_
      refine lv_astore_n (lv' := [(3, .ref (ad (58 + 52 * a1.toNatClampNeg))), (0, .ref (ad 0)), (1, .int a1), (2, .int a2)]) hx hb dX6_answer_29 rfl hl (by decide) rfl (fun ls hl => ?_)
      refine lv_aload_n hx hb dX6_answer_30 rfl (lv_at hl 0 rfl) ?_
      refine vgI hx hb hts hi1 hown hK hP (58 + 52 * a1.toNatClampNeg) (s318 hk5.1) hk5.2 (C := RX1) (T := TX1) (N := 9) rfl 3 (by decide) (by decide) (by decide) (by decide) (hts (.fieldLink RX6 185 "CrateHelpers$Problem" "hasEnded" "Z") (by decide +kernel)) (fun _ h9 => h9) dX6_answer_31 ?_
      refine lv_if_eq (tgt := 49) hx hb dX6_answer_34 (by decide) (fun c_9 => ?_) (fun c_9 => ?_)
      · have h := ip c_9 h
        refine lv_bipush (v := (-9)) hx hb dX6_answer_49 (by decide) ?_
        exact W.iret (v := (-9)) hx hb hr (fun t9 ht9 hW9 => ⟨⟨(-9), (I, G, A, L), rfl, by cases h; exact ⟨rfl, rfl⟩, by rw [ht9]; exact hP, va_K.moved hW9.alike hK⟩, hS.F ht9⟩) hS.2.2 dX6_answer_51
      · have h := iN c_9 h
        refine lv_aload_n hx hb dX6_answer_37 rfl (lv_at hl 0 rfl) ?_
        refine vgS hx hb hts hi1 hown hK hP (58 + 52 * a1.toNatClampNeg) (s318 hk5.1) hk5.2 (C := RX1) (T := TX1) (N := 9) rfl 8 (by decide) (by decide) (by decide) (by decide) (58 + 52 * a1.toNatClampNeg + 11) rfl (hts (.fieldLink RX6 189 "CrateHelpers$Problem" "outcome" "[I") (by decide +kernel)) (fun _ h9 => h9) dX6_answer_38 ?_
        refine lv_bipush (v := 6) hx hb dX6_answer_41 (by decide) ?_
        refine lv_iload_n hx hb dX6_answer_43 rfl (lv_at hl 3 rfl) ?_
        refine lv_iadd hx hb dX6_answer_44 ?_
        obtain ⟨hk10, h⟩ := gk h
        obtain ⟨hn11, h⟩ := gk h
        refine xiald hx hb hK hP (58 + 52 * a1.toNatClampNeg + 11) (s318 hk10.1) hk10.2 hn11 dX6_answer_45 ?_
        refine lv_goto (tgt := 51) hx hb dX6_answer_46 (by decide) ?_
        exact W.iret (v := (A (58 + 52 * a1.toNatClampNeg + 11) ((6 + a2).toNatClampNeg))) hx hb hr (fun t9 ht9 hW9 => ⟨⟨(A (58 + 52 * a1.toNatClampNeg + 11) ((6 + a2).toNatClampNeg)), (I, G, A, L), rfl, by cases h; exact ⟨rfl, rfl⟩, by rw [ht9]; exact hP, va_K.moved hW9.alike hK⟩, hS.F ht9⟩) hS.2.2 dX6_answer_51
    · have h := ip c_8 h
      refine lv_iconst (v := (-1)) hx hb dX6_answer_21 (by decide) ?_
      exact W.iret (v := (-1)) hx hb hr (fun t9 ht9 hW9 => ⟨⟨(-1), (I, G, A, L), rfl, by cases h; exact ⟨rfl, rfl⟩, by rw [ht9]; exact hP, va_K.moved hW9.alike hK⟩, hS.F ht9⟩) hS.2.2 dX6_answer_22
set_option maxHeartbeats 4000000 in
set_option maxRecDepth 100000 in
theorem e_X6_asNumber (l : Launch) (D : va_G) (K : Nat → ClassId) (ad : Nat → Nat) (hap0 : apart ad (fun _ => True)) (a0 : Int32) (I : Nat → Nat → Int32) (G : Nat → Nat → Nat) (A : Nat → Nat → Int32) (L : Nat → Nat → Int64) (r0 : Int32) (h : f_X6_asNumber a0 = some r0) : Ci l D K ad yX6_asNumber wsX6_asNumber 0 0 [.int a0] (I, G, A, L) (fun (r : Int32) (u : Mem) => r = r0 ∧ u = (I, G, A, L)) := by
  intro sz
  refine Met.ofW (cc := cX6_asNumber) (maxL := 1) (ret := (some .int)) (by decide) rfl ?_
  intro p e s m args below meth c s₁ Bd hml hv0
  obtain ⟨rfl, hsz, hP, hK⟩ := hv0
  have hx := Bd.exec
  have hb := Bd.bytes
  have hr := Bd.returns
  have hts := atoms_spec (ws := wsX6_asNumber) Bd.pre
  have hown : s.vm.findClass RX6 = some m.cls := findClass_of_methodNamed Bd.named
  have hlocks := Bd.notSynchronized
  subst hsz
  have hap := vF_ap hap0 s.heap.size
  have hS : va_S (vF ad s.heap.size) s.heap s.heap [] := va_S.rf
  have hP : va_P D vwCl (VW K ad I G A L) s.heap := hP
  have hl := lv_entry ([.int a0]) (n := 1) (Nat.le_of_ble_eq_true rfl)
  rw [lg_entry_eq]
  generalize (lg_sl ([.int a0]) ++ List.replicate (1 - (lg_sl ([.int a0])).length) Slot.unset).toArray = ls at hl ⊢
  have hl : lv_has ls 1 [(0, .int a0)] := hl
  rw [f_X6_asNumber] at h
  refine lv_iload_n hx hb dX6_asNumber_0 rfl (lv_at hl 0 rfl) ?_
  refine lv_if_eq (tgt := 8) hx hb dX6_asNumber_1 (by decide) (fun c_1 => ?_) (fun c_1 => ?_)
  · have h := ip c_1 h
    refine lv_iconst (v := 0) hx hb dX6_asNumber_8 (by decide) ?_
    exact W.iret (v := 0) hx hb hr (fun t9 ht9 hW9 => ⟨⟨0, (I, G, A, L), rfl, by cases h; exact ⟨rfl, rfl⟩, by rw [ht9]; exact hP, va_K.moved hW9.alike hK⟩, hS.F ht9⟩) hS.2.2 dX6_asNumber_9
  · have h := iN c_1 h
    refine lv_iconst (v := 1) hx hb dX6_asNumber_4 (by decide) ?_
    refine lv_goto (tgt := 9) hx hb dX6_asNumber_5 (by decide) ?_
    exact W.iret (v := 1) hx hb hr (fun t9 ht9 hW9 => ⟨⟨1, (I, G, A, L), rfl, by cases h; exact ⟨rfl, rfl⟩, by rw [ht9]; exact hP, va_K.moved hW9.alike hK⟩, hS.F ht9⟩) hS.2.2 dX6_asNumber_9
set_option maxHeartbeats 4000000 in
set_option maxRecDepth 100000 in
theorem e_X6_ask (l : Launch) (D : va_G) (K : Nat → ClassId) (ad : Nat → Nat) (hap0 : apart ad (fun _ => True)) (a1 : Int32) (I : Nat → Nat → Int32) (G : Nat → Nat → Nat) (A : Nat → Nat → Int32) (L : Nat → Nat → Int64) (r0 : Int32) (I0 : Nat → Nat → Int32) (A0 : Nat → Nat → Int32) (h : f_X6_ask I A a1 = some (r0, I0, A0)) : Ci l D K ad yX6_ask wsX6_ask 2 49 [.ref (ad 0), .int a1] (I, G, A, L) (fun (r : Int32) (u : Mem) => r = r0 ∧ u = (I0, G, A0, L)) := by
  intro sz
  refine Met.ofW (cc := cX6_ask) (maxL := 2) (ret := (some .int)) (by decide) rfl ?_
  intro p e s m args below meth c s₁ Bd hml hv0
  obtain ⟨rfl, hsz, hP, hK⟩ := hv0
  have hx := Bd.exec
  have hb := Bd.bytes
  have hr := Bd.returns
  have hts := atoms_spec (ws := wsX6_ask) Bd.pre
  have hown : s.vm.findClass RX6 = some m.cls := findClass_of_methodNamed Bd.named
  have hlocks := Bd.notSynchronized
  have hi6 : ∀ w ∈ u_ws RX6 TX6 18, w ∈ wsX6_ask := fun w h => List.mem_cons_of_mem _ (List.mem_append_left _ (List.mem_append_right _ h))
  have hi1 : ∀ w ∈ u_ws RX1 TX1 9, w ∈ wsX6_ask := fun w h => List.mem_cons_of_mem _ (List.mem_append_right _ h)
  subst hsz
  have hap := vF_ap hap0 s.heap.size
  have hS : va_S (vF ad s.heap.size) s.heap s.heap [] := va_S.rf
  have hP : va_P D vwCl (VW K ad I G A L) s.heap := hP
  have hl := lv_entry ([.ref (ad 0), .int a1]) (n := 2) (Nat.le_of_ble_eq_true rfl)
  rw [lg_entry_eq]
  generalize (lg_sl ([.ref (ad 0), .int a1]) ++ List.replicate (2 - (lg_sl ([.ref (ad 0), .int a1])).length) Slot.unset).toArray = ls at hl ⊢
  have hl : lv_has ls 2 [(0, .ref (ad 0)), (1, .int a1)] := hl
  rw [f_X6_ask] at h
  refine lv_aload_n hx hb dX6_ask_0 rfl (lv_at hl 0 rfl) ?_
  refine lv_iload_n hx hb dX6_ask_1 rfl (lv_at hl 1 rfl) ?_
  obtain ⟨r1, hc2, h⟩ := Option.bind_eq_some_iff.mp h
  refine ecV (As := [.int a1]) (rest := []) ⟨hx, hb, hml, hown, hts⟩ (e_X6_isProblem l D K ad hap0 a1 I G A L r1 hc2) (cwV 1 hts gX6_ask_X6_isProblem rfl rfl rfl (by decide +kernel) ⟨Nat.le_of_ble_eq_true rfl, Nat.le_of_ble_eq_true rfl⟩) hK hP hS (by decide) (show kd 0 = 6 by decide) (by decide) rfl rfl rfl hl.1 (Nat.le_of_ble_eq_true rfl) (Nat.le_of_ble_eq_true rfl) (Nat.le_of_ble_eq_true rfl) dX6_ask_2 (fun H locs hP hS => ?_) rfl
  have hP : va_P D vwCl (VW K ad I G A L) H := hP
  refine lv_if_ne (tgt := 10) hx hb dX6_ask_5 (by decide) (fun c_3 => ?_) (fun c_3 => ?_)
  · have h := iN c_3 h
    refine lv_aload_n hx hb dX6_ask_10 rfl (lv_at hl 0 rfl) ?_
    refine lv_iload_n hx hb dX6_ask_11 rfl (lv_at hl 1 rfl) ?_
    refine vpI (v := a1) (ty := .int) hx hb hts hi6 tyX6 tyX6_ok nmX6 hown hK hP hap hS (0) (by decide) (show kd 0 = 6 by decide) (C := RX6) (T := TX6) (N := 18) rfl 7 (by decide) (by decide) (by decide) (by decide) (hts (.fieldLink RX6 32 "CrateHelpers" "asked" "I") (by decide +kernel)) (fun _ h9 => h9) rfl (by decide +kernel) rfl rfl dX6_ask_12 (fun H locs hP hS => ?_)
    obtain ⟨I4, eI4, h⟩ := bd_e h
    rw [← eI4] at hP
    have hP : va_P D vwCl (VW K ad I4 G A L) H := hP
    refine lv_aload_n hx hb dX6_ask_15 rfl (lv_at hl 0 rfl) ?_
    refine lv_aload_n hx hb dX6_ask_16 rfl (lv_at hl 0 rfl) ?_
    refine vgC hx hb hts hi6 hown hK hP (0) (by decide) (show kd 0 = 6 by decide) (C := RX6) (T := TX6) (N := 18) rfl 0 (by decide) (by decide) (by decide) (by decide) (1) rfl (hts (.fieldLink RX6 11 "CrateHelpers" "problems" "[LCrateHelpers$Problem;") (by decide +kernel)) (fun _ h9 => h9) dX6_ask_17 ?_
    refine lv_iload_n hx hb dX6_ask_20 rfl (lv_at hl 1 rfl) ?_
    obtain ⟨hn5, h⟩ := gk h
    refine xaald hx hb hK hP (1) (by decide) 5 13 (show kd 1 = 13 by decide) (by decide) rfl (by rw [show ln 1 = 5 by decide]; exact hn5) (58 + 52 * a1.toNatClampNeg) (drf13 ((show kd 1 = 13 by decide))) dX6_ask_21 ?_
    obtain ⟨hk6, h⟩ := gk h
    refine vgI hx hb hts hi1 hown hK hP (58 + 52 * a1.toNatClampNeg) (s318 hk6.1) hk6.2 (C := RX1) (T := TX1) (N := 9) rfl 2 (by decide) (by decide) (by decide) (by decide) (hts (.fieldLink RX6 232 "CrateHelpers$Problem" "changes" "I") (by decide +kernel)) (fun _ h9 => h9) dX6_ask_22 ?_
    refine vpI (v := (I4 (58 + 52 * a1.toNatClampNeg) 2)) (ty := .int) hx hb hts hi6 tyX6 tyX6_ok nmX6 hown hK hP hap hS (0) (by decide) (show kd 0 = 6 by decide) (C := RX6) (T := TX6) (N := 18) rfl 8 (by decide) (by decide) (by decide) (by decide) (hts (.fieldLink RX6 35 "CrateHelpers" "askedAtChange" "I") (by decide +kernel)) (fun _ h9 => h9) rfl (by decide +kernel) rfl rfl dX6_ask_25 (fun H locs hP hS => ?_)
    obtain ⟨I7, eI7, h⟩ := bd_e h
    rw [← eI7] at hP
    have hP : va_P D vwCl (VW K ad I7 G A L) H := hP
    refine lv_aload_n hx hb dX6_ask_28 rfl (lv_at hl 0 rfl) ?_
    refine lv_iconst (v := 0) hx hb dX6_ask_29 (by decide) ?_
    refine vpI (v := 0) (ty := .int) hx hb hts hi6 tyX6 tyX6_ok nmX6 hown hK hP hap hS (0) (by decide) (show kd 0 = 6 by decide) (C := RX6) (T := TX6) (N := 18) rfl 9 (by decide) (by decide) (by decide) (by decide) (hts (.fieldLink RX6 38 "CrateHelpers" "askedDepth" "I") (by decide +kernel)) (fun _ h9 => h9) rfl (by decide +kernel) rfl rfl dX6_ask_30 (fun H locs hP hS => ?_)
    obtain ⟨I8, eI8, h⟩ := bd_e h
    rw [← eI8] at hP
    have hP : va_P D vwCl (VW K ad I8 G A L) H := hP
    refine lv_aload_n hx hb dX6_ask_33 rfl (lv_at hl 0 rfl) ?_
    refine vgC hx hb hts hi6 hown hK hP (0) (by decide) (show kd 0 = 6 by decide) (C := RX6) (T := TX6) (N := 18) rfl 10 (by decide) (by decide) (by decide) (by decide) (18) rfl (hts (.fieldLink RX6 41 "CrateHelpers" "askedValues" "[I") (by decide +kernel)) (fun _ h9 => h9) dX6_ask_34 ?_
    refine lv_iconst (v := (-1)) hx hb dX6_ask_37 (by decide) ?_
    obtain ⟨A9, hc10, h⟩ := Option.bind_eq_some_iff.mp h
    refine ecSv (As := [.ref (ad 18), .int (-1)]) (rest := []) ⟨hx, hb, hml, hown, hts⟩ (e_J7_fill_53178 l D K ad hap0 18 (-1) I8 G A L A9 hc10) (va_cwS 2 hts gX6_ask_J7_fill_53178 rfl rfl rfl (by decide +kernel) ⟨Nat.le_of_ble_eq_true rfl, Nat.le_of_ble_eq_true rfl⟩) hK hP hS rfl hl.1 (Nat.le_of_ble_eq_true rfl) (Nat.le_of_ble_eq_true rfl) (Nat.le_of_ble_eq_true rfl) dX6_ask_38 (fun H locs hP hS => ?_) rfl
    have hP : va_P D vwCl (VW K ad I8 G A9 L) H := hP
    refine lv_aload_n hx hb dX6_ask_41 rfl (lv_at hl 0 rfl) ?_
    refine vgC hx hb hts hi6 hown hK hP (0) (by decide) (show kd 0 = 6 by decide) (C := RX6) (T := TX6) (N := 18) rfl 0 (by decide) (by decide) (by decide) (by decide) (1) rfl (hts (.fieldLink RX6 11 "CrateHelpers" "problems" "[LCrateHelpers$Problem;") (by decide +kernel)) (fun _ h9 => h9) dX6_ask_42 ?_
    refine lv_iload_n hx hb dX6_ask_45 rfl (lv_at hl 1 rfl) ?_
    refine xaald hx hb hK hP (1) (by decide) 5 13 (show kd 1 = 13 by decide) (by decide) rfl (by rw [show ln 1 = 5 by decide]; exact hn5) (58 + 52 * a1.toNatClampNeg) (drf13 ((show kd 1 = 13 by decide))) dX6_ask_46 ?_
    refine vgI hx hb hts hi1 hown hK hP (58 + 52 * a1.toNatClampNeg) (s318 hk6.1) hk6.2 (C := RX1) (T := TX1) (N := 9) rfl 0 (by decide) (by decide) (by decide) (by decide) (hts (.fieldLink RX6 103 "CrateHelpers$Problem" "variables" "I") (by decide +kernel)) (fun _ h9 => h9) dX6_ask_47 ?_
    exact W.iret (v := (I8 (58 + 52 * a1.toNatClampNeg) 0)) hx hb hr (fun t9 ht9 hW9 => ⟨⟨(I8 (58 + 52 * a1.toNatClampNeg) 0), (I8, G, A9, L), rfl, by cases h; exact ⟨rfl, rfl⟩, by rw [ht9]; exact hP, va_K.moved hW9.alike hK⟩, hS.F ht9⟩) hS.2.2 dX6_ask_50
  · have h := ip c_3 h
    refine lv_iconst (v := (-1)) hx hb dX6_ask_8 (by decide) ?_
    exact W.iret (v := (-1)) hx hb hr (fun t9 ht9 hW9 => ⟨⟨(-1), (I, G, A, L), rfl, by cases h; exact ⟨rfl, rfl⟩, by rw [ht9]; exact hP, va_K.moved hW9.alike hK⟩, hS.F ht9⟩) hS.2.2 dX6_ask_9
set_option maxHeartbeats 4000000 in
set_option maxRecDepth 100000 in
theorem e_X5_widthBelow (l : Launch) (D : va_G) (K : Nat → ClassId) (ad : Nat → Nat) (hap0 : apart ad (fun _ => True)) (o : Nat) (a1 : Int32) (I : Nat → Nat → Int32) (G : Nat → Nat → Nat) (A : Nat → Nat → Int32) (L : Nat → Nat → Int64) (r0 : Int32) (h : f_X5_widthBelow G A o a1 = some r0) : Ci l D K ad yX5_widthBelow wsX5_widthBelow 0 0 [.ref (ad o), .int a1] (I, G, A, L) (fun (r : Int32) (u : Mem) => r = r0 ∧ u = (I, G, A, L)) := by
  intro sz
  refine Met.ofW (cc := cX5_widthBelow) (maxL := 2) (ret := (some .int)) (by decide) rfl ?_
  intro p e s m args below meth c s₁ Bd hml hv0
  obtain ⟨rfl, hsz, hP, hK⟩ := hv0
  have hx := Bd.exec
  have hb := Bd.bytes
  have hr := Bd.returns
  have hts := atoms_spec (ws := wsX5_widthBelow) Bd.pre
  have hown : s.vm.findClass RX5 = some m.cls := findClass_of_methodNamed Bd.named
  have hlocks := Bd.notSynchronized
  have hi5 : ∀ w ∈ u_ws RX5 TX5 16, w ∈ wsX5_widthBelow := fun w h => List.mem_cons_of_mem _ (List.mem_append_left _ (List.mem_append_right _ h))
  have hi1 : ∀ w ∈ u_ws RX1 TX1 9, w ∈ wsX5_widthBelow := fun w h => List.mem_cons_of_mem _ (List.mem_append_right _ h)
  subst hsz
  have hap := vF_ap hap0 s.heap.size
  have hS : va_S (vF ad s.heap.size) s.heap s.heap [] := va_S.rf
  have hP : va_P D vwCl (VW K ad I G A L) s.heap := hP
  have hl := lv_entry ([.ref (ad o), .int a1]) (n := 2) (Nat.le_of_ble_eq_true rfl)
  rw [lg_entry_eq]
  generalize (lg_sl ([.ref (ad o), .int a1]) ++ List.replicate (2 - (lg_sl ([.ref (ad o), .int a1])).length) Slot.unset).toArray = ls at hl ⊢
  have hl : lv_has ls 2 [(0, .ref (ad o)), (1, .int a1)] := hl
  rw [f_X5_widthBelow] at h
  refine lv_aload_n hx hb dX5_widthBelow_0 rfl (lv_at hl 0 rfl) ?_
  obtain ⟨hk1, h⟩ := gk h
  refine vgS hx hb hts hi5 hown hK hP (o) (s318 hk1.1) hk1.2 (C := RX5) (T := TX5) (N := 16) rfl 6 (by decide) (by decide) (by decide) (by decide) (o + 7) rfl (hts (.fieldLink RX5 69 "CrateHelpers$Tree" "firstBelow" "[S") (by decide +kernel)) (fun _ h9 => h9) dX5_widthBelow_1 ?_
  refine lv_iload_n hx hb dX5_widthBelow_4 rfl (lv_at hl 1 rfl) ?_
  obtain ⟨hk2, h⟩ := gk h
  obtain ⟨hn3, h⟩ := gk h
  refine xsald hx hb hK hP (o + 7) (s318 hk2.1) hk2.2 hn3 dX5_widthBelow_5 ?_
  refine lv_iconst (v := (-1)) hx hb dX5_widthBelow_6 (by decide) ?_
  refine lv_icmp_ne (tgt := 14) hx hb dX5_widthBelow_7 (by decide) (fun c_4 => ?_) (fun c_4 => ?_)
  · have h := iN c_4 h
    refine lv_aload_n hx hb dX5_widthBelow_14 rfl (lv_at hl 0 rfl) ?_
    refine vgG hx hb hts hi5 hown hK hP (o) (s318 hk1.1) hk1.2 (C := RX5) (T := TX5) (N := 16) rfl 14 (by decide) (by decide) (by decide) (by decide) (hts (.fieldLink RX5 45 "CrateHelpers$Tree" "problem" "LCrateHelpers$Problem;") (by decide +kernel)) (fun _ h9 => h9) dX5_widthBelow_15 ?_
    obtain ⟨hk5, h⟩ := gk h
    refine vgS hx hb hts hi1 hown hK hP (G o 14) (s318 hk5.1) hk5.2 (C := RX1) (T := TX1) (N := 9) rfl 4 (by decide) (by decide) (by decide) (by decide) (G o 14 + 1) rfl (hts (.fieldLink RX5 108 "CrateHelpers$Problem" "sizes" "[I") (by decide +kernel)) (fun _ h9 => h9) dX5_widthBelow_18 ?_
    refine lv_aload_n hx hb dX5_widthBelow_21 rfl (lv_at hl 0 rfl) ?_
    refine vgS hx hb hts hi5 hown hK hP (o) (s318 hk1.1) hk1.2 (C := RX5) (T := TX5) (N := 16) rfl 1 (by decide) (by decide) (by decide) (by decide) (o + 2) rfl (hts (.fieldLink RX5 53 "CrateHelpers$Tree" "depth" "[B") (by decide +kernel)) (fun _ h9 => h9) dX5_widthBelow_22 ?_
    refine lv_iload_n hx hb dX5_widthBelow_25 rfl (lv_at hl 1 rfl) ?_
    obtain ⟨hk6, h⟩ := gk h
    obtain ⟨hn7, h⟩ := gk h
    refine xbald hx hb hK hP (o + 2) (s318 hk6.1) hk6.2 hn7 dX5_widthBelow_26 ?_
    obtain ⟨hk8, h⟩ := gk h
    obtain ⟨hn9, h⟩ := gk h
    refine xiald hx hb hK hP (G o 14 + 1) (s318 hk8.1) hk8.2 hn9 dX5_widthBelow_27 ?_
    exact W.iret (v := (A (G o 14 + 1) ((A (o + 2) a1.toNatClampNeg).toNatClampNeg))) hx hb hr (fun t9 ht9 hW9 => ⟨⟨(A (G o 14 + 1) ((A (o + 2) a1.toNatClampNeg).toNatClampNeg)), (I, G, A, L), rfl, by cases h; exact ⟨rfl, rfl⟩, by rw [ht9]; exact hP, va_K.moved hW9.alike hK⟩, hS.F ht9⟩) hS.2.2 dX5_widthBelow_28
  · have h := ip c_4 h
    refine lv_iconst (v := 0) hx hb dX5_widthBelow_10 (by decide) ?_
    refine lv_goto (tgt := 28) hx hb dX5_widthBelow_11 (by decide) ?_
    exact W.iret (v := 0) hx hb hr (fun t9 ht9 hW9 => ⟨⟨0, (I, G, A, L), rfl, by cases h; exact ⟨rfl, rfl⟩, by rw [ht9]; exact hP, va_K.moved hW9.alike hK⟩, hS.F ht9⟩) hS.2.2 dX5_widthBelow_28
set_option maxHeartbeats 4000000 in
set_option maxRecDepth 100000 in
theorem e_X5_below (l : Launch) (D : va_G) (K : Nat → ClassId) (ad : Nat → Nat) (hap0 : apart ad (fun _ => True)) (o : Nat) (a1 : Int32) (a2 : Int32) (I : Nat → Nat → Int32) (G : Nat → Nat → Nat) (A : Nat → Nat → Int32) (L : Nat → Nat → Int64) (r0 : Int32) (h : f_X5_below G A o a1 a2 = some r0) : Ci l D K ad yX5_below wsX5_below 1 24 [.ref (ad o), .int a1, .int a2] (I, G, A, L) (fun (r : Int32) (u : Mem) => r = r0 ∧ u = (I, G, A, L)) := by
  intro sz
  refine Met.ofW (cc := cX5_below) (maxL := 3) (ret := (some .int)) (by decide) rfl ?_
  intro p e s m args below meth c s₁ Bd hml hv0
  obtain ⟨rfl, hsz, hP, hK⟩ := hv0
  have hx := Bd.exec
  have hb := Bd.bytes
  have hr := Bd.returns
  have hts := atoms_spec (ws := wsX5_below) Bd.pre
  have hown : s.vm.findClass RX5 = some m.cls := findClass_of_methodNamed Bd.named
  have hlocks := Bd.notSynchronized
  have hi5 : ∀ w ∈ u_ws RX5 TX5 16, w ∈ wsX5_below := fun w h => List.mem_cons_of_mem _ (List.mem_append_left _ (List.mem_append_right _ h))
  have hi1 : ∀ w ∈ u_ws RX1 TX1 9, w ∈ wsX5_below := fun w h => List.mem_cons_of_mem _ (List.mem_append_right _ h)
  subst hsz
  have hap := vF_ap hap0 s.heap.size
  have hS : va_S (vF ad s.heap.size) s.heap s.heap [] := va_S.rf
  have hP : va_P D vwCl (VW K ad I G A L) s.heap := hP
  have hl := lv_entry ([.ref (ad o), .int a1, .int a2]) (n := 3) (Nat.le_of_ble_eq_true rfl)
  rw [lg_entry_eq]
  generalize (lg_sl ([.ref (ad o), .int a1, .int a2]) ++ List.replicate (3 - (lg_sl ([.ref (ad o), .int a1, .int a2])).length) Slot.unset).toArray = ls at hl ⊢
  have hl : lv_has ls 3 [(0, .ref (ad o)), (1, .int a1), (2, .int a2)] := hl
  rw [f_X5_below] at h
  refine lv_iload_n hx hb dX5_below_0 rfl (lv_at hl 2 rfl) ?_
  refine lv_if_lt (tgt := 24) hx hb dX5_below_1 (by decide) (fun c_1 => ?_) (fun c_1 => ?_)
  · have h := ip c_1 h
    refine lv_iconst (v := (-1)) hx hb dX5_below_24 (by decide) ?_
    exact W.iret (v := (-1)) hx hb hr (fun t9 ht9 hW9 => ⟨⟨(-1), (I, G, A, L), rfl, by cases h; exact ⟨rfl, rfl⟩, by rw [ht9]; exact hP, va_K.moved hW9.alike hK⟩, hS.F ht9⟩) hS.2.2 dX5_below_25
  · have h := iN c_1 h
    refine lv_iload_n hx hb dX5_below_4 rfl (lv_at hl 2 rfl) ?_
    refine lv_aload_n hx hb dX5_below_5 rfl (lv_at hl 0 rfl) ?_
    refine lv_iload_n hx hb dX5_below_6 rfl (lv_at hl 1 rfl) ?_
    obtain ⟨hk2, h⟩ := gk h
    obtain ⟨r3, hc4, h⟩ := Option.bind_eq_some_iff.mp h
    refine ecV (As := [.int a1]) (rest := [.int a2]) ⟨hx, hb, hml, hown, hts⟩ (e_X5_widthBelow l D K ad hap0 o a1 I G A L r3 hc4) (cwV 1 hts gX5_below_X5_widthBelow rfl rfl rfl (by decide +kernel) ⟨Nat.le_of_ble_eq_true rfl, Nat.le_of_ble_eq_true rfl⟩) hK hP hS (s318 hk2.1) hk2.2 (by decide) rfl rfl rfl hl.1 (Nat.le_of_ble_eq_true rfl) (Nat.le_of_ble_eq_true rfl) (Nat.le_of_ble_eq_true rfl) dX5_below_7 (fun H locs hP hS => ?_) rfl
    have hP : va_P D vwCl (VW K ad I G A L) H := hP
    refine lv_icmp_ge (tgt := 24) hx hb dX5_below_10 (by decide) (fun c_5 => ?_) (fun c_5 => ?_)
    · have h := iN (Int32.not_lt.mpr c_5) h
      refine lv_iconst (v := (-1)) hx hb dX5_below_24 (by decide) ?_
      exact W.iret (v := (-1)) hx hb hr (fun t9 ht9 hW9 => ⟨⟨(-1), (I, G, A, L), rfl, by cases h; exact ⟨rfl, rfl⟩, by rw [ht9]; exact hP, va_K.moved hW9.alike hK⟩, hS.F ht9⟩) hS.2.2 dX5_below_25
    · have h := ip (Int32.not_le.mp c_5) h
      refine lv_aload_n hx hb dX5_below_13 rfl (lv_at hl 0 rfl) ?_
      refine vgS hx hb hts hi5 hown hK hP (o) (s318 hk2.1) hk2.2 (C := RX5) (T := TX5) (N := 16) rfl 6 (by decide) (by decide) (by decide) (by decide) (o + 7) rfl (hts (.fieldLink RX5 69 "CrateHelpers$Tree" "firstBelow" "[S") (by decide +kernel)) (fun _ h9 => h9) dX5_below_14 ?_
      refine lv_iload_n hx hb dX5_below_17 rfl (lv_at hl 1 rfl) ?_
      obtain ⟨hk6, h⟩ := gk h
      obtain ⟨hn7, h⟩ := gk h
      refine xsald hx hb hK hP (o + 7) (s318 hk6.1) hk6.2 hn7 dX5_below_18 ?_
      refine lv_iload_n hx hb dX5_below_19 rfl (lv_at hl 2 rfl) ?_
      refine lv_iadd hx hb dX5_below_20 ?_
      refine lv_goto (tgt := 25) hx hb dX5_below_21 (by decide) ?_
      exact W.iret (v := ((A (o + 7) a1.toNatClampNeg) + a2)) hx hb hr (fun t9 ht9 hW9 => ⟨⟨((A (o + 7) a1.toNatClampNeg) + a2), (I, G, A, L), rfl, by cases h; exact ⟨rfl, rfl⟩, by rw [ht9]; exact hP, va_K.moved hW9.alike hK⟩, hS.F ht9⟩) hS.2.2 dX5_below_25
set_option maxHeartbeats 4000000 in
set_option maxRecDepth 100000 in
theorem e_X6_closed (l : Launch) (D : va_G) (K : Nat → ClassId) (ad : Nat → Nat) (hap0 : apart ad (fun _ => True)) (a1 : Int32) (a2 : Int32) (a3 : Int32) (I : Nat → Nat → Int32) (G : Nat → Nat → Nat) (A : Nat → Nat → Int32) (L : Nat → Nat → Int64) (r0 : Int32) (h : f_X6_closed I G A a1 a2 a3 = some r0) : Ci l D K ad yX6_closed wsX6_closed 2 49 [.ref (ad 0), .int a1, .int a2, .int a3] (I, G, A, L) (fun (r : Int32) (u : Mem) => r = r0 ∧ u = (I, G, A, L)) := by
  intro sz
  refine Met.ofW (cc := cX6_closed) (maxL := 5) (ret := (some .int)) (by decide) rfl ?_
  intro p e s m args below meth c s₁ Bd hml hv0
  obtain ⟨rfl, hsz, hP, hK⟩ := hv0
  have hx := Bd.exec
  have hb := Bd.bytes
  have hr := Bd.returns
  have hts := atoms_spec (ws := wsX6_closed) Bd.pre
  have hown : s.vm.findClass RX6 = some m.cls := findClass_of_methodNamed Bd.named
  have hlocks := Bd.notSynchronized
  have hi6 : ∀ w ∈ u_ws RX6 TX6 18, w ∈ wsX6_closed := fun w h => List.mem_cons_of_mem _ (List.mem_append_left _ (List.mem_append_left _ (List.mem_append_right _ h)))
  have hi5 : ∀ w ∈ u_ws RX5 TX5 16, w ∈ wsX6_closed := fun w h => List.mem_cons_of_mem _ (List.mem_append_left _ (List.mem_append_right _ h))
  have hi1 : ∀ w ∈ u_ws RX1 TX1 9, w ∈ wsX6_closed := fun w h => List.mem_cons_of_mem _ (List.mem_append_right _ h)
  subst hsz
  have hap := vF_ap hap0 s.heap.size
  have hS : va_S (vF ad s.heap.size) s.heap s.heap [] := va_S.rf
  have hP : va_P D vwCl (VW K ad I G A L) s.heap := hP
  have hl := lv_entry ([.ref (ad 0), .int a1, .int a2, .int a3]) (n := 5) (Nat.le_of_ble_eq_true rfl)
  rw [lg_entry_eq]
  generalize (lg_sl ([.ref (ad 0), .int a1, .int a2, .int a3]) ++ List.replicate (5 - (lg_sl ([.ref (ad 0), .int a1, .int a2, .int a3])).length) Slot.unset).toArray = ls at hl ⊢
  have hl : lv_has ls 5 [(0, .ref (ad 0)), (1, .int a1), (2, .int a2), (3, .int a3)] := hl
  rw [f_X6_closed] at h
  refine lv_iload_n hx hb dX6_closed_0 rfl (lv_at hl 3 rfl) ?_
  refine lv_iconst (v := 0) hx hb dX6_closed_1 (by decide) ?_
  refine lv_iconst (v := 1) hx hb dX6_closed_2 (by decide) ?_
  obtain ⟨r1, hc2, h⟩ := Option.bind_eq_some_iff.mp h
  refine ecS (As := [.int a3, .int 0, .int 1]) (rest := []) ⟨hx, hb, hml, hown, hts⟩ (e_X6_isWithin l D K ad hap0 a3 0 1 I G A L r1 hc2) (va_cwS 3 hts gX6_closed_X6_isWithin rfl rfl rfl (by decide +kernel) ⟨Nat.le_of_ble_eq_true rfl, Nat.le_of_ble_eq_true rfl⟩) hK hP hS rfl hl.1 (Nat.le_of_ble_eq_true rfl) (Nat.le_of_ble_eq_true rfl) (Nat.le_of_ble_eq_true rfl) dX6_closed_3 (fun H locs hP hS => ?_) rfl
  have hP : va_P D vwCl (VW K ad I G A L) H := hP
  refine lv_if_ne (tgt := 11) hx hb dX6_closed_6 (by decide) (fun c_3 => ?_) (fun c_3 => ?_)
  · have h := iN c_3 h
    refine lv_iload_n hx hb dX6_closed_11 rfl (lv_at hl 1 rfl) ?_
    refine lv_iconst (v := 0) hx hb dX6_closed_12 (by decide) ?_
    refine lv_aload_n hx hb dX6_closed_13 rfl (lv_at hl 0 rfl) ?_
    refine vgG hx hb hts hi6 hown hK hP (0) (by decide) (show kd 0 = 6 by decide) (C := RX6) (T := TX6) (N := 18) rfl 6 (by decide) (by decide) (by decide) (by decide) (hts (.fieldLink RX6 82 "CrateHelpers" "lastEnded" "LCrateHelpers$Tree;") (by decide +kernel)) (fun _ h9 => h9) dX6_closed_14 ?_
    obtain ⟨hk4, h⟩ := gk h
    refine vgI hx hb hts hi5 hown hK hP (G 0 6) (s318 hk4.1) hk4.2 (C := RX5) (T := TX5) (N := 16) rfl 11 (by decide) (by decide) (by decide) (by decide) (hts (.fieldLink RX6 192 "CrateHelpers$Tree" "taken" "I") (by decide +kernel)) (fun _ h9 => h9) dX6_closed_17 ?_
    refine lv_iconst (v := 1) hx hb dX6_closed_20 (by decide) ?_
    refine lv_isub hx hb dX6_closed_21 ?_
    obtain ⟨r5, hc6, h⟩ := Option.bind_eq_some_iff.mp h
    refine ecS (As := [.int a1, .int 0, .int ((I (G 0 6) 11) - 1)]) (rest := []) ⟨hx, hb, hml, hown, hts⟩ (e_X6_isWithin l D K ad hap0 a1 0 ((I (G 0 6) 11) - 1) I G A L r5 hc6) (va_cwS 3 hts gX6_closed_X6_isWithin rfl rfl rfl (by decide +kernel) ⟨Nat.le_of_ble_eq_true rfl, Nat.le_of_ble_eq_true rfl⟩) hK hP hS rfl hl.1 (Nat.le_of_ble_eq_true rfl) (Nat.le_of_ble_eq_true rfl) (Nat.le_of_ble_eq_true rfl) dX6_closed_22 (fun H locs hP hS => ?_) rfl
    have hP : va_P D vwCl (VW K ad I G A L) H := hP
    refine lv_if_ne (tgt := 31) hx hb dX6_closed_25 (by decide) (fun c_7 => ?_) (fun c_7 => ?_)
    · have h := iN c_7 h
      refine lv_aload_n hx hb dX6_closed_31 rfl (lv_at hl 0 rfl) ?_
      refine vgG hx hb hts hi6 hown hK hP (0) (by decide) (show kd 0 = 6 by decide) (C := RX6) (T := TX6) (N := 18) rfl 6 (by decide) (by decide) (by decide) (by decide) (hts (.fieldLink RX6 82 "CrateHelpers" "lastEnded" "LCrateHelpers$Tree;") (by decide +kernel)) (fun _ h9 => h9) dX6_closed_32 ?_
      refine lv_aload_n hx hb dX6_closed_35 rfl (lv_at hl 0 rfl) ?_
      refine vgG hx hb hts hi6 hown hK hP (0) (by decide) (show kd 0 = 6 by decide) (C := RX6) (T := TX6) (N := 18) rfl 6 (by decide) (by decide) (by decide) (by decide) (hts (.fieldLink RX6 82 "CrateHelpers" "lastEnded" "LCrateHelpers$Tree;") (by decide +kernel)) (fun _ h9 => h9) dX6_closed_36 ?_
      refine vgS hx hb hts hi5 hown hK hP (G 0 6) (s318 hk4.1) hk4.2 (C := RX5) (T := TX5) (N := 16) rfl 8 (by decide) (by decide) (by decide) (by decide) (G 0 6 + 9) rfl (hts (.fieldLink RX6 195 "CrateHelpers$Tree" "walk" "[I") (by decide +kernel)) (fun _ h9 => h9) dX6_closed_39 ?_
      refine lv_iload_n hx hb dX6_closed_42 rfl (lv_at hl 1 rfl) ?_
      obtain ⟨hk8, h⟩ := gk h
      obtain ⟨hn9, h⟩ := gk h
      refine xiald hx hb hK hP (G 0 6 + 9) (s318 hk8.1) hk8.2 hn9 dX6_closed_43 ?_
      refine lv_iload_n hx hb dX6_closed_44 rfl (lv_at hl 2 rfl) ?_
      obtain ⟨r10, hc11, h⟩ := Option.bind_eq_some_iff.mp h
      refine ecV (As := [.int (A (G 0 6 + 9) a1.toNatClampNeg), .int a2]) (rest := []) ⟨hx, hb, hml, hown, hts⟩ (e_X5_below l D K ad hap0 (G 0 6) (A (G 0 6 + 9) a1.toNatClampNeg) a2 I G A L r10 hc11) (cwV 2 hts gX6_closed_X5_below rfl rfl rfl (by decide +kernel) ⟨Nat.le_of_ble_eq_true rfl, Nat.le_of_ble_eq_true rfl⟩) hK hP hS (s318 hk4.1) hk4.2 (by decide) rfl rfl rfl hl.1 (Nat.le_of_ble_eq_true rfl) (Nat.le_of_ble_eq_true rfl) (Nat.le_of_ble_eq_true rfl) dX6_closed_45 (fun H locs hP hS => ?_) rfl
      have hP : va_P D vwCl (VW K ad I G A L) H := hP
      refine lv_istore (lv' := [(4, .int r10), (0, .ref (ad 0)), (1, .int a1), (2, .int a2), (3, .int a3)]) hx hb dX6_closed_48 hl (by decide) rfl (fun ls hl => ?_)
      refine lv_iload hx hb dX6_closed_50 (lv_at hl 0 rfl) ?_
      refine lv_iconst (v := (-1)) hx hb dX6_closed_52 (by decide) ?_
      refine lv_icmp_ne (tgt := 59) hx hb dX6_closed_53 (by decide) (fun c_12 => ?_) (fun c_12 => ?_)
      · have h := iN c_12 h
        refine lv_iload_n hx hb dX6_closed_59 rfl (lv_at hl 4 rfl) ?_
        refine lv_if_ne (tgt := 76) hx hb dX6_closed_60 (by decide) (fun c_13 => ?_) (fun c_13 => ?_)
        · have h := iN c_13 h
          refine lv_aload_n hx hb dX6_closed_76 rfl (lv_at hl 1 rfl) ?_
          refine vgG hx hb hts hi6 hown hK hP (0) (by decide) (show kd 0 = 6 by decide) (C := RX6) (T := TX6) (N := 18) rfl 6 (by decide) (by decide) (by decide) (by decide) (hts (.fieldLink RX6 82 "CrateHelpers" "lastEnded" "LCrateHelpers$Tree;") (by decide +kernel)) (fun _ h9 => h9) dX6_closed_77 ?_
          refine vgS hx hb hts hi5 hown hK hP (G 0 6) (s318 hk4.1) hk4.2 (C := RX5) (T := TX5) (N := 16) rfl 3 (by decide) (by decide) (by decide) (by decide) (G 0 6 + 4) rfl (hts (.fieldLink RX6 220 "CrateHelpers$Tree" "why" "[B") (by decide +kernel)) (fun _ h9 => h9) dX6_closed_80 ?_
          refine lv_iload hx hb dX6_closed_83 (lv_at hl 0 rfl) ?_
          obtain ⟨hk14, h⟩ := gk h
          obtain ⟨hn15, h⟩ := gk h
          refine xbald hx hb hK hP (G 0 6 + 4) (s318 hk14.1) hk14.2 hn15 dX6_closed_85 ?_
          exact W.iret (v := (A (G 0 6 + 4) r10.toNatClampNeg)) hx hb hr (fun t9 ht9 hW9 => ⟨⟨(A (G 0 6 + 4) r10.toNatClampNeg), (I, G, A, L), rfl, by cases h; exact ⟨rfl, rfl⟩, by rw [ht9]; exact hP, va_K.moved hW9.alike hK⟩, hS.F ht9⟩) hS.2.2 dX6_closed_86
        · have h := ip c_13 h
          refine lv_aload_n hx hb dX6_closed_63 rfl (lv_at hl 1 rfl) ?_
          refine vgG hx hb hts hi6 hown hK hP (0) (by decide) (show kd 0 = 6 by decide) (C := RX6) (T := TX6) (N := 18) rfl 6 (by decide) (by decide) (by decide) (by decide) (hts (.fieldLink RX6 82 "CrateHelpers" "lastEnded" "LCrateHelpers$Tree;") (by decide +kernel)) (fun _ h9 => h9) dX6_closed_64 ?_
          refine vgS hx hb hts hi5 hown hK hP (G 0 6) (s318 hk4.1) hk4.2 (C := RX5) (T := TX5) (N := 16) rfl 2 (by decide) (by decide) (by decide) (by decide) (G 0 6 + 3) rfl (hts (.fieldLink RX6 217 "CrateHelpers$Tree" "what" "[B") (by decide +kernel)) (fun _ h9 => h9) dX6_closed_67 ?_
          refine lv_iload hx hb dX6_closed_70 (lv_at hl 0 rfl) ?_
          obtain ⟨hk16, h⟩ := gk h
          obtain ⟨hn17, h⟩ := gk h
          refine xbald hx hb hK hP (G 0 6 + 3) (s318 hk16.1) hk16.2 hn17 dX6_closed_72 ?_
          refine lv_goto (tgt := 86) hx hb dX6_closed_73 (by decide) ?_
          exact W.iret (v := (A (G 0 6 + 3) r10.toNatClampNeg)) hx hb hr (fun t9 ht9 hW9 => ⟨⟨(A (G 0 6 + 3) r10.toNatClampNeg), (I, G, A, L), rfl, by cases h; exact ⟨rfl, rfl⟩, by rw [ht9]; exact hP, va_K.moved hW9.alike hK⟩, hS.F ht9⟩) hS.2.2 dX6_closed_86
      · have h := ip c_12 h
        refine lv_bipush (v := (-9)) hx hb dX6_closed_56 (by decide) ?_
        exact W.iret (v := (-9)) hx hb hr (fun t9 ht9 hW9 => ⟨⟨(-9), (I, G, A, L), rfl, by cases h; exact ⟨rfl, rfl⟩, by rw [ht9]; exact hP, va_K.moved hW9.alike hK⟩, hS.F ht9⟩) hS.2.2 dX6_closed_58
    · have h := ip c_7 h
      refine lv_bipush (v := (-9)) hx hb dX6_closed_28 (by decide) ?_
      exact W.iret (v := (-9)) hx hb hr (fun t9 ht9 hW9 => ⟨⟨(-9), (I, G, A, L), rfl, by cases h; exact ⟨rfl, rfl⟩, by rw [ht9]; exact hP, va_K.moved hW9.alike hK⟩, hS.F ht9⟩) hS.2.2 dX6_closed_30
  · have h := ip c_3 h
    refine lv_iconst (v := (-1)) hx hb dX6_closed_9 (by decide) ?_
    exact W.iret (v := (-1)) hx hb hr (fun t9 ht9 hW9 => ⟨⟨(-1), (I, G, A, L), rfl, by cases h; exact ⟨rfl, rfl⟩, by rw [ht9]; exact hP, va_K.moved hW9.alike hK⟩, hS.F ht9⟩) hS.2.2 dX6_closed_10
set_option maxHeartbeats 4000000 in
set_option maxRecDepth 100000 in
theorem e_X1_hasValue (l : Launch) (D : va_G) (K : Nat → ClassId) (ad : Nat → Nat) (hap0 : apart ad (fun _ => True)) (o : Nat) (a1 : Int32) (a2 : Int32) (I : Nat → Nat → Int32) (G : Nat → Nat → Nat) (A : Nat → Nat → Int32) (L : Nat → Nat → Int64) (r0 : Int32) (h : f_X1_hasValue I A o a1 a2 = some r0) : Ci l D K ad yX1_hasValue wsX1_hasValue 1 24 [.ref (ad o), .int a1, .int a2] (I, G, A, L) (fun (r : Int32) (u : Mem) => r = r0 ∧ u = (I, G, A, L)) := by
  intro sz
  refine Met.ofW (cc := cX1_hasValue) (maxL := 3) (ret := (some .boolean)) (by decide) rfl ?_
  intro p e s m args below meth c s₁ Bd hml hv0
  obtain ⟨rfl, hsz, hP, hK⟩ := hv0
  have hx := Bd.exec
  have hb := Bd.bytes
  have hr := Bd.returns
  have hts := atoms_spec (ws := wsX1_hasValue) Bd.pre
  have hown : s.vm.findClass RX1 = some m.cls := findClass_of_methodNamed Bd.named
  have hlocks := Bd.notSynchronized
  have hi1 : ∀ w ∈ u_ws RX1 TX1 9, w ∈ wsX1_hasValue := fun w h => List.mem_cons_of_mem _ (List.mem_append_right _ h)
  subst hsz
  have hap := vF_ap hap0 s.heap.size
  have hS : va_S (vF ad s.heap.size) s.heap s.heap [] := va_S.rf
  have hP : va_P D vwCl (VW K ad I G A L) s.heap := hP
  have hl := lv_entry ([.ref (ad o), .int a1, .int a2]) (n := 3) (Nat.le_of_ble_eq_true rfl)
  rw [lg_entry_eq]
  generalize (lg_sl ([.ref (ad o), .int a1, .int a2]) ++ List.replicate (3 - (lg_sl ([.ref (ad o), .int a1, .int a2])).length) Slot.unset).toArray = ls at hl ⊢
  have hl : lv_has ls 3 [(0, .ref (ad o)), (1, .int a1), (2, .int a2)] := hl
  rw [f_X1_hasValue] at h
  refine lv_aload_n hx hb dX1_hasValue_0 rfl (lv_at hl 0 rfl) ?_
  refine lv_iload_n hx hb dX1_hasValue_1 rfl (lv_at hl 1 rfl) ?_
  obtain ⟨hk1, h⟩ := gk h
  obtain ⟨r2, hc3, h⟩ := Option.bind_eq_some_iff.mp h
  refine ecV (As := [.int a1]) (rest := []) ⟨hx, hb, hml, hown, hts⟩ (e_X1_hasVariable l D K ad hap0 o a1 I G A L r2 hc3) (cwV 1 hts gX1_hasValue_X1_hasVariable rfl rfl rfl (by decide +kernel) ⟨Nat.le_of_ble_eq_true rfl, Nat.le_of_ble_eq_true rfl⟩) hK hP hS (s318 hk1.1) hk1.2 (by decide) rfl rfl rfl hl.1 (Nat.le_of_ble_eq_true rfl) (Nat.le_of_ble_eq_true rfl) (Nat.le_of_ble_eq_true rfl) dX1_hasValue_2 (fun H locs hP hS => ?_) rfl
  have hP : va_P D vwCl (VW K ad I G A L) H := hP
  refine lv_if_eq (tgt := 26) hx hb dX1_hasValue_5 (by decide) (fun c_4 => ?_) (fun c_4 => ?_)
  · have h := ip c_4 h
    refine lv_iconst (v := 0) hx hb dX1_hasValue_26 (by decide) ?_
    exact W.zret (v := 0) hx hb hr (by decide) (fun t9 ht9 hW9 => ⟨⟨0, (I, G, A, L), rfl, by cases h; exact ⟨rfl, rfl⟩, by rw [ht9]; exact hP, va_K.moved hW9.alike hK⟩, hS.F ht9⟩) hS.2.2 dX1_hasValue_27
  · have h := iN c_4 h
    refine lv_iload_n hx hb dX1_hasValue_8 rfl (lv_at hl 2 rfl) ?_
    refine lv_if_lt (tgt := 26) hx hb dX1_hasValue_9 (by decide) (fun c_5 => ?_) (fun c_5 => ?_)
    · have h := ip c_5 h
      refine lv_iconst (v := 0) hx hb dX1_hasValue_26 (by decide) ?_
      exact W.zret (v := 0) hx hb hr (by decide) (fun t9 ht9 hW9 => ⟨⟨0, (I, G, A, L), rfl, by cases h; exact ⟨rfl, rfl⟩, by rw [ht9]; exact hP, va_K.moved hW9.alike hK⟩, hS.F ht9⟩) hS.2.2 dX1_hasValue_27
    · have h := iN c_5 h
      refine lv_iload_n hx hb dX1_hasValue_12 rfl (lv_at hl 2 rfl) ?_
      refine lv_aload_n hx hb dX1_hasValue_13 rfl (lv_at hl 0 rfl) ?_
      refine vgS hx hb hts hi1 hown hK hP (o) (s318 hk1.1) hk1.2 (C := RX1) (T := TX1) (N := 9) rfl 4 (by decide) (by decide) (by decide) (by decide) (o + 1) rfl (hts (.fieldLink RX1 25 "CrateHelpers$Problem" "sizes" "[I") (by decide +kernel)) (fun _ h9 => h9) dX1_hasValue_14 ?_
      refine lv_iload_n hx hb dX1_hasValue_17 rfl (lv_at hl 1 rfl) ?_
      obtain ⟨hk6, h⟩ := gk h
      obtain ⟨hn7, h⟩ := gk h
      refine xiald hx hb hK hP (o + 1) (s318 hk6.1) hk6.2 hn7 dX1_hasValue_18 ?_
      refine lv_icmp_ge (tgt := 26) hx hb dX1_hasValue_19 (by decide) (fun c_8 => ?_) (fun c_8 => ?_)
      · have h := iN (Int32.not_lt.mpr c_8) h
        refine lv_iconst (v := 0) hx hb dX1_hasValue_26 (by decide) ?_
        exact W.zret (v := 0) hx hb hr (by decide) (fun t9 ht9 hW9 => ⟨⟨0, (I, G, A, L), rfl, by cases h; exact ⟨rfl, rfl⟩, by rw [ht9]; exact hP, va_K.moved hW9.alike hK⟩, hS.F ht9⟩) hS.2.2 dX1_hasValue_27
      · have h := ip (Int32.not_le.mp c_8) h
        refine lv_iconst (v := 1) hx hb dX1_hasValue_22 (by decide) ?_
        refine lv_goto (tgt := 27) hx hb dX1_hasValue_23 (by decide) ?_
        exact W.zret (v := 1) hx hb hr (by decide) (fun t9 ht9 hW9 => ⟨⟨1, (I, G, A, L), rfl, by cases h; exact ⟨rfl, rfl⟩, by rw [ht9]; exact hP, va_K.moved hW9.alike hK⟩, hS.F ht9⟩) hS.2.2 dX1_hasValue_27
set_option maxHeartbeats 4000000 in
set_option maxRecDepth 100000 in
theorem e_X1_change (l : Launch) (D : va_G) (K : Nat → ClassId) (ad : Nat → Nat) (hap0 : apart ad (fun _ => True)) (o : Nat) (I : Nat → Nat → Int32) (G : Nat → Nat → Nat) (A : Nat → Nat → Int32) (L : Nat → Nat → Int64) (I0 : Nat → Nat → Int32) (h : f_X1_change I o = some I0) : Cv l D K ad yX1_change wsX1_change 0 0 [.ref (ad o)] (I, G, A, L) (fun (u : Mem) => u = (I0, G, A, L)) := by
  intro sz
  refine Met.ofW (cc := cX1_change) (maxL := 1) (ret := none) (by decide) rfl ?_
  intro p e s m args below meth c s₁ Bd hml hv0
  obtain ⟨rfl, hsz, hP, hK⟩ := hv0
  have hx := Bd.exec
  have hb := Bd.bytes
  have hr := Bd.returns
  have hts := atoms_spec (ws := wsX1_change) Bd.pre
  have hown : s.vm.findClass RX1 = some m.cls := findClass_of_methodNamed Bd.named
  have hlocks := Bd.notSynchronized
  have hi1 : ∀ w ∈ u_ws RX1 TX1 9, w ∈ wsX1_change := fun w h => List.mem_cons_of_mem _ (List.mem_append_right _ h)
  subst hsz
  have hap := vF_ap hap0 s.heap.size
  have hS : va_S (vF ad s.heap.size) s.heap s.heap [] := va_S.rf
  have hP : va_P D vwCl (VW K ad I G A L) s.heap := hP
  have hl := lv_entry ([.ref (ad o)]) (n := 1) (Nat.le_of_ble_eq_true rfl)
  rw [lg_entry_eq]
  generalize (lg_sl ([.ref (ad o)]) ++ List.replicate (1 - (lg_sl ([.ref (ad o)])).length) Slot.unset).toArray = ls at hl ⊢
  have hl : lv_has ls 1 [(0, .ref (ad o))] := hl
  rw [f_X1_change] at h
  refine lv_aload_n hx hb dX1_change_0 rfl (lv_at hl 0 rfl) ?_
  refine lv_dup hx hb dX1_change_1 rfl ?_
  obtain ⟨hk1, h⟩ := gk h
  refine vgI hx hb hts hi1 hown hK hP (o) (s318 hk1.1) hk1.2 (C := RX1) (T := TX1) (N := 9) rfl 2 (by decide) (by decide) (by decide) (by decide) (hts (.fieldLink RX1 18 "CrateHelpers$Problem" "changes" "I") (by decide +kernel)) (fun _ h9 => h9) dX1_change_2 ?_
  refine lv_iconst (v := 1) hx hb dX1_change_5 (by decide) ?_
  refine lv_iadd hx hb dX1_change_6 ?_
  refine vpI (v := ((I o 2) + 1)) (ty := .int) hx hb hts hi1 tyX1 tyX1_ok nmX1 hown hK hP hap hS (o) (s318 hk1.1) hk1.2 (C := RX1) (T := TX1) (N := 9) rfl 2 (by decide) (by decide) (by decide) (by decide) (hts (.fieldLink RX1 18 "CrateHelpers$Problem" "changes" "I") (by decide +kernel)) (fun _ h9 => h9) rfl (by decide +kernel) rfl rfl dX1_change_7 (fun H locs hP hS => ?_)
  obtain ⟨I2, eI2, h⟩ := bd_e h
  rw [← eI2] at hP
  have hP : va_P D vwCl (VW K ad I2 G A L) H := hP
  refine lv_aload_n hx hb dX1_change_10 rfl (lv_at hl 0 rfl) ?_
  refine lv_iconst (v := 0) hx hb dX1_change_11 (by decide) ?_
  refine vpI (v := 0) (ty := .boolean) hx hb hts hi1 tyX1 tyX1_ok nmX1 hown hK hP hap hS (o) (s318 hk1.1) hk1.2 (C := RX1) (T := TX1) (N := 9) rfl 3 (by decide) (by decide) (by decide) (by decide) (hts (.fieldLink RX1 21 "CrateHelpers$Problem" "hasEnded" "Z") (by decide +kernel)) (fun _ h9 => h9) rfl (by decide +kernel) rfl rfl dX1_change_12 (fun H locs hP hS => ?_)
  obtain ⟨I3, eI3, h⟩ := bd_e h
  rw [← eI3] at hP
  have hP : va_P D vwCl (VW K ad I3 G A L) H := hP
  exact W.vret hx hb hr (fun t9 ht9 hW9 => ⟨⟨(I3, G, A, L), rfl, by cases h; rfl, by rw [ht9]; exact hP, va_K.moved hW9.alike hK⟩, hS.F ht9⟩) hS.2.2 dX1_change_15

/-! part 53.c01 -/
set_option maxHeartbeats 4000000 in
set_option maxRecDepth 100000 in
theorem e_X1_setCost (l : Launch) (D : va_G) (K : Nat → ClassId) (ad : Nat → Nat) (hap0 : apart ad (fun _ => True)) (o : Nat) (a1 : Int32) (a2 : Int32) (a3 : Int32) (I : Nat → Nat → Int32) (G : Nat → Nat → Nat) (A : Nat → Nat → Int32) (L : Nat → Nat → Int64) (r0 : Int32) (I0 : Nat → Nat → Int32) (A0 : Nat → Nat → Int32) (h : f_X1_setCost I A o a1 a2 a3 = some (r0, I0, A0)) : Ci l D K ad yX1_setCost wsX1_setCost 1 23 [.ref (ad o), .int a1, .int a2, .int a3] (I, G, A, L) (fun (r : Int32) (u : Mem) => r = r0 ∧ u = (I0, G, A0, L)) := by
  intro sz
  refine Met.ofW (cc := cX1_setCost) (maxL := 5) (ret := (some .int)) (by decide) rfl ?_
  intro p e s m args below meth c s₁ Bd hml hv0
  obtain ⟨rfl, hsz, hP, hK⟩ := hv0
  have hx := Bd.exec
  have hb := Bd.bytes
  have hr := Bd.returns
  have hts := atoms_spec (ws := wsX1_setCost) Bd.pre
  have hown : s.vm.findClass RX1 = some m.cls := findClass_of_methodNamed Bd.named
  have hlocks := Bd.notSynchronized
  have hi1 : ∀ w ∈ u_ws RX1 TX1 9, w ∈ wsX1_setCost := fun w h => List.mem_cons_of_mem _ (List.mem_append_right _ h)
  subst hsz
  have hap := vF_ap hap0 s.heap.size
  have hS : va_S (vF ad s.heap.size) s.heap s.heap [] := va_S.rf
  have hP : va_P D vwCl (VW K ad I G A L) s.heap := hP
  have hl := lv_entry ([.ref (ad o), .int a1, .int a2, .int a3]) (n := 5) (Nat.le_of_ble_eq_true rfl)
  rw [lg_entry_eq]
  generalize (lg_sl ([.ref (ad o), .int a1, .int a2, .int a3]) ++ List.replicate (5 - (lg_sl ([.ref (ad o), .int a1, .int a2, .int a3])).length) Slot.unset).toArray = ls at hl ⊢
  have hl : lv_has ls 5 [(0, .ref (ad o)), (1, .int a1), (2, .int a2), (3, .int a3)] := hl
  rw [f_X1_setCost] at h
  refine lv_aload_n hx hb dX1_setCost_0 rfl (lv_at hl 0 rfl) ?_
  obtain ⟨hk1, h⟩ := gk h
  obtain ⟨I2, hc3, h⟩ := Option.bind_eq_some_iff.mp h
  refine ecVv (As := []) (rest := []) ⟨hx, hb, hml, hown, hts⟩ (e_X1_change l D K ad hap0 o I G A L I2 hc3) (cwV 0 hts gX1_setCost_X1_change rfl rfl rfl (by decide +kernel) ⟨Nat.le_of_ble_eq_true rfl, Nat.le_of_ble_eq_true rfl⟩) hK hP hS (s318 hk1.1) hk1.2 (by decide) rfl rfl rfl hl.1 (Nat.le_of_ble_eq_true rfl) (Nat.le_of_ble_eq_true rfl) (Nat.le_of_ble_eq_true rfl) dX1_setCost_1 (fun H locs hP hS => ?_) rfl
  have hP : va_P D vwCl (VW K ad I2 G A L) H := hP
  refine lv_iload_n hx hb dX1_setCost_4 rfl (lv_at hl 3 rfl) ?_
  refine lv_istore (lv' := [(4, .int a3), (0, .ref (ad o)), (1, .int a1), (2, .int a2), (3, .int a3)]) hx hb dX1_setCost_5 hl (by decide) rfl (fun ls hl => ?_)
  refine lv_aload_n hx hb dX1_setCost_7 rfl (lv_at hl 1 rfl) ?_
  refine vgS hx hb hts hi1 hown hK hP (o) (s318 hk1.1) hk1.2 (C := RX1) (T := TX1) (N := 9) rfl 5 (by decide) (by decide) (by decide) (by decide) (o + 2) rfl (hts (.fieldLink RX1 29 "CrateHelpers$Problem" "kinds" "[I") (by decide +kernel)) (fun _ h9 => h9) dX1_setCost_8 ?_
  refine lv_iload_n hx hb dX1_setCost_11 rfl (lv_at hl 2 rfl) ?_
  obtain ⟨hk4, h⟩ := gk h
  obtain ⟨hn5, h⟩ := gk h
  refine xiald hx hb hK hP (o + 2) (s318 hk4.1) hk4.2 hn5 dX1_setCost_12 ?_
  rcases sw_2 (A (o + 2) a1.toNatClampNeg) with hs6 | hs6 | hs6 | hs6
  · have h := ip hs6 h
    refine W_top hs6 ?_
    refine lv_tableIn (off := 27) (tgt := 40) hx hb dX1_setCost_13 (by decide) (by decide) (by decide) (by decide) ?_
    refine lv_iload_n hx hb dX1_setCost_40 rfl (lv_at hl 4 rfl) ?_
    refine lv_i2b hx hb dX1_setCost_41 rfl ?_
    refine lv_istore (lv' := [(4, .int a3.toInt8.toInt32), (0, .ref (ad o)), (1, .int a1), (2, .int a2), (3, .int a3)]) hx hb dX1_setCost_42 hl (by decide) rfl (fun ls hl => ?_)
    refine lv_goto (tgt := 61) hx hb dX1_setCost_44 (by decide) ?_
    refine lv_aload_n hx hb dX1_setCost_61 rfl (lv_at hl 1 rfl) ?_
    refine vgS hx hb hts hi1 hown hK hP (o) (s318 hk1.1) hk1.2 (C := RX1) (T := TX1) (N := 9) rfl 6 (by decide) (by decide) (by decide) (by decide) (o + 3) rfl (hts (.fieldLink RX1 34 "CrateHelpers$Problem" "prices" "[[I") (by decide +kernel)) (fun _ h9 => h9) dX1_setCost_62 ?_
    refine lv_iload_n hx hb dX1_setCost_65 rfl (lv_at hl 2 rfl) ?_
    obtain ⟨hk7, h⟩ := gk h
    obtain ⟨hn8, h⟩ := gk h
    refine xgald hx hb hK hP (o + 3) (s318 hk7.1) hk7.2 hn8 (o + 4 + a1.toNatClampNeg) (drf15 (hk7.2)) dX1_setCost_66 ?_
    refine lv_iload_n hx hb dX1_setCost_67 rfl (lv_at hl 3 rfl) ?_
    refine lv_iload hx hb dX1_setCost_68 (lv_at hl 0 rfl) ?_
    obtain ⟨hk9, h⟩ := gk h
    obtain ⟨hn10, h⟩ := gk h
    refine xiast hx hb hK hP hap hS (o + 4 + a1.toNatClampNeg) (s318 hk9.1) hk9.2 hn10 dX1_setCost_70 (fun H locs hP hS => ?_)
    obtain ⟨A11, eA11, h⟩ := bd_e h
    rw [← eA11] at hP
    have hP : va_P D vwCl (VW K ad I2 G A11 L) H := hP
    refine lv_iload hx hb dX1_setCost_71 (lv_at hl 0 rfl) ?_
    exact W.iret (v := a3.toInt8.toInt32) hx hb hr (fun t9 ht9 hW9 => ⟨⟨a3.toInt8.toInt32, (I2, G, A11, L), rfl, by cases h; exact ⟨rfl, rfl⟩, by rw [ht9]; exact hP, va_K.moved hW9.alike hK⟩, hS.F ht9⟩) hS.2.2 dX1_setCost_73
  · have h := iN (by rw [hs6]; decide) h
    have h := ip hs6 h
    refine W_top hs6 ?_
    refine lv_tableIn (off := 34) (tgt := 47) hx hb dX1_setCost_13 (by decide) (by decide) (by decide) (by decide) ?_
    refine lv_iload_n hx hb dX1_setCost_47 rfl (lv_at hl 4 rfl) ?_
    refine lv_i2s hx hb dX1_setCost_48 rfl ?_
    refine lv_istore (lv' := [(4, .int a3.toInt16.toInt32), (0, .ref (ad o)), (1, .int a1), (2, .int a2), (3, .int a3)]) hx hb dX1_setCost_49 hl (by decide) rfl (fun ls hl => ?_)
    refine lv_goto (tgt := 61) hx hb dX1_setCost_51 (by decide) ?_
    refine lv_aload_n hx hb dX1_setCost_61 rfl (lv_at hl 1 rfl) ?_
    refine vgS hx hb hts hi1 hown hK hP (o) (s318 hk1.1) hk1.2 (C := RX1) (T := TX1) (N := 9) rfl 6 (by decide) (by decide) (by decide) (by decide) (o + 3) rfl (hts (.fieldLink RX1 34 "CrateHelpers$Problem" "prices" "[[I") (by decide +kernel)) (fun _ h9 => h9) dX1_setCost_62 ?_
    refine lv_iload_n hx hb dX1_setCost_65 rfl (lv_at hl 2 rfl) ?_
    obtain ⟨hk12, h⟩ := gk h
    obtain ⟨hn13, h⟩ := gk h
    refine xgald hx hb hK hP (o + 3) (s318 hk12.1) hk12.2 hn13 (o + 4 + a1.toNatClampNeg) (drf15 (hk12.2)) dX1_setCost_66 ?_
    refine lv_iload_n hx hb dX1_setCost_67 rfl (lv_at hl 3 rfl) ?_
    refine lv_iload hx hb dX1_setCost_68 (lv_at hl 0 rfl) ?_
    obtain ⟨hk14, h⟩ := gk h
    obtain ⟨hn15, h⟩ := gk h
    refine xiast hx hb hK hP hap hS (o + 4 + a1.toNatClampNeg) (s318 hk14.1) hk14.2 hn15 dX1_setCost_70 (fun H locs hP hS => ?_)
    obtain ⟨A16, eA16, h⟩ := bd_e h
    rw [← eA16] at hP
    have hP : va_P D vwCl (VW K ad I2 G A16 L) H := hP
    refine lv_iload hx hb dX1_setCost_71 (lv_at hl 0 rfl) ?_
    exact W.iret (v := a3.toInt16.toInt32) hx hb hr (fun t9 ht9 hW9 => ⟨⟨a3.toInt16.toInt32, (I2, G, A16, L), rfl, by cases h; exact ⟨rfl, rfl⟩, by rw [ht9]; exact hP, va_K.moved hW9.alike hK⟩, hS.F ht9⟩) hS.2.2 dX1_setCost_73
  · have h := iN (by rw [hs6]; decide) h
    have h := iN (by rw [hs6]; decide) h
    have h := ip hs6 h
    refine W_top hs6 ?_
    refine lv_tableIn (off := 41) (tgt := 54) hx hb dX1_setCost_13 (by decide) (by decide) (by decide) (by decide) ?_
    refine lv_iload_n hx hb dX1_setCost_54 rfl (lv_at hl 4 rfl) ?_
    refine lv_i2c hx hb dX1_setCost_55 rfl ?_
    refine lv_istore (lv' := [(4, .int ((a3.toUInt32 % 65536).toInt32)), (0, .ref (ad o)), (1, .int a1), (2, .int a2), (3, .int a3)]) hx hb dX1_setCost_56 hl (by decide) rfl (fun ls hl => ?_)
    refine lv_goto (tgt := 61) hx hb dX1_setCost_58 (by decide) ?_
    refine lv_aload_n hx hb dX1_setCost_61 rfl (lv_at hl 1 rfl) ?_
    refine vgS hx hb hts hi1 hown hK hP (o) (s318 hk1.1) hk1.2 (C := RX1) (T := TX1) (N := 9) rfl 6 (by decide) (by decide) (by decide) (by decide) (o + 3) rfl (hts (.fieldLink RX1 34 "CrateHelpers$Problem" "prices" "[[I") (by decide +kernel)) (fun _ h9 => h9) dX1_setCost_62 ?_
    refine lv_iload_n hx hb dX1_setCost_65 rfl (lv_at hl 2 rfl) ?_
    obtain ⟨hk17, h⟩ := gk h
    obtain ⟨hn18, h⟩ := gk h
    refine xgald hx hb hK hP (o + 3) (s318 hk17.1) hk17.2 hn18 (o + 4 + a1.toNatClampNeg) (drf15 (hk17.2)) dX1_setCost_66 ?_
    refine lv_iload_n hx hb dX1_setCost_67 rfl (lv_at hl 3 rfl) ?_
    refine lv_iload hx hb dX1_setCost_68 (lv_at hl 0 rfl) ?_
    obtain ⟨hk19, h⟩ := gk h
    obtain ⟨hn20, h⟩ := gk h
    refine xiast hx hb hK hP hap hS (o + 4 + a1.toNatClampNeg) (s318 hk19.1) hk19.2 hn20 dX1_setCost_70 (fun H locs hP hS => ?_)
    obtain ⟨A21, eA21, h⟩ := bd_e h
    rw [← eA21] at hP
    have hP : va_P D vwCl (VW K ad I2 G A21 L) H := hP
    refine lv_iload hx hb dX1_setCost_71 (lv_at hl 0 rfl) ?_
    exact W.iret (v := ((a3.toUInt32 % 65536).toInt32)) hx hb hr (fun t9 ht9 hW9 => ⟨⟨((a3.toUInt32 % 65536).toInt32), (I2, G, A21, L), rfl, by cases h; exact ⟨rfl, rfl⟩, by rw [ht9]; exact hP, va_K.moved hW9.alike hK⟩, hS.F ht9⟩) hS.2.2 dX1_setCost_73
  · have h := iN (fun q => by rw [q] at hs6; exact absurd hs6 (by decide)) h
    have h := iN (fun q => by rw [q] at hs6; exact absurd hs6 (by decide)) h
    have h := iN (fun q => by rw [q] at hs6; exact absurd hs6 (by decide)) h
    refine lv_tableOut (tgt := 61) hx hb dX1_setCost_13 hs6 (by decide) ?_
    refine lv_aload_n hx hb dX1_setCost_61 rfl (lv_at hl 1 rfl) ?_
    refine vgS hx hb hts hi1 hown hK hP (o) (s318 hk1.1) hk1.2 (C := RX1) (T := TX1) (N := 9) rfl 6 (by decide) (by decide) (by decide) (by decide) (o + 3) rfl (hts (.fieldLink RX1 34 "CrateHelpers$Problem" "prices" "[[I") (by decide +kernel)) (fun _ h9 => h9) dX1_setCost_62 ?_
    refine lv_iload_n hx hb dX1_setCost_65 rfl (lv_at hl 2 rfl) ?_
    obtain ⟨hk22, h⟩ := gk h
    obtain ⟨hn23, h⟩ := gk h
    refine xgald hx hb hK hP (o + 3) (s318 hk22.1) hk22.2 hn23 (o + 4 + a1.toNatClampNeg) (drf15 (hk22.2)) dX1_setCost_66 ?_
    refine lv_iload_n hx hb dX1_setCost_67 rfl (lv_at hl 3 rfl) ?_
    refine lv_iload hx hb dX1_setCost_68 (lv_at hl 0 rfl) ?_
    obtain ⟨hk24, h⟩ := gk h
    obtain ⟨hn25, h⟩ := gk h
    refine xiast hx hb hK hP hap hS (o + 4 + a1.toNatClampNeg) (s318 hk24.1) hk24.2 hn25 dX1_setCost_70 (fun H locs hP hS => ?_)
    obtain ⟨A26, eA26, h⟩ := bd_e h
    rw [← eA26] at hP
    have hP : va_P D vwCl (VW K ad I2 G A26 L) H := hP
    refine lv_iload hx hb dX1_setCost_71 (lv_at hl 0 rfl) ?_
    exact W.iret (v := a3) hx hb hr (fun t9 ht9 hW9 => ⟨⟨a3, (I2, G, A26, L), rfl, by cases h; exact ⟨rfl, rfl⟩, by rw [ht9]; exact hP, va_K.moved hW9.alike hK⟩, hS.F ht9⟩) hS.2.2 dX1_setCost_73
set_option maxHeartbeats 4000000 in
set_option maxRecDepth 100000 in
theorem e_X6_cost (l : Launch) (D : va_G) (K : Nat → ClassId) (ad : Nat → Nat) (hap0 : apart ad (fun _ => True)) (a1 : Int32) (a2 : Int32) (a3 : Int32) (a4 : Int32) (I : Nat → Nat → Int32) (G : Nat → Nat → Nat) (A : Nat → Nat → Int32) (L : Nat → Nat → Int64) (r0 : Int32) (I0 : Nat → Nat → Int32) (A0 : Nat → Nat → Int32) (h : f_X6_cost I A a1 a2 a3 a4 = some (r0, I0, A0)) : Ci l D K ad yX6_cost wsX6_cost 2 50 [.ref (ad 0), .int a1, .int a2, .int a3, .int a4] (I, G, A, L) (fun (r : Int32) (u : Mem) => r = r0 ∧ u = (I0, G, A0, L)) := by
  intro sz
  refine Met.ofW (cc := cX6_cost) (maxL := 5) (ret := (some .int)) (by decide) rfl ?_
  intro p e s m args below meth c s₁ Bd hml hv0
  obtain ⟨rfl, hsz, hP, hK⟩ := hv0
  have hx := Bd.exec
  have hb := Bd.bytes
  have hr := Bd.returns
  have hts := atoms_spec (ws := wsX6_cost) Bd.pre
  have hown : s.vm.findClass RX6 = some m.cls := findClass_of_methodNamed Bd.named
  have hlocks := Bd.notSynchronized
  have hi6 : ∀ w ∈ u_ws RX6 TX6 18, w ∈ wsX6_cost := fun w h => List.mem_cons_of_mem _ (List.mem_append_left _ (List.mem_append_right _ h))
  have hi1 : ∀ w ∈ u_ws RX1 TX1 9, w ∈ wsX6_cost := fun w h => List.mem_cons_of_mem _ (List.mem_append_right _ h)
  subst hsz
  have hap := vF_ap hap0 s.heap.size
  have hS : va_S (vF ad s.heap.size) s.heap s.heap [] := va_S.rf
  have hP : va_P D vwCl (VW K ad I G A L) s.heap := hP
  have hl := lv_entry ([.ref (ad 0), .int a1, .int a2, .int a3, .int a4]) (n := 5) (Nat.le_of_ble_eq_true rfl)
  rw [lg_entry_eq]
  generalize (lg_sl ([.ref (ad 0), .int a1, .int a2, .int a3, .int a4]) ++ List.replicate (5 - (lg_sl ([.ref (ad 0), .int a1, .int a2, .int a3, .int a4])).length) Slot.unset).toArray = ls at hl ⊢
  have hl : lv_has ls 5 [(0, .ref (ad 0)), (1, .int a1), (2, .int a2), (3, .int a3), (4, .int a4)] := hl
  rw [f_X6_cost] at h
  refine lv_aload_n hx hb dX6_cost_0 rfl (lv_at hl 0 rfl) ?_
  refine lv_iload_n hx hb dX6_cost_1 rfl (lv_at hl 1 rfl) ?_
  obtain ⟨r1, hc2, h⟩ := Option.bind_eq_some_iff.mp h
  refine ecV (As := [.int a1]) (rest := []) ⟨hx, hb, hml, hown, hts⟩ (e_X6_isProblem l D K ad hap0 a1 I G A L r1 hc2) (cwV 1 hts gX6_cost_X6_isProblem rfl rfl rfl (by decide +kernel) ⟨Nat.le_of_ble_eq_true rfl, Nat.le_of_ble_eq_true rfl⟩) hK hP hS (by decide) (show kd 0 = 6 by decide) (by decide) rfl rfl rfl hl.1 (Nat.le_of_ble_eq_true rfl) (Nat.le_of_ble_eq_true rfl) (Nat.le_of_ble_eq_true rfl) dX6_cost_2 (fun H locs hP hS => ?_) rfl
  have hP : va_P D vwCl (VW K ad I G A L) H := hP
  refine lv_if_eq (tgt := 34) hx hb dX6_cost_5 (by decide) (fun c_3 => ?_) (fun c_3 => ?_)
  · have h := ip c_3 h
    refine lv_aload_n hx hb dX6_cost_34 rfl (lv_at hl 0 rfl) ?_
    refine lv_iconst (v := (-1)) hx hb dX6_cost_35 (by decide) ?_
    obtain ⟨⟨r4, I5⟩, hc6, h⟩ := Option.bind_eq_some_iff.mp h
    refine ecV (As := [.int (-1)]) (rest := []) ⟨hx, hb, hml, hown, hts⟩ (e_X6_refuse l D K ad hap0 (-1) I G A L r4 I5 hc6) (cwV 1 hts gX6_cost_X6_refuse rfl rfl rfl (by decide +kernel) ⟨Nat.le_of_ble_eq_true rfl, Nat.le_of_ble_eq_true rfl⟩) hK hP hS (by decide) (show kd 0 = 6 by decide) (by decide) rfl rfl rfl hl.1 (Nat.le_of_ble_eq_true rfl) (Nat.le_of_ble_eq_true rfl) (Nat.le_of_ble_eq_true rfl) dX6_cost_36 (fun H locs hP hS => ?_) rfl
    have hP : va_P D vwCl (VW K ad I5 G A L) H := hP
    exact W.iret (v := r4) hx hb hr (fun t9 ht9 hW9 => ⟨⟨r4, (I5, G, A, L), rfl, by cases h; exact ⟨rfl, rfl⟩, by rw [ht9]; exact hP, va_K.moved hW9.alike hK⟩, hS.F ht9⟩) hS.2.2 dX6_cost_39
  · have h := iN c_3 h
    refine lv_aload_n hx hb dX6_cost_8 rfl (lv_at hl 0 rfl) ?_
    refine vgC hx hb hts hi6 hown hK hP (0) (by decide) (show kd 0 = 6 by decide) (C := RX6) (T := TX6) (N := 18) rfl 0 (by decide) (by decide) (by decide) (by decide) (1) rfl (hts (.fieldLink RX6 11 "CrateHelpers" "problems" "[LCrateHelpers$Problem;") (by decide +kernel)) (fun _ h9 => h9) dX6_cost_9 ?_
    refine lv_iload_n hx hb dX6_cost_12 rfl (lv_at hl 1 rfl) ?_
    obtain ⟨hn7, h⟩ := gk h
    refine xaald hx hb hK hP (1) (by decide) 5 13 (show kd 1 = 13 by decide) (by decide) rfl (by rw [show ln 1 = 5 by decide]; exact hn7) (58 + 52 * a1.toNatClampNeg) (drf13 ((show kd 1 = 13 by decide))) dX6_cost_13 ?_
    refine lv_iload_n hx hb dX6_cost_14 rfl (lv_at hl 2 rfl) ?_
    refine lv_iload_n hx hb dX6_cost_15 rfl (lv_at hl 3 rfl) ?_
    obtain ⟨hk8, h⟩ := gk h
    obtain ⟨r9, hc10, h⟩ := Option.bind_eq_some_iff.mp h
    refine ecV (As := [.int a2, .int a3]) (rest := []) ⟨hx, hb, hml, hown, hts⟩ (e_X1_hasValue l D K ad hap0 (58 + 52 * a1.toNatClampNeg) a2 a3 I G A L r9 hc10) (cwV 2 hts gX6_cost_X1_hasValue rfl rfl rfl (by decide +kernel) ⟨Nat.le_of_ble_eq_true rfl, Nat.le_of_ble_eq_true rfl⟩) hK hP hS (s318 hk8.1) hk8.2 (by decide) rfl rfl rfl hl.1 (Nat.le_of_ble_eq_true rfl) (Nat.le_of_ble_eq_true rfl) (Nat.le_of_ble_eq_true rfl) dX6_cost_16 (fun H locs hP hS => ?_) rfl
    have hP : va_P D vwCl (VW K ad I G A L) H := hP
    refine lv_if_eq (tgt := 34) hx hb dX6_cost_19 (by decide) (fun c_11 => ?_) (fun c_11 => ?_)
    · have h := ip c_11 h
      refine lv_aload_n hx hb dX6_cost_34 rfl (lv_at hl 0 rfl) ?_
      refine lv_iconst (v := (-1)) hx hb dX6_cost_35 (by decide) ?_
      obtain ⟨⟨r12, I13⟩, hc14, h⟩ := Option.bind_eq_some_iff.mp h
      refine ecV (As := [.int (-1)]) (rest := []) ⟨hx, hb, hml, hown, hts⟩ (e_X6_refuse l D K ad hap0 (-1) I G A L r12 I13 hc14) (cwV 1 hts gX6_cost_X6_refuse rfl rfl rfl (by decide +kernel) ⟨Nat.le_of_ble_eq_true rfl, Nat.le_of_ble_eq_true rfl⟩) hK hP hS (by decide) (show kd 0 = 6 by decide) (by decide) rfl rfl rfl hl.1 (Nat.le_of_ble_eq_true rfl) (Nat.le_of_ble_eq_true rfl) (Nat.le_of_ble_eq_true rfl) dX6_cost_36 (fun H locs hP hS => ?_) rfl
      have hP : va_P D vwCl (VW K ad I13 G A L) H := hP
      exact W.iret (v := r12) hx hb hr (fun t9 ht9 hW9 => ⟨⟨r12, (I13, G, A, L), rfl, by cases h; exact ⟨rfl, rfl⟩, by rw [ht9]; exact hP, va_K.moved hW9.alike hK⟩, hS.F ht9⟩) hS.2.2 dX6_cost_39
    · have h := iN c_11 h
      refine lv_iload hx hb dX6_cost_22 (lv_at hl 4 rfl) ?_
      refine lv_ldc (v := (-100000)) hx hb hown (hts (.constant RX6 114 (-100000)) (by decide +kernel)) dX6_cost_24 ?_
      refine lv_ldc (v := 100000) hx hb hown (hts (.constant RX6 115 100000) (by decide +kernel)) dX6_cost_26 ?_
      obtain ⟨r15, hc16, h⟩ := Option.bind_eq_some_iff.mp h
      refine ecS (As := [.int a4, .int (-100000), .int 100000]) (rest := []) ⟨hx, hb, hml, hown, hts⟩ (e_X6_isWithin l D K ad hap0 a4 (-100000) 100000 I G A L r15 hc16) (va_cwS 3 hts gX6_cost_X6_isWithin rfl rfl rfl (by decide +kernel) ⟨Nat.le_of_ble_eq_true rfl, Nat.le_of_ble_eq_true rfl⟩) hK hP hS rfl hl.1 (Nat.le_of_ble_eq_true rfl) (Nat.le_of_ble_eq_true rfl) (Nat.le_of_ble_eq_true rfl) dX6_cost_28 (fun H locs hP hS => ?_) rfl
      have hP : va_P D vwCl (VW K ad I G A L) H := hP
      refine lv_if_ne (tgt := 40) hx hb dX6_cost_31 (by decide) (fun c_17 => ?_) (fun c_17 => ?_)
      · have h := iN c_17 h
        refine lv_aload_n hx hb dX6_cost_40 rfl (lv_at hl 0 rfl) ?_
        refine vgI hx hb hts hi6 hown hK hP (0) (by decide) (show kd 0 = 6 by decide) (C := RX6) (T := TX6) (N := 18) rfl 5 (by decide) (by decide) (by decide) (by decide) (hts (.fieldLink RX6 29 "CrateHelpers" "underWay" "I") (by decide +kernel)) (fun _ h9 => h9) dX6_cost_41 ?_
        refine lv_bipush (v := (-9)) hx hb dX6_cost_44 (by decide) ?_
        refine lv_icmp_eq (tgt := 56) hx hb dX6_cost_46 (by decide) (fun c_18 => ?_) (fun c_18 => ?_)
        · have h := ip c_18 h
          refine lv_aload_n hx hb dX6_cost_56 rfl (lv_at hl 0 rfl) ?_
          refine lv_aload_n hx hb dX6_cost_57 rfl (lv_at hl 0 rfl) ?_
          refine vgC hx hb hts hi6 hown hK hP (0) (by decide) (show kd 0 = 6 by decide) (C := RX6) (T := TX6) (N := 18) rfl 0 (by decide) (by decide) (by decide) (by decide) (1) rfl (hts (.fieldLink RX6 11 "CrateHelpers" "problems" "[LCrateHelpers$Problem;") (by decide +kernel)) (fun _ h9 => h9) dX6_cost_58 ?_
          refine lv_iload_n hx hb dX6_cost_61 rfl (lv_at hl 1 rfl) ?_
          refine xaald hx hb hK hP (1) (by decide) 5 13 (show kd 1 = 13 by decide) (by decide) rfl (by rw [show ln 1 = 5 by decide]; exact hn7) (58 + 52 * a1.toNatClampNeg) (drf13 ((show kd 1 = 13 by decide))) dX6_cost_62 ?_
          refine lv_iload_n hx hb dX6_cost_63 rfl (lv_at hl 2 rfl) ?_
          refine lv_iload_n hx hb dX6_cost_64 rfl (lv_at hl 3 rfl) ?_
          refine lv_iload hx hb dX6_cost_65 (lv_at hl 4 rfl) ?_
          obtain ⟨⟨r19, I20, A21⟩, hc22, h⟩ := Option.bind_eq_some_iff.mp h
          refine ecV (As := [.int a2, .int a3, .int a4]) (rest := [.ref (ad 0)]) ⟨hx, hb, hml, hown, hts⟩ (e_X1_setCost l D K ad hap0 (58 + 52 * a1.toNatClampNeg) a2 a3 a4 I G A L r19 I20 A21 hc22) (cwV 3 hts gX6_cost_X1_setCost rfl rfl rfl (by decide +kernel) ⟨Nat.le_of_ble_eq_true rfl, Nat.le_of_ble_eq_true rfl⟩) hK hP hS (s318 hk8.1) hk8.2 (by decide) rfl rfl rfl hl.1 (Nat.le_of_ble_eq_true rfl) (Nat.le_of_ble_eq_true rfl) (Nat.le_of_ble_eq_true rfl) dX6_cost_67 (fun H locs hP hS => ?_) rfl
          have hP : va_P D vwCl (VW K ad I20 G A21 L) H := hP
          obtain ⟨⟨r23, I24⟩, hc25, h⟩ := Option.bind_eq_some_iff.mp h
          refine ecV (As := [.int r19]) (rest := []) ⟨hx, hb, hml, hown, hts⟩ (e_X6_grant l D K ad hap0 r19 I20 G A21 L r23 I24 hc25) (cwV 1 hts gX6_cost_X6_grant rfl rfl rfl (by decide +kernel) ⟨Nat.le_of_ble_eq_true rfl, Nat.le_of_ble_eq_true rfl⟩) hK hP hS (by decide) (show kd 0 = 6 by decide) (by decide) rfl rfl rfl hl.1 (Nat.le_of_ble_eq_true rfl) (Nat.le_of_ble_eq_true rfl) (Nat.le_of_ble_eq_true rfl) dX6_cost_70 (fun H locs hP hS => ?_) rfl
          have hP : va_P D vwCl (VW K ad I24 G A21 L) H := hP
          exact W.iret (v := r23) hx hb hr (fun t9 ht9 hW9 => ⟨⟨r23, (I24, G, A21, L), rfl, by cases h; exact ⟨rfl, rfl⟩, by rw [ht9]; exact hP, va_K.moved hW9.alike hK⟩, hS.F ht9⟩) hS.2.2 dX6_cost_73
        · have h := iN c_18 h
          refine lv_aload_n hx hb dX6_cost_49 rfl (lv_at hl 0 rfl) ?_
          refine lv_bipush (v := (-2)) hx hb dX6_cost_50 (by decide) ?_
          obtain ⟨⟨r26, I27⟩, hc28, h⟩ := Option.bind_eq_some_iff.mp h
          refine ecV (As := [.int (-2)]) (rest := []) ⟨hx, hb, hml, hown, hts⟩ (e_X6_refuse l D K ad hap0 (-2) I G A L r26 I27 hc28) (cwV 1 hts gX6_cost_X6_refuse rfl rfl rfl (by decide +kernel) ⟨Nat.le_of_ble_eq_true rfl, Nat.le_of_ble_eq_true rfl⟩) hK hP hS (by decide) (show kd 0 = 6 by decide) (by decide) rfl rfl rfl hl.1 (Nat.le_of_ble_eq_true rfl) (Nat.le_of_ble_eq_true rfl) (Nat.le_of_ble_eq_true rfl) dX6_cost_52 (fun H locs hP hS => ?_) rfl
          have hP : va_P D vwCl (VW K ad I27 G A L) H := hP
          exact W.iret (v := r26) hx hb hr (fun t9 ht9 hW9 => ⟨⟨r26, (I27, G, A, L), rfl, by cases h; exact ⟨rfl, rfl⟩, by rw [ht9]; exact hP, va_K.moved hW9.alike hK⟩, hS.F ht9⟩) hS.2.2 dX6_cost_55
      · have h := ip c_17 h
        refine lv_aload_n hx hb dX6_cost_34 rfl (lv_at hl 0 rfl) ?_
        refine lv_iconst (v := (-1)) hx hb dX6_cost_35 (by decide) ?_
        obtain ⟨⟨r29, I30⟩, hc31, h⟩ := Option.bind_eq_some_iff.mp h
        refine ecV (As := [.int (-1)]) (rest := []) ⟨hx, hb, hml, hown, hts⟩ (e_X6_refuse l D K ad hap0 (-1) I G A L r29 I30 hc31) (cwV 1 hts gX6_cost_X6_refuse rfl rfl rfl (by decide +kernel) ⟨Nat.le_of_ble_eq_true rfl, Nat.le_of_ble_eq_true rfl⟩) hK hP hS (by decide) (show kd 0 = 6 by decide) (by decide) rfl rfl rfl hl.1 (Nat.le_of_ble_eq_true rfl) (Nat.le_of_ble_eq_true rfl) (Nat.le_of_ble_eq_true rfl) dX6_cost_36 (fun H locs hP hS => ?_) rfl
        have hP : va_P D vwCl (VW K ad I30 G A L) H := hP
        exact W.iret (v := r29) hx hb hr (fun t9 ht9 hW9 => ⟨⟨r29, (I30, G, A, L), rfl, by cases h; exact ⟨rfl, rfl⟩, by rw [ht9]; exact hP, va_K.moved hW9.alike hK⟩, hS.F ht9⟩) hS.2.2 dX6_cost_39
set_option maxHeartbeats 4000000 in
set_option maxRecDepth 100000 in
theorem e_X6_costs (l : Launch) (D : va_G) (K : Nat → ClassId) (ad : Nat → Nat) (hap0 : apart ad (fun _ => True)) (a1 : Int32) (a2 : Int32) (a3 : Int32) (I : Nat → Nat → Int32) (G : Nat → Nat → Nat) (A : Nat → Nat → Int32) (L : Nat → Nat → Int64) (r0 : Int32) (I0 : Nat → Nat → Int32) (h : f_X6_costs I A a1 a2 a3 = some (r0, I0)) : Ci l D K ad yX6_costs wsX6_costs 2 49 [.ref (ad 0), .int a1, .int a2, .int a3] (I, G, A, L) (fun (r : Int32) (u : Mem) => r = r0 ∧ u = (I0, G, A, L)) := by
  intro sz
  refine Met.ofW (cc := cX6_costs) (maxL := 4) (ret := (some .int)) (by decide) rfl ?_
  intro p e s m args below meth c s₁ Bd hml hv0
  obtain ⟨rfl, hsz, hP, hK⟩ := hv0
  have hx := Bd.exec
  have hb := Bd.bytes
  have hr := Bd.returns
  have hts := atoms_spec (ws := wsX6_costs) Bd.pre
  have hown : s.vm.findClass RX6 = some m.cls := findClass_of_methodNamed Bd.named
  have hlocks := Bd.notSynchronized
  have hi6 : ∀ w ∈ u_ws RX6 TX6 18, w ∈ wsX6_costs := fun w h => List.mem_cons_of_mem _ (List.mem_append_left _ (List.mem_append_right _ h))
  have hi1 : ∀ w ∈ u_ws RX1 TX1 9, w ∈ wsX6_costs := fun w h => List.mem_cons_of_mem _ (List.mem_append_right _ h)
  subst hsz
  have hap := vF_ap hap0 s.heap.size
  have hS : va_S (vF ad s.heap.size) s.heap s.heap [] := va_S.rf
  have hP : va_P D vwCl (VW K ad I G A L) s.heap := hP
  have hl := lv_entry ([.ref (ad 0), .int a1, .int a2, .int a3]) (n := 4) (Nat.le_of_ble_eq_true rfl)
  rw [lg_entry_eq]
  generalize (lg_sl ([.ref (ad 0), .int a1, .int a2, .int a3]) ++ List.replicate (4 - (lg_sl ([.ref (ad 0), .int a1, .int a2, .int a3])).length) Slot.unset).toArray = ls at hl ⊢
  have hl : lv_has ls 4 [(0, .ref (ad 0)), (1, .int a1), (2, .int a2), (3, .int a3)] := hl
  rw [f_X6_costs] at h
  refine lv_aload_n hx hb dX6_costs_0 rfl (lv_at hl 0 rfl) ?_
  refine lv_iload_n hx hb dX6_costs_1 rfl (lv_at hl 1 rfl) ?_
  obtain ⟨r1, hc2, h⟩ := Option.bind_eq_some_iff.mp h
  refine ecV (As := [.int a1]) (rest := []) ⟨hx, hb, hml, hown, hts⟩ (e_X6_isProblem l D K ad hap0 a1 I G A L r1 hc2) (cwV 1 hts gX6_costs_X6_isProblem rfl rfl rfl (by decide +kernel) ⟨Nat.le_of_ble_eq_true rfl, Nat.le_of_ble_eq_true rfl⟩) hK hP hS (by decide) (show kd 0 = 6 by decide) (by decide) rfl rfl rfl hl.1 (Nat.le_of_ble_eq_true rfl) (Nat.le_of_ble_eq_true rfl) (Nat.le_of_ble_eq_true rfl) dX6_costs_2 (fun H locs hP hS => ?_) rfl
  have hP : va_P D vwCl (VW K ad I G A L) H := hP
  refine lv_if_eq (tgt := 22) hx hb dX6_costs_5 (by decide) (fun c_3 => ?_) (fun c_3 => ?_)
  · have h := ip c_3 h
    refine lv_aload_n hx hb dX6_costs_22 rfl (lv_at hl 0 rfl) ?_
    refine lv_iconst (v := (-1)) hx hb dX6_costs_23 (by decide) ?_
    obtain ⟨⟨r4, I5⟩, hc6, h⟩ := Option.bind_eq_some_iff.mp h
    refine ecV (As := [.int (-1)]) (rest := []) ⟨hx, hb, hml, hown, hts⟩ (e_X6_refuse l D K ad hap0 (-1) I G A L r4 I5 hc6) (cwV 1 hts gX6_costs_X6_refuse rfl rfl rfl (by decide +kernel) ⟨Nat.le_of_ble_eq_true rfl, Nat.le_of_ble_eq_true rfl⟩) hK hP hS (by decide) (show kd 0 = 6 by decide) (by decide) rfl rfl rfl hl.1 (Nat.le_of_ble_eq_true rfl) (Nat.le_of_ble_eq_true rfl) (Nat.le_of_ble_eq_true rfl) dX6_costs_24 (fun H locs hP hS => ?_) rfl
    have hP : va_P D vwCl (VW K ad I5 G A L) H := hP
    exact W.iret (v := r4) hx hb hr (fun t9 ht9 hW9 => ⟨⟨r4, (I5, G, A, L), rfl, by cases h; exact ⟨rfl, rfl⟩, by rw [ht9]; exact hP, va_K.moved hW9.alike hK⟩, hS.F ht9⟩) hS.2.2 dX6_costs_27
  · have h := iN c_3 h
    refine lv_aload_n hx hb dX6_costs_8 rfl (lv_at hl 0 rfl) ?_
    refine vgC hx hb hts hi6 hown hK hP (0) (by decide) (show kd 0 = 6 by decide) (C := RX6) (T := TX6) (N := 18) rfl 0 (by decide) (by decide) (by decide) (by decide) (1) rfl (hts (.fieldLink RX6 11 "CrateHelpers" "problems" "[LCrateHelpers$Problem;") (by decide +kernel)) (fun _ h9 => h9) dX6_costs_9 ?_
    refine lv_iload_n hx hb dX6_costs_12 rfl (lv_at hl 1 rfl) ?_
    obtain ⟨hn7, h⟩ := gk h
    refine xaald hx hb hK hP (1) (by decide) 5 13 (show kd 1 = 13 by decide) (by decide) rfl (by rw [show ln 1 = 5 by decide]; exact hn7) (58 + 52 * a1.toNatClampNeg) (drf13 ((show kd 1 = 13 by decide))) dX6_costs_13 ?_
    refine lv_iload_n hx hb dX6_costs_14 rfl (lv_at hl 2 rfl) ?_
    refine lv_iload_n hx hb dX6_costs_15 rfl (lv_at hl 3 rfl) ?_
    obtain ⟨hk8, h⟩ := gk h
    obtain ⟨r9, hc10, h⟩ := Option.bind_eq_some_iff.mp h
    refine ecV (As := [.int a2, .int a3]) (rest := []) ⟨hx, hb, hml, hown, hts⟩ (e_X1_hasValue l D K ad hap0 (58 + 52 * a1.toNatClampNeg) a2 a3 I G A L r9 hc10) (cwV 2 hts gX6_costs_X1_hasValue rfl rfl rfl (by decide +kernel) ⟨Nat.le_of_ble_eq_true rfl, Nat.le_of_ble_eq_true rfl⟩) hK hP hS (s318 hk8.1) hk8.2 (by decide) rfl rfl rfl hl.1 (Nat.le_of_ble_eq_true rfl) (Nat.le_of_ble_eq_true rfl) (Nat.le_of_ble_eq_true rfl) dX6_costs_16 (fun H locs hP hS => ?_) rfl
    have hP : va_P D vwCl (VW K ad I G A L) H := hP
    refine lv_if_ne (tgt := 28) hx hb dX6_costs_19 (by decide) (fun c_11 => ?_) (fun c_11 => ?_)
    · have h := iN c_11 h
      refine lv_aload_n hx hb dX6_costs_28 rfl (lv_at hl 0 rfl) ?_
      refine lv_aload_n hx hb dX6_costs_29 rfl (lv_at hl 0 rfl) ?_
      refine vgC hx hb hts hi6 hown hK hP (0) (by decide) (show kd 0 = 6 by decide) (C := RX6) (T := TX6) (N := 18) rfl 0 (by decide) (by decide) (by decide) (by decide) (1) rfl (hts (.fieldLink RX6 11 "CrateHelpers" "problems" "[LCrateHelpers$Problem;") (by decide +kernel)) (fun _ h9 => h9) dX6_costs_30 ?_
      refine lv_iload_n hx hb dX6_costs_33 rfl (lv_at hl 1 rfl) ?_
      refine xaald hx hb hK hP (1) (by decide) 5 13 (show kd 1 = 13 by decide) (by decide) rfl (by rw [show ln 1 = 5 by decide]; exact hn7) (58 + 52 * a1.toNatClampNeg) (drf13 ((show kd 1 = 13 by decide))) dX6_costs_34 ?_
      refine vgS hx hb hts hi1 hown hK hP (58 + 52 * a1.toNatClampNeg) (s318 hk8.1) hk8.2 (C := RX1) (T := TX1) (N := 9) rfl 6 (by decide) (by decide) (by decide) (by decide) (58 + 52 * a1.toNatClampNeg + 3) rfl (hts (.fieldLink RX6 308 "CrateHelpers$Problem" "prices" "[[I") (by decide +kernel)) (fun _ h9 => h9) dX6_costs_35 ?_
      refine lv_iload_n hx hb dX6_costs_38 rfl (lv_at hl 2 rfl) ?_
      obtain ⟨hk12, h⟩ := gk h
      obtain ⟨hn13, h⟩ := gk h
      refine xgald hx hb hK hP (58 + 52 * a1.toNatClampNeg + 3) (s318 hk12.1) hk12.2 hn13 (58 + 52 * a1.toNatClampNeg + 4 + a2.toNatClampNeg) (drf15 (hk12.2)) dX6_costs_39 ?_
      refine lv_iload_n hx hb dX6_costs_40 rfl (lv_at hl 3 rfl) ?_
      obtain ⟨hk14, h⟩ := gk h
      obtain ⟨hn15, h⟩ := gk h
      refine xiald hx hb hK hP (58 + 52 * a1.toNatClampNeg + 4 + a2.toNatClampNeg) (s318 hk14.1) hk14.2 hn15 dX6_costs_41 ?_
      obtain ⟨⟨r16, I17⟩, hc18, h⟩ := Option.bind_eq_some_iff.mp h
      refine ecV (As := [.int (A (58 + 52 * a1.toNatClampNeg + 4 + a2.toNatClampNeg) a3.toNatClampNeg)]) (rest := []) ⟨hx, hb, hml, hown, hts⟩ (e_X6_grant l D K ad hap0 (A (58 + 52 * a1.toNatClampNeg + 4 + a2.toNatClampNeg) a3.toNatClampNeg) I G A L r16 I17 hc18) (cwV 1 hts gX6_costs_X6_grant rfl rfl rfl (by decide +kernel) ⟨Nat.le_of_ble_eq_true rfl, Nat.le_of_ble_eq_true rfl⟩) hK hP hS (by decide) (show kd 0 = 6 by decide) (by decide) rfl rfl rfl hl.1 (Nat.le_of_ble_eq_true rfl) (Nat.le_of_ble_eq_true rfl) (Nat.le_of_ble_eq_true rfl) dX6_costs_42 (fun H locs hP hS => ?_) rfl
      have hP : va_P D vwCl (VW K ad I17 G A L) H := hP
      exact W.iret (v := r16) hx hb hr (fun t9 ht9 hW9 => ⟨⟨r16, (I17, G, A, L), rfl, by cases h; exact ⟨rfl, rfl⟩, by rw [ht9]; exact hP, va_K.moved hW9.alike hK⟩, hS.F ht9⟩) hS.2.2 dX6_costs_45
    · have h := ip c_11 h
      refine lv_aload_n hx hb dX6_costs_22 rfl (lv_at hl 0 rfl) ?_
      refine lv_iconst (v := (-1)) hx hb dX6_costs_23 (by decide) ?_
      obtain ⟨⟨r19, I20⟩, hc21, h⟩ := Option.bind_eq_some_iff.mp h
      refine ecV (As := [.int (-1)]) (rest := []) ⟨hx, hb, hml, hown, hts⟩ (e_X6_refuse l D K ad hap0 (-1) I G A L r19 I20 hc21) (cwV 1 hts gX6_costs_X6_refuse rfl rfl rfl (by decide +kernel) ⟨Nat.le_of_ble_eq_true rfl, Nat.le_of_ble_eq_true rfl⟩) hK hP hS (by decide) (show kd 0 = 6 by decide) (by decide) rfl rfl rfl hl.1 (Nat.le_of_ble_eq_true rfl) (Nat.le_of_ble_eq_true rfl) (Nat.le_of_ble_eq_true rfl) dX6_costs_24 (fun H locs hP hS => ?_) rfl
      have hP : va_P D vwCl (VW K ad I20 G A L) H := hP
      exact W.iret (v := r19) hx hb hr (fun t9 ht9 hW9 => ⟨⟨r19, (I20, G, A, L), rfl, by cases h; exact ⟨rfl, rfl⟩, by rw [ht9]; exact hP, va_K.moved hW9.alike hK⟩, hS.F ht9⟩) hS.2.2 dX6_costs_27
set_option maxHeartbeats 4000000 in
set_option maxRecDepth 100000 in
theorem e_X6_count (l : Launch) (D : va_G) (K : Nat → ClassId) (ad : Nat → Nat) (hap0 : apart ad (fun _ => True)) (a1 : Int32) (I : Nat → Nat → Int32) (G : Nat → Nat → Nat) (A : Nat → Nat → Int32) (L : Nat → Nat → Int64) (r0 : Int32) (h : f_X6_count I G a1 = some r0) : Ci l D K ad yX6_count wsX6_count 0 0 [.ref (ad 0), .int a1] (I, G, A, L) (fun (r : Int32) (u : Mem) => r = r0 ∧ u = (I, G, A, L)) := by
  intro sz
  refine Met.ofW (cc := cX6_count) (maxL := 3) (ret := (some .int)) (by decide) rfl ?_
  intro p e s m args below meth c s₁ Bd hml hv0
  obtain ⟨rfl, hsz, hP, hK⟩ := hv0
  have hx := Bd.exec
  have hb := Bd.bytes
  have hr := Bd.returns
  have hts := atoms_spec (ws := wsX6_count) Bd.pre
  have hown : s.vm.findClass RX6 = some m.cls := findClass_of_methodNamed Bd.named
  have hlocks := Bd.notSynchronized
  have hi6 : ∀ w ∈ u_ws RX6 TX6 18, w ∈ wsX6_count := fun w h => List.mem_cons_of_mem _ (List.mem_append_left _ (List.mem_append_left _ (List.mem_append_left _ (List.mem_append_right _ h))))
  have hi4 : ∀ w ∈ u_ws RX4 TX4 7, w ∈ wsX6_count := fun w h => List.mem_cons_of_mem _ (List.mem_append_left _ (List.mem_append_left _ (List.mem_append_right _ h)))
  have hi3 : ∀ w ∈ u_ws RX3 TX3 6, w ∈ wsX6_count := fun w h => List.mem_cons_of_mem _ (List.mem_append_left _ (List.mem_append_right _ h))
  have hi5 : ∀ w ∈ u_ws RX5 TX5 16, w ∈ wsX6_count := fun w h => List.mem_cons_of_mem _ (List.mem_append_right _ h)
  subst hsz
  have hap := vF_ap hap0 s.heap.size
  have hS : va_S (vF ad s.heap.size) s.heap s.heap [] := va_S.rf
  have hP : va_P D vwCl (VW K ad I G A L) s.heap := hP
  have hl := lv_entry ([.ref (ad 0), .int a1]) (n := 3) (Nat.le_of_ble_eq_true rfl)
  rw [lg_entry_eq]
  generalize (lg_sl ([.ref (ad 0), .int a1]) ++ List.replicate (3 - (lg_sl ([.ref (ad 0), .int a1])).length) Slot.unset).toArray = ls at hl ⊢
  have hl : lv_has ls 3 [(0, .ref (ad 0)), (1, .int a1)] := hl
  rw [f_X6_count] at h
  refine lv_aload_n hx hb dX6_count_0 rfl (lv_at hl 0 rfl) ?_
  refine vgI hx hb hts hi6 hown hK hP (0) (by decide) (show kd 0 = 6 by decide) (C := RX6) (T := TX6) (N := 18) rfl 5 (by decide) (by decide) (by decide) (by decide) (hts (.fieldLink RX6 29 "CrateHelpers" "underWay" "I") (by decide +kernel)) (fun _ h9 => h9) dX6_count_1 ?_
  refine lv_bipush (v := (-9)) hx hb dX6_count_4 (by decide) ?_
  obtain ⟨j2, ej2, h⟩ := bd_e h
  have kj2 : ∀ (z1 : Int32), j2 z1 = some r0 → ∀ (H : Heap) (locs : List Loc), va_P D vwCl (VW K ad I G A L) H → va_S (vF ad s.heap.size) s.heap H locs → ∀ (ls : Array Slot), lv_has ls 3 [(0, .ref (ad 0)), (1, .int a1)] → W p l e ({ frames := 0, cells := 0, slots := 0, locals := 0 }) s m ([.ref (ad 0), .int a1] : List Value).toArray below meth c H locs 0 0 (MQ below (va_Qi (fun (r : Int32) (u : Mem) => r = r0 ∧ u = (I, G, A, L)) (vB D K ad) (vF ad s.heap.size)) ([.ref (ad 0), .int a1] : List Value).toArray s 0 0 (vF ad s.heap.size)) (F0 m 14 ls [.int z1]) := by
    intro z1 h H locs hP hS ls hl
    subst ej2
    refine lv_istore_n (lv' := [(2, .int z1), (0, .ref (ad 0)), (1, .int a1)]) hx hb dX6_count_14 rfl hl (by decide) rfl (fun ls hl => ?_)
    refine lv_iload_n hx hb dX6_count_15 rfl (lv_at hl 2 rfl) ?_
    rcases sw_7 a1 with hs3 | hs3 | hs3 | hs3 | hs3 | hs3 | hs3 | hs3 | hs3
    · have h := ip hs3 h
      refine W_top hs3 ?_
      refine lv_tableIn (off := 48) (tgt := 64) hx hb dX6_count_16 (by decide) (by decide) (by decide) (by decide) ?_
      refine lv_aload_n hx hb dX6_count_64 rfl (lv_at hl 1 rfl) ?_
      refine vgI hx hb hts hi6 hown hK hP (0) (by decide) (show kd 0 = 6 by decide) (C := RX6) (T := TX6) (N := 18) rfl 1 (by decide) (by decide) (by decide) (by decide) (hts (.fieldLink RX6 15 "CrateHelpers" "problemCount" "I") (by decide +kernel)) (fun _ h9 => h9) dX6_count_65 ?_
      exact W.iret (v := (I 0 1)) hx hb hr (fun t9 ht9 hW9 => ⟨⟨(I 0 1), (I, G, A, L), rfl, by cases h; exact ⟨rfl, rfl⟩, by rw [ht9]; exact hP, va_K.moved hW9.alike hK⟩, hS.F ht9⟩) hS.2.2 dX6_count_68
    · have h := iN (by rw [hs3]; decide) h
      have h := ip hs3 h
      refine W_top hs3 ?_
      refine lv_tableIn (off := 53) (tgt := 69) hx hb dX6_count_16 (by decide) (by decide) (by decide) (by decide) ?_
      refine lv_aload_n hx hb dX6_count_69 rfl (lv_at hl 1 rfl) ?_
      refine vgI hx hb hts hi6 hown hK hP (0) (by decide) (show kd 0 = 6 by decide) (C := RX6) (T := TX6) (N := 18) rfl 3 (by decide) (by decide) (by decide) (by decide) (hts (.fieldLink RX6 26 "CrateHelpers" "nodeLimit" "I") (by decide +kernel)) (fun _ h9 => h9) dX6_count_70 ?_
      exact W.iret (v := (I 0 3)) hx hb hr (fun t9 ht9 hW9 => ⟨⟨(I 0 3), (I, G, A, L), rfl, by cases h; exact ⟨rfl, rfl⟩, by rw [ht9]; exact hP, va_K.moved hW9.alike hK⟩, hS.F ht9⟩) hS.2.2 dX6_count_73
    · have h := iN (by rw [hs3]; decide) h
      have h := iN (by rw [hs3]; decide) h
      have h := ip hs3 h
      refine W_top hs3 ?_
      refine lv_tableIn (off := 58) (tgt := 74) hx hb dX6_count_16 (by decide) (by decide) (by decide) (by decide) ?_
      refine lv_aload_n hx hb dX6_count_74 rfl (lv_at hl 1 rfl) ?_
      refine vgC hx hb hts hi6 hown hK hP (0) (by decide) (show kd 0 = 6 by decide) (C := RX6) (T := TX6) (N := 18) rfl 2 (by decide) (by decide) (by decide) (by decide) (2) rfl (hts (.fieldLink RX6 22 "CrateHelpers" "team" "LCrateHelpers$Team;") (by decide +kernel)) (fun _ h9 => h9) dX6_count_75 ?_
      refine vgI hx hb hts hi4 hown hK hP (2) (by decide) (show kd 2 = 4 by decide) (C := RX4) (T := TX4) (N := 7) rfl 0 (by decide) (by decide) (by decide) (by decide) (hts (.fieldLink RX6 158 "CrateHelpers$Team" "size" "I") (by decide +kernel)) (fun _ h9 => h9) dX6_count_78 ?_
      exact W.iret (v := (I 2 0)) hx hb hr (fun t9 ht9 hW9 => ⟨⟨(I 2 0), (I, G, A, L), rfl, by cases h; exact ⟨rfl, rfl⟩, by rw [ht9]; exact hP, va_K.moved hW9.alike hK⟩, hS.F ht9⟩) hS.2.2 dX6_count_81
    · have h := iN (by rw [hs3]; decide) h
      have h := iN (by rw [hs3]; decide) h
      have h := iN (by rw [hs3]; decide) h
      have h := ip hs3 h
      refine W_top hs3 ?_
      refine lv_tableIn (off := 66) (tgt := 82) hx hb dX6_count_16 (by decide) (by decide) (by decide) (by decide) ?_
      refine lv_aload_n hx hb dX6_count_82 rfl (lv_at hl 1 rfl) ?_
      refine vgC hx hb hts hi6 hown hK hP (0) (by decide) (show kd 0 = 6 by decide) (C := RX6) (T := TX6) (N := 18) rfl 2 (by decide) (by decide) (by decide) (by decide) (2) rfl (hts (.fieldLink RX6 22 "CrateHelpers" "team" "LCrateHelpers$Team;") (by decide +kernel)) (fun _ h9 => h9) dX6_count_83 ?_
      refine vgI hx hb hts hi4 hown hK hP (2) (by decide) (show kd 2 = 4 by decide) (C := RX4) (T := TX4) (N := 7) rfl 1 (by decide) (by decide) (by decide) (by decide) (hts (.fieldLink RX6 168 "CrateHelpers$Team" "scheduled" "I") (by decide +kernel)) (fun _ h9 => h9) dX6_count_86 ?_
      exact W.iret (v := (I 2 1)) hx hb hr (fun t9 ht9 hW9 => ⟨⟨(I 2 1), (I, G, A, L), rfl, by cases h; exact ⟨rfl, rfl⟩, by rw [ht9]; exact hP, va_K.moved hW9.alike hK⟩, hS.F ht9⟩) hS.2.2 dX6_count_89
    · have h := iN (by rw [hs3]; decide) h
      have h := iN (by rw [hs3]; decide) h
      have h := iN (by rw [hs3]; decide) h
      have h := iN (by rw [hs3]; decide) h
      have h := ip hs3 h
      refine W_top hs3 ?_
      refine lv_tableIn (off := 74) (tgt := 90) hx hb dX6_count_16 (by decide) (by decide) (by decide) (by decide) ?_
      refine lv_aload_n hx hb dX6_count_90 rfl (lv_at hl 1 rfl) ?_
      refine vgI hx hb hts hi6 hown hK hP (0) (by decide) (show kd 0 = 6 by decide) (C := RX6) (T := TX6) (N := 18) rfl 5 (by decide) (by decide) (by decide) (by decide) (hts (.fieldLink RX6 29 "CrateHelpers" "underWay" "I") (by decide +kernel)) (fun _ h9 => h9) dX6_count_91 ?_
      exact W.iret (v := (I 0 5)) hx hb hr (fun t9 ht9 hW9 => ⟨⟨(I 0 5), (I, G, A, L), rfl, by cases h; exact ⟨rfl, rfl⟩, by rw [ht9]; exact hP, va_K.moved hW9.alike hK⟩, hS.F ht9⟩) hS.2.2 dX6_count_94
    · have h := iN (by rw [hs3]; decide) h
      have h := iN (by rw [hs3]; decide) h
      have h := iN (by rw [hs3]; decide) h
      have h := iN (by rw [hs3]; decide) h
      have h := iN (by rw [hs3]; decide) h
      have h := ip hs3 h
      refine W_top hs3 ?_
      refine lv_tableIn (off := 79) (tgt := 95) hx hb dX6_count_16 (by decide) (by decide) (by decide) (by decide) ?_
      refine lv_iload_n hx hb dX6_count_95 rfl (lv_at hl 0 rfl) ?_
      refine lv_if_eq (tgt := 112) hx hb dX6_count_96 (by decide) (fun c_4 => ?_) (fun c_4 => ?_)
      · have h := ip c_4 h
        refine lv_iconst (v := 0) hx hb dX6_count_112 (by decide) ?_
        exact W.iret (v := 0) hx hb hr (fun t9 ht9 hW9 => ⟨⟨0, (I, G, A, L), rfl, by cases h; exact ⟨rfl, rfl⟩, by rw [ht9]; exact hP, va_K.moved hW9.alike hK⟩, hS.F ht9⟩) hS.2.2 dX6_count_113
      · have h := iN c_4 h
        refine lv_aload_n hx hb dX6_count_99 rfl (lv_at hl 1 rfl) ?_
        refine vgC hx hb hts hi6 hown hK hP (0) (by decide) (show kd 0 = 6 by decide) (C := RX6) (T := TX6) (N := 18) rfl 4 (by decide) (by decide) (by decide) (by decide) (14) rfl (hts (.fieldLink RX6 73 "CrateHelpers" "solving" "LCrateHelpers$Solving;") (by decide +kernel)) (fun _ h9 => h9) dX6_count_100 ?_
        refine vgG hx hb hts hi3 hown hK hP (14) (by decide) (show kd 14 = 3 by decide) (C := RX3) (T := TX3) (N := 6) rfl 0 (by decide) (by decide) (by decide) (by decide) (hts (.fieldLink RX6 294 "CrateHelpers$Solving" "tree" "LCrateHelpers$Tree;") (by decide +kernel)) (fun _ h9 => h9) dX6_count_103 ?_
        obtain ⟨hk5, h⟩ := gk h
        refine vgI hx hb hts hi5 hown hK hP (G 14 0) (s318 hk5.1) hk5.2 (C := RX5) (T := TX5) (N := 16) rfl 9 (by decide) (by decide) (by decide) (by decide) (hts (.fieldLink RX6 297 "CrateHelpers$Tree" "known" "I") (by decide +kernel)) (fun _ h9 => h9) dX6_count_106 ?_
        refine lv_goto (tgt := 113) hx hb dX6_count_109 (by decide) ?_
        exact W.iret (v := (I (G 14 0) 9)) hx hb hr (fun t9 ht9 hW9 => ⟨⟨(I (G 14 0) 9), (I, G, A, L), rfl, by cases h; exact ⟨rfl, rfl⟩, by rw [ht9]; exact hP, va_K.moved hW9.alike hK⟩, hS.F ht9⟩) hS.2.2 dX6_count_113
    · have h := iN (by rw [hs3]; decide) h
      have h := iN (by rw [hs3]; decide) h
      have h := iN (by rw [hs3]; decide) h
      have h := iN (by rw [hs3]; decide) h
      have h := iN (by rw [hs3]; decide) h
      have h := iN (by rw [hs3]; decide) h
      have h := ip hs3 h
      refine W_top hs3 ?_
      refine lv_tableIn (off := 98) (tgt := 114) hx hb dX6_count_16 (by decide) (by decide) (by decide) (by decide) ?_
      refine lv_iload_n hx hb dX6_count_114 rfl (lv_at hl 0 rfl) ?_
      refine lv_if_eq (tgt := 131) hx hb dX6_count_115 (by decide) (fun c_6 => ?_) (fun c_6 => ?_)
      · have h := ip c_6 h
        refine lv_iconst (v := 0) hx hb dX6_count_131 (by decide) ?_
        exact W.iret (v := 0) hx hb hr (fun t9 ht9 hW9 => ⟨⟨0, (I, G, A, L), rfl, by cases h; exact ⟨rfl, rfl⟩, by rw [ht9]; exact hP, va_K.moved hW9.alike hK⟩, hS.F ht9⟩) hS.2.2 dX6_count_132
      · have h := iN c_6 h
        refine lv_aload_n hx hb dX6_count_118 rfl (lv_at hl 1 rfl) ?_
        refine vgC hx hb hts hi6 hown hK hP (0) (by decide) (show kd 0 = 6 by decide) (C := RX6) (T := TX6) (N := 18) rfl 4 (by decide) (by decide) (by decide) (by decide) (14) rfl (hts (.fieldLink RX6 73 "CrateHelpers" "solving" "LCrateHelpers$Solving;") (by decide +kernel)) (fun _ h9 => h9) dX6_count_119 ?_
        refine vgG hx hb hts hi3 hown hK hP (14) (by decide) (show kd 14 = 3 by decide) (C := RX3) (T := TX3) (N := 6) rfl 0 (by decide) (by decide) (by decide) (by decide) (hts (.fieldLink RX6 294 "CrateHelpers$Solving" "tree" "LCrateHelpers$Tree;") (by decide +kernel)) (fun _ h9 => h9) dX6_count_122 ?_
        obtain ⟨hk7, h⟩ := gk h
        refine vgI hx hb hts hi5 hown hK hP (G 14 0) (s318 hk7.1) hk7.2 (C := RX5) (T := TX5) (N := 16) rfl 10 (by decide) (by decide) (by decide) (by decide) (hts (.fieldLink RX6 300 "CrateHelpers$Tree" "done" "I") (by decide +kernel)) (fun _ h9 => h9) dX6_count_125 ?_
        refine lv_goto (tgt := 132) hx hb dX6_count_128 (by decide) ?_
        exact W.iret (v := (I (G 14 0) 10)) hx hb hr (fun t9 ht9 hW9 => ⟨⟨(I (G 14 0) 10), (I, G, A, L), rfl, by cases h; exact ⟨rfl, rfl⟩, by rw [ht9]; exact hP, va_K.moved hW9.alike hK⟩, hS.F ht9⟩) hS.2.2 dX6_count_132
    · have h := iN (by rw [hs3]; decide) h
      have h := iN (by rw [hs3]; decide) h
      have h := iN (by rw [hs3]; decide) h
      have h := iN (by rw [hs3]; decide) h
      have h := iN (by rw [hs3]; decide) h
      have h := iN (by rw [hs3]; decide) h
      have h := iN (by rw [hs3]; decide) h
      have h := ip hs3 h
      refine W_top hs3 ?_
      refine lv_tableIn (off := 117) (tgt := 133) hx hb dX6_count_16 (by decide) (by decide) (by decide) (by decide) ?_
      refine lv_iload_n hx hb dX6_count_133 rfl (lv_at hl 0 rfl) ?_
      refine lv_if_eq (tgt := 150) hx hb dX6_count_134 (by decide) (fun c_8 => ?_) (fun c_8 => ?_)
      · have h := ip c_8 h
        refine lv_iconst (v := 0) hx hb dX6_count_150 (by decide) ?_
        exact W.iret (v := 0) hx hb hr (fun t9 ht9 hW9 => ⟨⟨0, (I, G, A, L), rfl, by cases h; exact ⟨rfl, rfl⟩, by rw [ht9]; exact hP, va_K.moved hW9.alike hK⟩, hS.F ht9⟩) hS.2.2 dX6_count_151
      · have h := iN c_8 h
        refine lv_aload_n hx hb dX6_count_137 rfl (lv_at hl 1 rfl) ?_
        refine vgC hx hb hts hi6 hown hK hP (0) (by decide) (show kd 0 = 6 by decide) (C := RX6) (T := TX6) (N := 18) rfl 4 (by decide) (by decide) (by decide) (by decide) (14) rfl (hts (.fieldLink RX6 73 "CrateHelpers" "solving" "LCrateHelpers$Solving;") (by decide +kernel)) (fun _ h9 => h9) dX6_count_138 ?_
        refine vgG hx hb hts hi3 hown hK hP (14) (by decide) (show kd 14 = 3 by decide) (C := RX3) (T := TX3) (N := 6) rfl 0 (by decide) (by decide) (by decide) (by decide) (hts (.fieldLink RX6 294 "CrateHelpers$Solving" "tree" "LCrateHelpers$Tree;") (by decide +kernel)) (fun _ h9 => h9) dX6_count_141 ?_
        obtain ⟨hk9, h⟩ := gk h
        refine vgI hx hb hts hi5 hown hK hP (G 14 0) (s318 hk9.1) hk9.2 (C := RX5) (T := TX5) (N := 16) rfl 11 (by decide) (by decide) (by decide) (by decide) (hts (.fieldLink RX6 192 "CrateHelpers$Tree" "taken" "I") (by decide +kernel)) (fun _ h9 => h9) dX6_count_144 ?_
        refine lv_goto (tgt := 151) hx hb dX6_count_147 (by decide) ?_
        exact W.iret (v := (I (G 14 0) 11)) hx hb hr (fun t9 ht9 hW9 => ⟨⟨(I (G 14 0) 11), (I, G, A, L), rfl, by cases h; exact ⟨rfl, rfl⟩, by rw [ht9]; exact hP, va_K.moved hW9.alike hK⟩, hS.F ht9⟩) hS.2.2 dX6_count_151
    · have h := iN (fun q => by rw [q] at hs3; exact absurd hs3 (by decide)) h
      have h := iN (fun q => by rw [q] at hs3; exact absurd hs3 (by decide)) h
      have h := iN (fun q => by rw [q] at hs3; exact absurd hs3 (by decide)) h
      have h := iN (fun q => by rw [q] at hs3; exact absurd hs3 (by decide)) h
      have h := iN (fun q => by rw [q] at hs3; exact absurd hs3 (by decide)) h
      have h := iN (fun q => by rw [q] at hs3; exact absurd hs3 (by decide)) h
      have h := iN (fun q => by rw [q] at hs3; exact absurd hs3 (by decide)) h
      have h := iN (fun q => by rw [q] at hs3; exact absurd hs3 (by decide)) h
      refine lv_tableOut (tgt := 152) hx hb dX6_count_16 hs3 (by decide) ?_
      refine lv_iconst (v := (-1)) hx hb dX6_count_152 (by decide) ?_
      exact W.iret (v := (-1)) hx hb hr (fun t9 ht9 hW9 => ⟨⟨(-1), (I, G, A, L), rfl, by cases h; exact ⟨rfl, rfl⟩, by rw [ht9]; exact hP, va_K.moved hW9.alike hK⟩, hS.F ht9⟩) hS.2.2 dX6_count_153
  refine lv_icmp_eq (tgt := 13) hx hb dX6_count_6 (by decide) (fun c_10 => ?_) (fun c_10 => ?_)
  · have h := ip c_10 h
    refine lv_iconst (v := 0) hx hb dX6_count_13 (by decide) ?_
    exact kj2 0 h _ _ hP hS ls (lv_sub hl [0, 1] rfl)
  · have h := iN c_10 h
    refine lv_iconst (v := 1) hx hb dX6_count_9 (by decide) ?_
    refine lv_goto (tgt := 14) hx hb dX6_count_10 (by decide) ?_
    exact kj2 1 h _ _ hP hS ls (lv_sub hl [0, 1] rfl)
set_option maxHeartbeats 4000000 in
set_option maxRecDepth 100000 in
theorem e_X5_boundOf (l : Launch) (D : va_G) (K : Nat → ClassId) (ad : Nat → Nat) (hap0 : apart ad (fun _ => True)) (o : Nat) (a1 : Int32) (I : Nat → Nat → Int32) (G : Nat → Nat → Nat) (A : Nat → Nat → Int32) (L : Nat → Nat → Int64) (r0 : Int32) (h : f_X5_boundOf L o a1 = some r0) : Ci l D K ad yX5_boundOf wsX5_boundOf 0 0 [.ref (ad o), .int a1] (I, G, A, L) (fun (r : Int32) (u : Mem) => r = r0 ∧ u = (I, G, A, L)) := by
  intro sz
  refine Met.ofW (cc := cX5_boundOf) (maxL := 2) (ret := (some .int)) (by decide) rfl ?_
  intro p e s m args below meth c s₁ Bd hml hv0
  obtain ⟨rfl, hsz, hP, hK⟩ := hv0
  have hx := Bd.exec
  have hb := Bd.bytes
  have hr := Bd.returns
  have hts := atoms_spec (ws := wsX5_boundOf) Bd.pre
  have hown : s.vm.findClass RX5 = some m.cls := findClass_of_methodNamed Bd.named
  have hlocks := Bd.notSynchronized
  have hi5 : ∀ w ∈ u_ws RX5 TX5 16, w ∈ wsX5_boundOf := fun w h => List.mem_cons_of_mem _ (List.mem_append_right _ h)
  subst hsz
  have hap := vF_ap hap0 s.heap.size
  have hS : va_S (vF ad s.heap.size) s.heap s.heap [] := va_S.rf
  have hP : va_P D vwCl (VW K ad I G A L) s.heap := hP
  have hl := lv_entry ([.ref (ad o), .int a1]) (n := 2) (Nat.le_of_ble_eq_true rfl)
  rw [lg_entry_eq]
  generalize (lg_sl ([.ref (ad o), .int a1]) ++ List.replicate (2 - (lg_sl ([.ref (ad o), .int a1])).length) Slot.unset).toArray = ls at hl ⊢
  have hl : lv_has ls 2 [(0, .ref (ad o)), (1, .int a1)] := hl
  rw [f_X5_boundOf] at h
  refine lv_aload_n hx hb dX5_boundOf_0 rfl (lv_at hl 0 rfl) ?_
  obtain ⟨hk1, h⟩ := gk h
  refine vgS hx hb hts hi5 hown hK hP (o) (s318 hk1.1) hk1.2 (C := RX5) (T := TX5) (N := 16) rfl 0 (by decide) (by decide) (by decide) (by decide) (o + 1) rfl (hts (.fieldLink RX5 49 "CrateHelpers$Tree" "place" "[J") (by decide +kernel)) (fun _ h9 => h9) dX5_boundOf_1 ?_
  refine lv_iload_n hx hb dX5_boundOf_4 rfl (lv_at hl 1 rfl) ?_
  obtain ⟨hk2, h⟩ := gk h
  obtain ⟨hn3, h⟩ := gk h
  refine xlald hx hb hK hP (o + 1) (s318 hk2.1) hk2.2 hn3 dX5_boundOf_5 ?_
  refine lv_bipush (v := 18) hx hb dX5_boundOf_6 (by decide) ?_
  refine lv_lshr hx hb dX5_boundOf_8 rfl ?_
  refine lv_l2i hx hb dX5_boundOf_9 rfl ?_
  exact W.iret (v := (((L (o + 1) a1.toNatClampNeg) >>> ((18 : Int32).toInt64 &&& 63)).toInt32)) hx hb hr (fun t9 ht9 hW9 => ⟨⟨(((L (o + 1) a1.toNatClampNeg) >>> ((18 : Int32).toInt64 &&& 63)).toInt32), (I, G, A, L), rfl, by cases h; exact ⟨rfl, rfl⟩, by rw [ht9]; exact hP, va_K.moved hW9.alike hK⟩, hS.F ht9⟩) hS.2.2 dX5_boundOf_10
set_option maxHeartbeats 4000000 in
set_option maxRecDepth 100000 in
theorem e_X3_sumUp (l : Launch) (D : va_G) (K : Nat → ClassId) (ad : Nat → Nat) (hap0 : apart ad (fun _ => True)) (a1 : Int32) (s2 : Nat) (I : Nat → Nat → Int32) (G : Nat → Nat → Nat) (A : Nat → Nat → Int32) (L : Nat → Nat → Int64) (A0 : Nat → Nat → Int32) (h : f_X3_sumUp I G A L a1 s2 = some A0) : Cv l D K ad yX3_sumUp wsX3_sumUp 3 107 [.ref (ad 14), .int a1, .ref (ad s2)] (I, G, A, L) (fun (u : Mem) => u = (I, G, A0, L)) := by
  intro sz
  refine Met.ofW (cc := cX3_sumUp) (maxL := 6) (ret := none) (by decide) rfl ?_
  intro p e s m args below meth c s₁ Bd hml hv0
  obtain ⟨rfl, hsz, hP, hK⟩ := hv0
  have hx := Bd.exec
  have hb := Bd.bytes
  have hr := Bd.returns
  have hts := atoms_spec (ws := wsX3_sumUp) Bd.pre
  have hown : s.vm.findClass RX3 = some m.cls := findClass_of_methodNamed Bd.named
  have hlocks := Bd.notSynchronized
  have hi3 : ∀ w ∈ u_ws RX3 TX3 6, w ∈ wsX3_sumUp := fun w h => List.mem_cons_of_mem _ (List.mem_append_left _ (List.mem_append_right _ h))
  have hi5 : ∀ w ∈ u_ws RX5 TX5 16, w ∈ wsX3_sumUp := fun w h => List.mem_cons_of_mem _ (List.mem_append_right _ h)
  subst hsz
  have hap := vF_ap hap0 s.heap.size
  have hS : va_S (vF ad s.heap.size) s.heap s.heap [] := va_S.rf
  have hP : va_P D vwCl (VW K ad I G A L) s.heap := hP
  have hl := lv_entry ([.ref (ad 14), .int a1, .ref (ad s2)]) (n := 6) (Nat.le_of_ble_eq_true rfl)
  rw [lg_entry_eq]
  generalize (lg_sl ([.ref (ad 14), .int a1, .ref (ad s2)]) ++ List.replicate (6 - (lg_sl ([.ref (ad 14), .int a1, .ref (ad s2)])).length) Slot.unset).toArray = ls at hl ⊢
  have hl : lv_has ls 6 [(0, .ref (ad 14)), (1, .int a1), (2, .ref (ad s2))] := hl
  rw [f_X3_sumUp] at h
  refine lv_iload_n hx hb dX3_sumUp_0 rfl (lv_at hl 1 rfl) ?_
  refine lv_iconst (v := 1) hx hb dX3_sumUp_1 (by decide) ?_
  obtain ⟨j4, ej4, h⟩ := bd_e h
  have kj4 : ∀ (z3 : Int32), j4 z3 = some A0 → ∀ (H : Heap) (locs : List Loc), va_P D vwCl (VW K ad I G A L) H → va_S (vF ad s.heap.size) s.heap H locs → ∀ (ls : Array Slot), lv_has ls 6 [(0, .ref (ad 14)), (1, .int a1), (2, .ref (ad s2))] → W p l e ({ frames := 3, cells := 0, slots := 0, locals := 107 }) s m ([.ref (ad 14), .int a1, .ref (ad s2)] : List Value).toArray below meth c H locs 0 0 (MQ below (va_Qv (fun (u : Mem) => u = (I, G, A0, L)) (vB D K ad) (vF ad s.heap.size)) ([.ref (ad 14), .int a1, .ref (ad s2)] : List Value).toArray s 0 0 (vF ad s.heap.size)) (F0 m 20 ls [.int z3]) := by
    intro z3 h H locs hP hS ls hl
    subst ej4
    refine lv_istore_n (lv' := [(3, .int z3), (0, .ref (ad 14)), (1, .int a1), (2, .ref (ad s2))]) hx hb dX3_sumUp_20 rfl hl (by decide) rfl (fun ls hl => ?_)
    refine lv_iload_n hx hb dX3_sumUp_21 rfl (lv_at hl 0 rfl) ?_
    obtain ⟨j12, ej12, h⟩ := bd_e h
    have kj12 : ∀ (z11 : Int32), j12 z11 = some A0 → ∀ (H : Heap) (locs : List Loc), va_P D vwCl (VW K ad I G A L) H → va_S (vF ad s.heap.size) s.heap H locs → ∀ (ls : Array Slot), lv_has ls 6 [(3, .int z3), (0, .ref (ad 14)), (1, .int a1), (2, .ref (ad s2))] → W p l e ({ frames := 3, cells := 0, slots := 0, locals := 107 }) s m ([.ref (ad 14), .int a1, .ref (ad s2)] : List Value).toArray below meth c H locs 0 0 (MQ below (va_Qv (fun (u : Mem) => u = (I, G, A0, L)) (vB D K ad) (vF ad s.heap.size)) ([.ref (ad 14), .int a1, .ref (ad s2)] : List Value).toArray s 0 0 (vF ad s.heap.size)) (F0 m 52 ls [.int z11]) := by
      intro z11 h H locs hP hS ls hl
      subst ej12
      refine lv_istore (lv' := [(4, .int z11), (3, .int z3), (0, .ref (ad 14)), (1, .int a1), (2, .ref (ad s2))]) hx hb dX3_sumUp_52 hl (by decide) rfl (fun ls hl => ?_)
      refine lv_iload hx hb dX3_sumUp_54 (lv_at hl 0 rfl) ?_
      refine lv_iconst (v := (-1)) hx hb dX3_sumUp_56 (by decide) ?_
      obtain ⟨j17, ej17, h⟩ := bd_e h
      have kj17 : ∀ (z16 : Int32), j17 z16 = some A0 → ∀ (H : Heap) (locs : List Loc), va_P D vwCl (VW K ad I G A L) H → va_S (vF ad s.heap.size) s.heap H locs → ∀ (ls : Array Slot), lv_has ls 6 [(4, .int z11), (3, .int z3), (0, .ref (ad 14)), (1, .int a1), (2, .ref (ad s2))] → W p l e ({ frames := 3, cells := 0, slots := 0, locals := 107 }) s m ([.ref (ad 14), .int a1, .ref (ad s2)] : List Value).toArray below meth c H locs 0 0 (MQ below (va_Qv (fun (u : Mem) => u = (I, G, A0, L)) (vB D K ad) (vF ad s.heap.size)) ([.ref (ad 14), .int a1, .ref (ad s2)] : List Value).toArray s 0 0 (vF ad s.heap.size)) (F0 m 74 ls [.int z16]) := by
        intro z16 h H locs hP hS ls hl
        subst ej17
        refine lv_istore (lv' := [(5, .int z16), (4, .int z11), (3, .int z3), (0, .ref (ad 14)), (1, .int a1), (2, .ref (ad s2))]) hx hb dX3_sumUp_74 hl (by decide) rfl (fun ls hl => ?_)
        refine lv_aload_n hx hb dX3_sumUp_76 rfl (lv_at hl 5 rfl) ?_
        refine lv_bipush (v := (-9)) hx hb dX3_sumUp_77 (by decide) ?_
        obtain ⟨A18, hc19, h⟩ := Option.bind_eq_some_iff.mp h
        refine ecSv (As := [.ref (ad s2), .int (-9)]) (rest := []) ⟨hx, hb, hml, hown, hts⟩ (e_J7_fill_53178 l D K ad hap0 s2 (-9) I G A L A18 hc19) (va_cwS 2 hts gX3_sumUp_J7_fill_53178 rfl rfl rfl (by decide +kernel) ⟨Nat.le_of_ble_eq_true rfl, Nat.le_of_ble_eq_true rfl⟩) hK hP hS rfl hl.1 (Nat.le_of_ble_eq_true rfl) (Nat.le_of_ble_eq_true rfl) (Nat.le_of_ble_eq_true rfl) dX3_sumUp_79 (fun H locs hP hS => ?_) rfl
        have hP : va_P D vwCl (VW K ad I G A18 L) H := hP
        refine lv_aload_n hx hb dX3_sumUp_82 rfl (lv_at hl 5 rfl) ?_
        refine lv_iconst (v := 0) hx hb dX3_sumUp_83 (by decide) ?_
        refine lv_iload_n hx hb dX3_sumUp_84 rfl (lv_at hl 4 rfl) ?_
        obtain ⟨hk20, h⟩ := gk h
        obtain ⟨hn21, h⟩ := gk h
        refine xiast hx hb hK hP hap hS (s2) (s318 hk20.1) hk20.2 hn21 dX3_sumUp_85 (fun H locs hP hS => ?_)
        rw [show (0 : Int32).toNatClampNeg = 0 by decide] at hP
        obtain ⟨A22, eA22, h⟩ := bd_e h
        rw [← eA22] at hP
        have hP : va_P D vwCl (VW K ad I G A22 L) H := hP
        refine lv_aload_n hx hb dX3_sumUp_86 rfl (lv_at hl 5 rfl) ?_
        refine lv_iconst (v := 1) hx hb dX3_sumUp_87 (by decide) ?_
        refine lv_aload_n hx hb dX3_sumUp_88 rfl (lv_at hl 3 rfl) ?_
        refine vgG hx hb hts hi3 hown hK hP (14) (by decide) (show kd 14 = 3 by decide) (C := RX3) (T := TX3) (N := 6) rfl 0 (by decide) (by decide) (by decide) (by decide) (hts (.fieldLink RX3 30 "CrateHelpers$Solving" "tree" "LCrateHelpers$Tree;") (by decide +kernel)) (fun _ h9 => h9) dX3_sumUp_89 ?_
        obtain ⟨hk23, h⟩ := gk h
        refine vgI hx hb hts hi5 hown hK hP (G 14 0) (s318 hk23.1) hk23.2 (C := RX5) (T := TX5) (N := 16) rfl 11 (by decide) (by decide) (by decide) (by decide) (hts (.fieldLink RX3 81 "CrateHelpers$Tree" "taken" "I") (by decide +kernel)) (fun _ h9 => h9) dX3_sumUp_92 ?_
        obtain ⟨hn24, h⟩ := gk h
        refine xiast hx hb hK hP hap hS (s2) (s318 hk20.1) hk20.2 hn24 dX3_sumUp_95 (fun H locs hP hS => ?_)
        rw [show (1 : Int32).toNatClampNeg = 1 by decide] at hP
        obtain ⟨A25, eA25, h⟩ := bd_e h
        rw [← eA25] at hP
        have hP : va_P D vwCl (VW K ad I G A25 L) H := hP
        refine lv_aload_n hx hb dX3_sumUp_96 rfl (lv_at hl 5 rfl) ?_
        refine lv_iconst (v := 2) hx hb dX3_sumUp_97 (by decide) ?_
        refine lv_aload_n hx hb dX3_sumUp_98 rfl (lv_at hl 3 rfl) ?_
        refine vgG hx hb hts hi3 hown hK hP (14) (by decide) (show kd 14 = 3 by decide) (C := RX3) (T := TX3) (N := 6) rfl 0 (by decide) (by decide) (by decide) (by decide) (hts (.fieldLink RX3 30 "CrateHelpers$Solving" "tree" "LCrateHelpers$Tree;") (by decide +kernel)) (fun _ h9 => h9) dX3_sumUp_99 ?_
        refine vgI hx hb hts hi5 hown hK hP (G 14 0) (s318 hk23.1) hk23.2 (C := RX5) (T := TX5) (N := 16) rfl 10 (by decide) (by decide) (by decide) (by decide) (hts (.fieldLink RX3 79 "CrateHelpers$Tree" "done" "I") (by decide +kernel)) (fun _ h9 => h9) dX3_sumUp_102 ?_
        obtain ⟨hn26, h⟩ := gk h
        refine xiast hx hb hK hP hap hS (s2) (s318 hk20.1) hk20.2 hn26 dX3_sumUp_105 (fun H locs hP hS => ?_)
        rw [show (2 : Int32).toNatClampNeg = 2 by decide] at hP
        obtain ⟨A27, eA27, h⟩ := bd_e h
        rw [← eA27] at hP
        have hP : va_P D vwCl (VW K ad I G A27 L) H := hP
        refine lv_aload_n hx hb dX3_sumUp_106 rfl (lv_at hl 5 rfl) ?_
        refine lv_iconst (v := 3) hx hb dX3_sumUp_107 (by decide) ?_
        refine lv_aload_n hx hb dX3_sumUp_108 rfl (lv_at hl 3 rfl) ?_
        refine vgI hx hb hts hi3 hown hK hP (14) (by decide) (show kd 14 = 3 by decide) (C := RX3) (T := TX3) (N := 6) rfl 3 (by decide) (by decide) (by decide) (by decide) (hts (.fieldLink RX3 15 "CrateHelpers$Solving" "turns" "I") (by decide +kernel)) (fun _ h9 => h9) dX3_sumUp_109 ?_
        obtain ⟨hn28, h⟩ := gk h
        refine xiast hx hb hK hP hap hS (s2) (s318 hk20.1) hk20.2 hn28 dX3_sumUp_112 (fun H locs hP hS => ?_)
        rw [show (3 : Int32).toNatClampNeg = 3 by decide] at hP
        obtain ⟨A29, eA29, h⟩ := bd_e h
        rw [← eA29] at hP
        have hP : va_P D vwCl (VW K ad I G A29 L) H := hP
        refine lv_aload_n hx hb dX3_sumUp_113 rfl (lv_at hl 5 rfl) ?_
        refine lv_iconst (v := 4) hx hb dX3_sumUp_114 (by decide) ?_
        refine lv_iload_n hx hb dX3_sumUp_115 rfl (lv_at hl 2 rfl) ?_
        refine lv_if_eq (tgt := 124) hx hb dX3_sumUp_116 (by decide) (fun c_30 => ?_) (fun c_30 => ?_)
        · have h := ip c_30 h
          refine lv_ldc (v := (-1000000)) hx hb hown (hts (.constant RX3 109 (-1000000)) (by decide +kernel)) dX3_sumUp_124 ?_
          obtain ⟨hn31, h⟩ := gk h
          refine xiast hx hb hK hP hap hS (s2) (s318 hk20.1) hk20.2 hn31 dX3_sumUp_126 (fun H locs hP hS => ?_)
          rw [show (4 : Int32).toNatClampNeg = 4 by decide] at hP
          obtain ⟨A32, eA32, h⟩ := bd_e h
          rw [← eA32] at hP
          have hP : va_P D vwCl (VW K ad I G A32 L) H := hP
          refine lv_aload_n hx hb dX3_sumUp_127 rfl (lv_at hl 5 rfl) ?_
          refine lv_iconst (v := 5) hx hb dX3_sumUp_128 (by decide) ?_
          refine lv_iload hx hb dX3_sumUp_129 (lv_at hl 0 rfl) ?_
          obtain ⟨hn33, h⟩ := gk h
          refine xiast hx hb hK hP hap hS (s2) (s318 hk20.1) hk20.2 hn33 dX3_sumUp_131 (fun H locs hP hS => ?_)
          rw [show (5 : Int32).toNatClampNeg = 5 by decide] at hP
          obtain ⟨A34, eA34, h⟩ := bd_e h
          rw [← eA34] at hP
          have hP : va_P D vwCl (VW K ad I G A34 L) H := hP
          refine lv_iload_n hx hb dX3_sumUp_132 rfl (lv_at hl 2 rfl) ?_
          refine lv_if_eq (tgt := 148) hx hb dX3_sumUp_133 (by decide) (fun c_35 => ?_) (fun c_35 => ?_)
          · have h := ip c_35 h
            exact W.vret hx hb hr (fun t9 ht9 hW9 => ⟨⟨(I, G, A34, L), rfl, by cases h; rfl, by rw [ht9]; exact hP, va_K.moved hW9.alike hK⟩, hS.F ht9⟩) hS.2.2 dX3_sumUp_148
          · have h := iN c_35 h
            refine lv_aload_n hx hb dX3_sumUp_136 rfl (lv_at hl 3 rfl) ?_
            refine vgG hx hb hts hi3 hown hK hP (14) (by decide) (show kd 14 = 3 by decide) (C := RX3) (T := TX3) (N := 6) rfl 0 (by decide) (by decide) (by decide) (by decide) (hts (.fieldLink RX3 30 "CrateHelpers$Solving" "tree" "LCrateHelpers$Tree;") (by decide +kernel)) (fun _ h9 => h9) dX3_sumUp_137 ?_
            refine lv_iload hx hb dX3_sumUp_140 (lv_at hl 1 rfl) ?_
            refine lv_aload_n hx hb dX3_sumUp_142 rfl (lv_at hl 5 rfl) ?_
            refine lv_bipush (v := 6) hx hb dX3_sumUp_143 (by decide) ?_
            obtain ⟨A36, hc37, h⟩ := Option.bind_eq_some_iff.mp h
            refine ecVv (As := [.int z11, .ref (ad s2), .int 6]) (rest := []) ⟨hx, hb, hml, hown, hts⟩ (e_X5_copyValues l D K ad hap0 (G 14 0) z11 s2 6 I G A34 L A36 hc37) (cwV 3 hts gX3_sumUp_X5_copyValues rfl rfl rfl (by decide +kernel) ⟨Nat.le_of_ble_eq_true rfl, Nat.le_of_ble_eq_true rfl⟩) hK hP hS (s318 hk23.1) hk23.2 (by decide) rfl rfl rfl hl.1 (Nat.le_of_ble_eq_true rfl) (Nat.le_of_ble_eq_true rfl) (Nat.le_of_ble_eq_true rfl) dX3_sumUp_145 (fun H locs hP hS => ?_) rfl
            have hP : va_P D vwCl (VW K ad I G A36 L) H := hP
            exact W.vret hx hb hr (fun t9 ht9 hW9 => ⟨⟨(I, G, A36, L), rfl, by cases h; rfl, by rw [ht9]; exact hP, va_K.moved hW9.alike hK⟩, hS.F ht9⟩) hS.2.2 dX3_sumUp_148
        · have h := iN c_30 h
          refine lv_iload hx hb dX3_sumUp_119 (lv_at hl 0 rfl) ?_
          refine lv_goto (tgt := 126) hx hb dX3_sumUp_121 (by decide) ?_
          obtain ⟨hn38, h⟩ := gk h
          refine xiast hx hb hK hP hap hS (s2) (s318 hk20.1) hk20.2 hn38 dX3_sumUp_126 (fun H locs hP hS => ?_)
          rw [show (4 : Int32).toNatClampNeg = 4 by decide] at hP
          obtain ⟨A39, eA39, h⟩ := bd_e h
          rw [← eA39] at hP
          have hP : va_P D vwCl (VW K ad I G A39 L) H := hP
          refine lv_aload_n hx hb dX3_sumUp_127 rfl (lv_at hl 5 rfl) ?_
          refine lv_iconst (v := 5) hx hb dX3_sumUp_128 (by decide) ?_
          refine lv_iload hx hb dX3_sumUp_129 (lv_at hl 0 rfl) ?_
          obtain ⟨hn40, h⟩ := gk h
          refine xiast hx hb hK hP hap hS (s2) (s318 hk20.1) hk20.2 hn40 dX3_sumUp_131 (fun H locs hP hS => ?_)
          rw [show (5 : Int32).toNatClampNeg = 5 by decide] at hP
          obtain ⟨A41, eA41, h⟩ := bd_e h
          rw [← eA41] at hP
          have hP : va_P D vwCl (VW K ad I G A41 L) H := hP
          refine lv_iload_n hx hb dX3_sumUp_132 rfl (lv_at hl 2 rfl) ?_
          refine lv_if_eq (tgt := 148) hx hb dX3_sumUp_133 (by decide) (fun c_42 => ?_) (fun c_42 => ?_)
          · have h := ip c_42 h
            exact W.vret hx hb hr (fun t9 ht9 hW9 => ⟨⟨(I, G, A41, L), rfl, by cases h; rfl, by rw [ht9]; exact hP, va_K.moved hW9.alike hK⟩, hS.F ht9⟩) hS.2.2 dX3_sumUp_148
          · have h := iN c_42 h
            refine lv_aload_n hx hb dX3_sumUp_136 rfl (lv_at hl 3 rfl) ?_
            refine vgG hx hb hts hi3 hown hK hP (14) (by decide) (show kd 14 = 3 by decide) (C := RX3) (T := TX3) (N := 6) rfl 0 (by decide) (by decide) (by decide) (by decide) (hts (.fieldLink RX3 30 "CrateHelpers$Solving" "tree" "LCrateHelpers$Tree;") (by decide +kernel)) (fun _ h9 => h9) dX3_sumUp_137 ?_
            refine lv_iload hx hb dX3_sumUp_140 (lv_at hl 1 rfl) ?_
            refine lv_aload_n hx hb dX3_sumUp_142 rfl (lv_at hl 5 rfl) ?_
            refine lv_bipush (v := 6) hx hb dX3_sumUp_143 (by decide) ?_
            obtain ⟨A43, hc44, h⟩ := Option.bind_eq_some_iff.mp h
            refine ecVv (As := [.int z11, .ref (ad s2), .int 6]) (rest := []) ⟨hx, hb, hml, hown, hts⟩ (e_X5_copyValues l D K ad hap0 (G 14 0) z11 s2 6 I G A41 L A43 hc44) (cwV 3 hts gX3_sumUp_X5_copyValues rfl rfl rfl (by decide +kernel) ⟨Nat.le_of_ble_eq_true rfl, Nat.le_of_ble_eq_true rfl⟩) hK hP hS (s318 hk23.1) hk23.2 (by decide) rfl rfl rfl hl.1 (Nat.le_of_ble_eq_true rfl) (Nat.le_of_ble_eq_true rfl) (Nat.le_of_ble_eq_true rfl) dX3_sumUp_145 (fun H locs hP hS => ?_) rfl
            have hP : va_P D vwCl (VW K ad I G A43 L) H := hP
            exact W.vret hx hb hr (fun t9 ht9 hW9 => ⟨⟨(I, G, A43, L), rfl, by cases h; rfl, by rw [ht9]; exact hP, va_K.moved hW9.alike hK⟩, hS.F ht9⟩) hS.2.2 dX3_sumUp_148
      refine lv_icmp_ne (tgt := 65) hx hb dX3_sumUp_57 (by decide) (fun c_45 => ?_) (fun c_45 => ?_)
      · have h := iN c_45 h
        refine lv_aload_n hx hb dX3_sumUp_65 rfl (lv_at hl 2 rfl) ?_
        refine vgG hx hb hts hi3 hown hK hP (14) (by decide) (show kd 14 = 3 by decide) (C := RX3) (T := TX3) (N := 6) rfl 0 (by decide) (by decide) (by decide) (by decide) (hts (.fieldLink RX3 30 "CrateHelpers$Solving" "tree" "LCrateHelpers$Tree;") (by decide +kernel)) (fun _ h9 => h9) dX3_sumUp_66 ?_
        refine lv_iload hx hb dX3_sumUp_69 (lv_at hl 0 rfl) ?_
        obtain ⟨hk46, h⟩ := gk h
        obtain ⟨r47, hc48, h⟩ := Option.bind_eq_some_iff.mp h
        refine ecV (As := [.int z11]) (rest := []) ⟨hx, hb, hml, hown, hts⟩ (e_X5_boundOf l D K ad hap0 (G 14 0) z11 I G A L r47 hc48) (cwV 1 hts gX3_sumUp_X5_boundOf rfl rfl rfl (by decide +kernel) ⟨Nat.le_of_ble_eq_true rfl, Nat.le_of_ble_eq_true rfl⟩) hK hP hS (s318 hk46.1) hk46.2 (by decide) rfl rfl rfl hl.1 (Nat.le_of_ble_eq_true rfl) (Nat.le_of_ble_eq_true rfl) (Nat.le_of_ble_eq_true rfl) dX3_sumUp_71 (fun H locs hP hS => ?_) rfl
        have hP : va_P D vwCl (VW K ad I G A L) H := hP
        exact kj17 r47 h _ _ hP hS ls (lv_sub hl [0, 1, 2, 3, 4] rfl)
      · have h := ip c_45 h
        refine lv_ldc (v := (-1000000)) hx hb hown (hts (.constant RX3 109 (-1000000)) (by decide +kernel)) dX3_sumUp_60 ?_
        refine lv_goto (tgt := 74) hx hb dX3_sumUp_62 (by decide) ?_
        exact kj17 (-1000000) h _ _ hP hS ls (lv_sub hl [0, 1, 2, 3, 4] rfl)
    refine lv_if_eq (tgt := 45) hx hb dX3_sumUp_22 (by decide) (fun c_49 => ?_) (fun c_49 => ?_)
    · have h := ip c_49 h
      refine lv_aload_n hx hb dX3_sumUp_45 rfl (lv_at hl 1 rfl) ?_
      refine vgG hx hb hts hi3 hown hK hP (14) (by decide) (show kd 14 = 3 by decide) (C := RX3) (T := TX3) (N := 6) rfl 0 (by decide) (by decide) (by decide) (by decide) (hts (.fieldLink RX3 30 "CrateHelpers$Solving" "tree" "LCrateHelpers$Tree;") (by decide +kernel)) (fun _ h9 => h9) dX3_sumUp_46 ?_
      obtain ⟨hk50, h⟩ := gk h
      obtain ⟨r51, hc52, h⟩ := Option.bind_eq_some_iff.mp h
      refine ecV (As := []) (rest := []) ⟨hx, hb, hml, hown, hts⟩ (e_X5_nextOfWalk l D K ad hap0 (G 14 0) I G A L r51 hc52) (cwV 0 hts gX3_sumUp_X5_nextOfWalk rfl rfl rfl (by decide +kernel) ⟨Nat.le_of_ble_eq_true rfl, Nat.le_of_ble_eq_true rfl⟩) hK hP hS (s318 hk50.1) hk50.2 (by decide) rfl rfl rfl hl.1 (Nat.le_of_ble_eq_true rfl) (Nat.le_of_ble_eq_true rfl) (Nat.le_of_ble_eq_true rfl) dX3_sumUp_49 (fun H locs hP hS => ?_) rfl
      have hP : va_P D vwCl (VW K ad I G A L) H := hP
      exact kj12 r51 h _ _ hP hS ls (lv_sub hl [0, 1, 2, 3] rfl)
    · have h := iN c_49 h
      refine lv_aload_n hx hb dX3_sumUp_25 rfl (lv_at hl 1 rfl) ?_
      refine vgG hx hb hts hi3 hown hK hP (14) (by decide) (show kd 14 = 3 by decide) (C := RX3) (T := TX3) (N := 6) rfl 0 (by decide) (by decide) (by decide) (by decide) (hts (.fieldLink RX3 30 "CrateHelpers$Solving" "tree" "LCrateHelpers$Tree;") (by decide +kernel)) (fun _ h9 => h9) dX3_sumUp_26 ?_
      obtain ⟨hk53, h⟩ := gk h
      refine vgS hx hb hts hi5 hown hK hP (G 14 0) (s318 hk53.1) hk53.2 (C := RX5) (T := TX5) (N := 16) rfl 8 (by decide) (by decide) (by decide) (by decide) (G 14 0 + 9) rfl (hts (.fieldLink RX3 106 "CrateHelpers$Tree" "walk" "[I") (by decide +kernel)) (fun _ h9 => h9) dX3_sumUp_29 ?_
      refine lv_aload_n hx hb dX3_sumUp_32 rfl (lv_at hl 1 rfl) ?_
      refine vgG hx hb hts hi3 hown hK hP (14) (by decide) (show kd 14 = 3 by decide) (C := RX3) (T := TX3) (N := 6) rfl 0 (by decide) (by decide) (by decide) (by decide) (hts (.fieldLink RX3 30 "CrateHelpers$Solving" "tree" "LCrateHelpers$Tree;") (by decide +kernel)) (fun _ h9 => h9) dX3_sumUp_33 ?_
      refine vgI hx hb hts hi5 hown hK hP (G 14 0) (s318 hk53.1) hk53.2 (C := RX5) (T := TX5) (N := 16) rfl 11 (by decide) (by decide) (by decide) (by decide) (hts (.fieldLink RX3 81 "CrateHelpers$Tree" "taken" "I") (by decide +kernel)) (fun _ h9 => h9) dX3_sumUp_36 ?_
      refine lv_iconst (v := 1) hx hb dX3_sumUp_39 (by decide) ?_
      refine lv_isub hx hb dX3_sumUp_40 ?_
      obtain ⟨hk54, h⟩ := gk h
      obtain ⟨hn55, h⟩ := gk h
      refine xiald hx hb hK hP (G 14 0 + 9) (s318 hk54.1) hk54.2 hn55 dX3_sumUp_41 ?_
      refine lv_goto (tgt := 52) hx hb dX3_sumUp_42 (by decide) ?_
      exact kj12 (A (G 14 0 + 9) (((I (G 14 0) 11) - 1).toNatClampNeg)) h _ _ hP hS ls (lv_sub hl [0, 1, 2, 3] rfl)
  refine lv_icmp_ne (tgt := 19) hx hb dX3_sumUp_2 (by decide) (fun c_56 => ?_) (fun c_56 => ?_)
  · have h := iN c_56 h
    refine lv_iconst (v := 0) hx hb dX3_sumUp_19 (by decide) ?_
    exact kj4 0 h _ _ hP hS ls (lv_sub hl [0, 1, 2] rfl)
  · have h := ip c_56 h
    refine lv_aload_n hx hb dX3_sumUp_5 rfl (lv_at hl 0 rfl) ?_
    refine vgG hx hb hts hi3 hown hK hP (14) (by decide) (show kd 14 = 3 by decide) (C := RX3) (T := TX3) (N := 6) rfl 0 (by decide) (by decide) (by decide) (by decide) (hts (.fieldLink RX3 30 "CrateHelpers$Solving" "tree" "LCrateHelpers$Tree;") (by decide +kernel)) (fun _ h9 => h9) dX3_sumUp_6 ?_
    obtain ⟨hk57, h⟩ := gk h
    refine vgI hx hb hts hi5 hown hK hP (G 14 0) (s318 hk57.1) hk57.2 (C := RX5) (T := TX5) (N := 16) rfl 11 (by decide) (by decide) (by decide) (by decide) (hts (.fieldLink RX3 81 "CrateHelpers$Tree" "taken" "I") (by decide +kernel)) (fun _ h9 => h9) dX3_sumUp_9 ?_
    refine lv_if_le (tgt := 19) hx hb dX3_sumUp_12 (by decide) (fun c_58 => ?_) (fun c_58 => ?_)
    · have h := iN (Int32.not_lt.mpr c_58) h
      refine lv_iconst (v := 0) hx hb dX3_sumUp_19 (by decide) ?_
      exact kj4 0 h _ _ hP hS ls (lv_sub hl [0, 1, 2] rfl)
    · have h := ip (Int32.not_le.mp c_58) h
      refine lv_iconst (v := 1) hx hb dX3_sumUp_15 (by decide) ?_
      refine lv_goto (tgt := 20) hx hb dX3_sumUp_16 (by decide) ?_
      exact kj4 1 h _ _ hP hS ls (lv_sub hl [0, 1, 2] rfl)
set_option maxHeartbeats 4000000 in
set_option maxRecDepth 100000 in
theorem e_X6_endSolving (l : Launch) (D : va_G) (K : Nat → ClassId) (ad : Nat → Nat) (hap0 : apart ad (fun _ => True)) (a1 : Int32) (I : Nat → Nat → Int32) (G : Nat → Nat → Nat) (A : Nat → Nat → Int32) (L : Nat → Nat → Int64) (I0 : Nat → Nat → Int32) (G0 : Nat → Nat → Nat) (A0 : Nat → Nat → Int32) (h : f_X6_endSolving I G A L a1 = some (I0, G0, A0)) : Cv l D K ad yX6_endSolving wsX6_endSolving 4 135 [.ref (ad 0), .int a1] (I, G, A, L) (fun (u : Mem) => u = (I0, G0, A0, L)) := by
  intro sz
  refine Met.ofW (cc := cX6_endSolving) (maxL := 4) (ret := none) (by decide) rfl ?_
  intro p e s m args below meth c s₁ Bd hml hv0
  obtain ⟨rfl, hsz, hP, hK⟩ := hv0
  have hx := Bd.exec
  have hb := Bd.bytes
  have hr := Bd.returns
  have hts := atoms_spec (ws := wsX6_endSolving) Bd.pre
  have hown : s.vm.findClass RX6 = some m.cls := findClass_of_methodNamed Bd.named
  have hlocks := Bd.notSynchronized
  have hi6 : ∀ w ∈ u_ws RX6 TX6 18, w ∈ wsX6_endSolving := fun w h => List.mem_cons_of_mem _ (List.mem_append_left _ (List.mem_append_left _ (List.mem_append_left _ (List.mem_append_right _ h))))
  have hi1 : ∀ w ∈ u_ws RX1 TX1 9, w ∈ wsX6_endSolving := fun w h => List.mem_cons_of_mem _ (List.mem_append_left _ (List.mem_append_left _ (List.mem_append_right _ h)))
  have hi3 : ∀ w ∈ u_ws RX3 TX3 6, w ∈ wsX6_endSolving := fun w h => List.mem_cons_of_mem _ (List.mem_append_left _ (List.mem_append_right _ h))
  have hi5 : ∀ w ∈ u_ws RX5 TX5 16, w ∈ wsX6_endSolving := fun w h => List.mem_cons_of_mem _ (List.mem_append_right _ h)
  subst hsz
  have hap := vF_ap hap0 s.heap.size
  have hS : va_S (vF ad s.heap.size) s.heap s.heap [] := va_S.rf
  have hP : va_P D vwCl (VW K ad I G A L) s.heap := hP
  have hl := lv_entry ([.ref (ad 0), .int a1]) (n := 4) (Nat.le_of_ble_eq_true rfl)
  rw [lg_entry_eq]
  generalize (lg_sl ([.ref (ad 0), .int a1]) ++ List.replicate (4 - (lg_sl ([.ref (ad 0), .int a1])).length) Slot.unset).toArray = ls at hl ⊢
  have hl : lv_has ls 4 [(0, .ref (ad 0)), (1, .int a1)] := hl
  rw [f_X6_endSolving] at h
  refine lv_aload_n hx hb dX6_endSolving_0 rfl (lv_at hl 0 rfl) ?_
  refine lv_aload_n hx hb dX6_endSolving_1 rfl (lv_at hl 0 rfl) ?_
  refine vgI hx hb hts hi6 hown hK hP (0) (by decide) (show kd 0 = 6 by decide) (C := RX6) (T := TX6) (N := 18) rfl 5 (by decide) (by decide) (by decide) (by decide) (hts (.fieldLink RX6 29 "CrateHelpers" "underWay" "I") (by decide +kernel)) (fun _ h9 => h9) dX6_endSolving_2 ?_
  obtain ⟨r1, hc2, h⟩ := Option.bind_eq_some_iff.mp h
  refine ecV (As := [.int (I 0 5)]) (rest := []) ⟨hx, hb, hml, hown, hts⟩ (e_X6_isProblem l D K ad hap0 (I 0 5) I G A L r1 hc2) (cwV 1 hts gX6_endSolving_X6_isProblem rfl rfl rfl (by decide +kernel) ⟨Nat.le_of_ble_eq_true rfl, Nat.le_of_ble_eq_true rfl⟩) hK hP hS (by decide) (show kd 0 = 6 by decide) (by decide) rfl rfl rfl hl.1 (Nat.le_of_ble_eq_true rfl) (Nat.le_of_ble_eq_true rfl) (Nat.le_of_ble_eq_true rfl) dX6_endSolving_5 (fun H locs hP hS => ?_) rfl
  have hP : va_P D vwCl (VW K ad I G A L) H := hP
  refine lv_if_ne (tgt := 12) hx hb dX6_endSolving_8 (by decide) (fun c_3 => ?_) (fun c_3 => ?_)
  · have h := iN c_3 h
    refine lv_aload_n hx hb dX6_endSolving_12 rfl (lv_at hl 0 rfl) ?_
    refine vgC hx hb hts hi6 hown hK hP (0) (by decide) (show kd 0 = 6 by decide) (C := RX6) (T := TX6) (N := 18) rfl 0 (by decide) (by decide) (by decide) (by decide) (1) rfl (hts (.fieldLink RX6 11 "CrateHelpers" "problems" "[LCrateHelpers$Problem;") (by decide +kernel)) (fun _ h9 => h9) dX6_endSolving_13 ?_
    refine lv_aload_n hx hb dX6_endSolving_16 rfl (lv_at hl 0 rfl) ?_
    refine vgI hx hb hts hi6 hown hK hP (0) (by decide) (show kd 0 = 6 by decide) (C := RX6) (T := TX6) (N := 18) rfl 5 (by decide) (by decide) (by decide) (by decide) (hts (.fieldLink RX6 29 "CrateHelpers" "underWay" "I") (by decide +kernel)) (fun _ h9 => h9) dX6_endSolving_17 ?_
    obtain ⟨hn4, h⟩ := gk h
    refine xaald hx hb hK hP (1) (by decide) 5 13 (show kd 1 = 13 by decide) (by decide) rfl (by rw [show ln 1 = 5 by decide]; exact hn4) (58 + 52 * ((I 0 5).toNatClampNeg)) (drf13 ((show kd 1 = 13 by decide))) dX6_endSolving_20 ?_
    refine lv_astore_n (lv' := [(2, .ref (ad (58 + 52 * ((I 0 5).toNatClampNeg)))), (0, .ref (ad 0)), (1, .int a1)]) hx hb dX6_endSolving_21 rfl hl (by decide) rfl (fun ls hl => ?_)
    refine lv_aload_n hx hb dX6_endSolving_22 rfl (lv_at hl 1 rfl) ?_
    refine vgC hx hb hts hi6 hown hK hP (0) (by decide) (show kd 0 = 6 by decide) (C := RX6) (T := TX6) (N := 18) rfl 4 (by decide) (by decide) (by decide) (by decide) (14) rfl (hts (.fieldLink RX6 73 "CrateHelpers" "solving" "LCrateHelpers$Solving;") (by decide +kernel)) (fun _ h9 => h9) dX6_endSolving_23 ?_
    refine lv_iload_n hx hb dX6_endSolving_26 rfl (lv_at hl 2 rfl) ?_
    refine lv_aload_n hx hb dX6_endSolving_27 rfl (lv_at hl 0 rfl) ?_
    obtain ⟨hk5, h⟩ := gk h
    refine vgS hx hb hts hi1 hown hK hP (58 + 52 * ((I 0 5).toNatClampNeg)) (s318 hk5.1) hk5.2 (C := RX1) (T := TX1) (N := 9) rfl 8 (by decide) (by decide) (by decide) (by decide) (58 + 52 * ((I 0 5).toNatClampNeg) + 11) rfl (hts (.fieldLink RX6 189 "CrateHelpers$Problem" "outcome" "[I") (by decide +kernel)) (fun _ h9 => h9) dX6_endSolving_28 ?_
    obtain ⟨A6, hc7, h⟩ := Option.bind_eq_some_iff.mp h
    refine ecVv (As := [.int a1, .ref (ad (58 + 52 * ((I 0 5).toNatClampNeg) + 11))]) (rest := []) ⟨hx, hb, hml, hown, hts⟩ (e_X3_sumUp l D K ad hap0 a1 (58 + 52 * ((I 0 5).toNatClampNeg) + 11) I G A L A6 hc7) (cwV 2 hts gX6_endSolving_X3_sumUp rfl rfl rfl (by decide +kernel) ⟨Nat.le_of_ble_eq_true rfl, Nat.le_of_ble_eq_true rfl⟩) hK hP hS (by decide) (show kd 14 = 3 by decide) (by decide) rfl rfl rfl hl.1 (Nat.le_of_ble_eq_true rfl) (Nat.le_of_ble_eq_true rfl) (Nat.le_of_ble_eq_true rfl) dX6_endSolving_31 (fun H locs hP hS => ?_) rfl
    have hP : va_P D vwCl (VW K ad I G A6 L) H := hP
    refine lv_aload_n hx hb dX6_endSolving_34 rfl (lv_at hl 0 rfl) ?_
    refine lv_iconst (v := 1) hx hb dX6_endSolving_35 (by decide) ?_
    refine vpI (v := 1) (ty := .boolean) hx hb hts hi1 tyX1 tyX1_ok nmX1 hown hK hP hap hS (58 + 52 * ((I 0 5).toNatClampNeg)) (s318 hk5.1) hk5.2 (C := RX1) (T := TX1) (N := 9) rfl 3 (by decide) (by decide) (by decide) (by decide) (hts (.fieldLink RX6 185 "CrateHelpers$Problem" "hasEnded" "Z") (by decide +kernel)) (fun _ h9 => h9) rfl (by decide +kernel) rfl rfl dX6_endSolving_36 (fun H locs hP hS => ?_)
    obtain ⟨I8, eI8, h⟩ := bd_e h
    rw [← eI8] at hP
    have hP : va_P D vwCl (VW K ad I8 G A6 L) H := hP
    refine lv_aload_n hx hb dX6_endSolving_39 rfl (lv_at hl 1 rfl) ?_
    refine vgG hx hb hts hi6 hown hK hP (0) (by decide) (show kd 0 = 6 by decide) (C := RX6) (T := TX6) (N := 18) rfl 6 (by decide) (by decide) (by decide) (by decide) (hts (.fieldLink RX6 82 "CrateHelpers" "lastEnded" "LCrateHelpers$Tree;") (by decide +kernel)) (fun _ h9 => h9) dX6_endSolving_40 ?_
    refine lv_astore_n (lv' := [(3, .ref (ad (G 0 6))), (2, .ref (ad (58 + 52 * ((I 0 5).toNatClampNeg)))), (0, .ref (ad 0)), (1, .int a1)]) hx hb dX6_endSolving_43 rfl hl (by decide) rfl (fun ls hl => ?_)
    refine lv_aload_n hx hb dX6_endSolving_44 rfl (lv_at hl 2 rfl) ?_
    refine lv_aload_n hx hb dX6_endSolving_45 rfl (lv_at hl 2 rfl) ?_
    refine vgC hx hb hts hi6 hown hK hP (0) (by decide) (show kd 0 = 6 by decide) (C := RX6) (T := TX6) (N := 18) rfl 4 (by decide) (by decide) (by decide) (by decide) (14) rfl (hts (.fieldLink RX6 73 "CrateHelpers" "solving" "LCrateHelpers$Solving;") (by decide +kernel)) (fun _ h9 => h9) dX6_endSolving_46 ?_
    refine vgG hx hb hts hi3 hown hK hP (14) (by decide) (show kd 14 = 3 by decide) (C := RX3) (T := TX3) (N := 6) rfl 0 (by decide) (by decide) (by decide) (by decide) (hts (.fieldLink RX6 294 "CrateHelpers$Solving" "tree" "LCrateHelpers$Tree;") (by decide +kernel)) (fun _ h9 => h9) dX6_endSolving_49 ?_
    refine vpG (q := (G 14 0)) (ty := .object "CrateHelpers$Tree") hx hb hts hi6 tyX6 tyX6_ok nmX6 hown hK hP hap hS (0) (by decide) (show kd 0 = 6 by decide) (C := RX6) (T := TX6) (N := 18) rfl 6 (by decide) (by decide) (by decide) (by decide) (hts (.fieldLink RX6 82 "CrateHelpers" "lastEnded" "LCrateHelpers$Tree;") (by decide +kernel)) (fun _ h9 => h9) rfl (by decide +kernel) rfl rfl dX6_endSolving_52 (fun H locs hP hS => ?_)
    obtain ⟨G9, eG9, h⟩ := bd_e h
    rw [← eG9] at hP
    have hP : va_P D vwCl (VW K ad I8 G9 A6 L) H := hP
    refine lv_aload_n hx hb dX6_endSolving_55 rfl (lv_at hl 2 rfl) ?_
    refine vgC hx hb hts hi6 hown hK hP (0) (by decide) (show kd 0 = 6 by decide) (C := RX6) (T := TX6) (N := 18) rfl 4 (by decide) (by decide) (by decide) (by decide) (14) rfl (hts (.fieldLink RX6 73 "CrateHelpers" "solving" "LCrateHelpers$Solving;") (by decide +kernel)) (fun _ h9 => h9) dX6_endSolving_56 ?_
    refine lv_aload_n hx hb dX6_endSolving_59 rfl (lv_at hl 0 rfl) ?_
    refine vpG (q := (G 0 6)) (ty := .object "CrateHelpers$Tree") hx hb hts hi3 tyX3 tyX3_ok nmX3 hown hK hP hap hS (14) (by decide) (show kd 14 = 3 by decide) (C := RX3) (T := TX3) (N := 6) rfl 0 (by decide) (by decide) (by decide) (by decide) (hts (.fieldLink RX6 294 "CrateHelpers$Solving" "tree" "LCrateHelpers$Tree;") (by decide +kernel)) (fun _ h9 => h9) rfl (by decide +kernel) rfl rfl dX6_endSolving_60 (fun H locs hP hS => ?_)
    obtain ⟨G10, eG10, h⟩ := bd_e h
    rw [← eG10] at hP
    have hP : va_P D vwCl (VW K ad I8 G10 A6 L) H := hP
    refine lv_aload_n hx hb dX6_endSolving_63 rfl (lv_at hl 2 rfl) ?_
    refine lv_bipush (v := (-9)) hx hb dX6_endSolving_64 (by decide) ?_
    refine vpI (v := (-9)) (ty := .int) hx hb hts hi6 tyX6 tyX6_ok nmX6 hown hK hP hap hS (0) (by decide) (show kd 0 = 6 by decide) (C := RX6) (T := TX6) (N := 18) rfl 5 (by decide) (by decide) (by decide) (by decide) (hts (.fieldLink RX6 29 "CrateHelpers" "underWay" "I") (by decide +kernel)) (fun _ h9 => h9) rfl (by decide +kernel) rfl rfl dX6_endSolving_66 (fun H locs hP hS => ?_)
    obtain ⟨I11, eI11, h⟩ := bd_e h
    rw [← eI11] at hP
    have hP : va_P D vwCl (VW K ad I11 G10 A6 L) H := hP
    exact W.vret hx hb hr (fun t9 ht9 hW9 => ⟨⟨(I11, G10, A6, L), rfl, by cases h; rfl, by rw [ht9]; exact hP, va_K.moved hW9.alike hK⟩, hS.F ht9⟩) hS.2.2 dX6_endSolving_69
  · have h := ip c_3 h
    exact W.vret hx hb hr (fun t9 ht9 hW9 => ⟨⟨(I, G, A, L), rfl, by cases h; rfl, by rw [ht9]; exact hP, va_K.moved hW9.alike hK⟩, hS.F ht9⟩) hS.2.2 dX6_endSolving_11
set_option maxHeartbeats 4000000 in
set_option maxRecDepth 100000 in
theorem e_X6_fail (l : Launch) (D : va_G) (K : Nat → ClassId) (ad : Nat → Nat) (hap0 : apart ad (fun _ => True)) (a1 : Int32) (a2 : Int32) (I : Nat → Nat → Int32) (G : Nat → Nat → Nat) (A : Nat → Nat → Int32) (L : Nat → Nat → Int64) (r0 : Int32) (A0 : Nat → Nat → Int32) (h : f_X6_fail I A a1 a2 = some (r0, A0)) : Ci l D K ad yX6_fail wsX6_fail 1 25 [.ref (ad 0), .int a1, .int a2] (I, G, A, L) (fun (r : Int32) (u : Mem) => r = r0 ∧ u = (I, G, A0, L)) := by
  intro sz
  refine Met.ofW (cc := cX6_fail) (maxL := 3) (ret := (some .int)) (by decide) rfl ?_
  intro p e s m args below meth c s₁ Bd hml hv0
  obtain ⟨rfl, hsz, hP, hK⟩ := hv0
  have hx := Bd.exec
  have hb := Bd.bytes
  have hr := Bd.returns
  have hts := atoms_spec (ws := wsX6_fail) Bd.pre
  have hown : s.vm.findClass RX6 = some m.cls := findClass_of_methodNamed Bd.named
  have hlocks := Bd.notSynchronized
  have hi6 : ∀ w ∈ u_ws RX6 TX6 18, w ∈ wsX6_fail := fun w h => List.mem_cons_of_mem _ (List.mem_append_left _ (List.mem_append_right _ h))
  have hi4 : ∀ w ∈ u_ws RX4 TX4 7, w ∈ wsX6_fail := fun w h => List.mem_cons_of_mem _ (List.mem_append_right _ h)
  subst hsz
  have hap := vF_ap hap0 s.heap.size
  have hS : va_S (vF ad s.heap.size) s.heap s.heap [] := va_S.rf
  have hP : va_P D vwCl (VW K ad I G A L) s.heap := hP
  have hl := lv_entry ([.ref (ad 0), .int a1, .int a2]) (n := 3) (Nat.le_of_ble_eq_true rfl)
  rw [lg_entry_eq]
  generalize (lg_sl ([.ref (ad 0), .int a1, .int a2]) ++ List.replicate (3 - (lg_sl ([.ref (ad 0), .int a1, .int a2])).length) Slot.unset).toArray = ls at hl ⊢
  have hl : lv_has ls 3 [(0, .ref (ad 0)), (1, .int a1), (2, .int a2)] := hl
  rw [f_X6_fail] at h
  refine lv_iload_n hx hb dX6_fail_0 rfl (lv_at hl 1 rfl) ?_
  refine lv_iconst (v := 0) hx hb dX6_fail_1 (by decide) ?_
  refine lv_aload_n hx hb dX6_fail_2 rfl (lv_at hl 0 rfl) ?_
  refine vgC hx hb hts hi6 hown hK hP (0) (by decide) (show kd 0 = 6 by decide) (C := RX6) (T := TX6) (N := 18) rfl 2 (by decide) (by decide) (by decide) (by decide) (2) rfl (hts (.fieldLink RX6 22 "CrateHelpers" "team" "LCrateHelpers$Team;") (by decide +kernel)) (fun _ h9 => h9) dX6_fail_3 ?_
  refine vgI hx hb hts hi4 hown hK hP (2) (by decide) (show kd 2 = 4 by decide) (C := RX4) (T := TX4) (N := 7) rfl 0 (by decide) (by decide) (by decide) (by decide) (hts (.fieldLink RX6 158 "CrateHelpers$Team" "size" "I") (by decide +kernel)) (fun _ h9 => h9) dX6_fail_6 ?_
  refine lv_iconst (v := 1) hx hb dX6_fail_9 (by decide) ?_
  refine lv_isub hx hb dX6_fail_10 ?_
  obtain ⟨r1, hc2, h⟩ := Option.bind_eq_some_iff.mp h
  refine ecS (As := [.int a1, .int 0, .int ((I 2 0) - 1)]) (rest := []) ⟨hx, hb, hml, hown, hts⟩ (e_X6_isWithin l D K ad hap0 a1 0 ((I 2 0) - 1) I G A L r1 hc2) (va_cwS 3 hts gX6_fail_X6_isWithin rfl rfl rfl (by decide +kernel) ⟨Nat.le_of_ble_eq_true rfl, Nat.le_of_ble_eq_true rfl⟩) hK hP hS rfl hl.1 (Nat.le_of_ble_eq_true rfl) (Nat.le_of_ble_eq_true rfl) (Nat.le_of_ble_eq_true rfl) dX6_fail_11 (fun H locs hP hS => ?_) rfl
  have hP : va_P D vwCl (VW K ad I G A L) H := hP
  refine lv_if_eq (tgt := 28) hx hb dX6_fail_14 (by decide) (fun c_3 => ?_) (fun c_3 => ?_)
  · have h := ip c_3 h
    refine lv_iconst (v := (-1)) hx hb dX6_fail_28 (by decide) ?_
    exact W.iret (v := (-1)) hx hb hr (fun t9 ht9 hW9 => ⟨⟨(-1), (I, G, A, L), rfl, by cases h; exact ⟨rfl, rfl⟩, by rw [ht9]; exact hP, va_K.moved hW9.alike hK⟩, hS.F ht9⟩) hS.2.2 dX6_fail_29
  · have h := iN c_3 h
    refine lv_iload_n hx hb dX6_fail_17 rfl (lv_at hl 2 rfl) ?_
    refine lv_iconst (v := 0) hx hb dX6_fail_18 (by decide) ?_
    refine lv_sipush (v := 200) hx hb dX6_fail_19 (by decide) ?_
    obtain ⟨r4, hc5, h⟩ := Option.bind_eq_some_iff.mp h
    refine ecS (As := [.int a2, .int 0, .int 200]) (rest := []) ⟨hx, hb, hml, hown, hts⟩ (e_X6_isWithin l D K ad hap0 a2 0 200 I G A L r4 hc5) (va_cwS 3 hts gX6_fail_X6_isWithin rfl rfl rfl (by decide +kernel) ⟨Nat.le_of_ble_eq_true rfl, Nat.le_of_ble_eq_true rfl⟩) hK hP hS rfl hl.1 (Nat.le_of_ble_eq_true rfl) (Nat.le_of_ble_eq_true rfl) (Nat.le_of_ble_eq_true rfl) dX6_fail_22 (fun H locs hP hS => ?_) rfl
    have hP : va_P D vwCl (VW K ad I G A L) H := hP
    refine lv_if_ne (tgt := 30) hx hb dX6_fail_25 (by decide) (fun c_6 => ?_) (fun c_6 => ?_)
    · have h := iN c_6 h
      refine lv_aload_n hx hb dX6_fail_30 rfl (lv_at hl 0 rfl) ?_
      refine vgI hx hb hts hi6 hown hK hP (0) (by decide) (show kd 0 = 6 by decide) (C := RX6) (T := TX6) (N := 18) rfl 5 (by decide) (by decide) (by decide) (by decide) (hts (.fieldLink RX6 29 "CrateHelpers" "underWay" "I") (by decide +kernel)) (fun _ h9 => h9) dX6_fail_31 ?_
      refine lv_bipush (v := (-9)) hx hb dX6_fail_34 (by decide) ?_
      refine lv_icmp_eq (tgt := 42) hx hb dX6_fail_36 (by decide) (fun c_7 => ?_) (fun c_7 => ?_)
      · have h := ip c_7 h
        refine lv_aload_n hx hb dX6_fail_42 rfl (lv_at hl 0 rfl) ?_
        refine vgC hx hb hts hi6 hown hK hP (0) (by decide) (show kd 0 = 6 by decide) (C := RX6) (T := TX6) (N := 18) rfl 2 (by decide) (by decide) (by decide) (by decide) (2) rfl (hts (.fieldLink RX6 22 "CrateHelpers" "team" "LCrateHelpers$Team;") (by decide +kernel)) (fun _ h9 => h9) dX6_fail_43 ?_
        refine vgS hx hb hts hi4 hown hK hP (2) (by decide) (show kd 2 = 4 by decide) (C := RX4) (T := TX4) (N := 7) rfl 2 (by decide) (by decide) (by decide) (by decide) (3) rfl (hts (.fieldLink RX6 165 "CrateHelpers$Team" "failAt" "[I") (by decide +kernel)) (fun _ h9 => h9) dX6_fail_46 ?_
        refine lv_iload_n hx hb dX6_fail_49 rfl (lv_at hl 1 rfl) ?_
        refine lv_iload_n hx hb dX6_fail_50 rfl (lv_at hl 2 rfl) ?_
        obtain ⟨hn8, h⟩ := gk h
        refine xiast hx hb hK hP hap hS (3) (by decide) (show kd 3 = 8 by decide) (by rw [show ln 3 = 5 by decide]; exact hn8) dX6_fail_51 (fun H locs hP hS => ?_)
        obtain ⟨A9, eA9, h⟩ := bd_e h
        rw [← eA9] at hP
        have hP : va_P D vwCl (VW K ad I G A9 L) H := hP
        refine lv_iconst (v := 1) hx hb dX6_fail_52 (by decide) ?_
        exact W.iret (v := 1) hx hb hr (fun t9 ht9 hW9 => ⟨⟨1, (I, G, A9, L), rfl, by cases h; exact ⟨rfl, rfl⟩, by rw [ht9]; exact hP, va_K.moved hW9.alike hK⟩, hS.F ht9⟩) hS.2.2 dX6_fail_53
      · have h := iN c_7 h
        refine lv_bipush (v := (-2)) hx hb dX6_fail_39 (by decide) ?_
        exact W.iret (v := (-2)) hx hb hr (fun t9 ht9 hW9 => ⟨⟨(-2), (I, G, A, L), rfl, by cases h; exact ⟨rfl, rfl⟩, by rw [ht9]; exact hP, va_K.moved hW9.alike hK⟩, hS.F ht9⟩) hS.2.2 dX6_fail_41
    · have h := ip c_6 h
      refine lv_iconst (v := (-1)) hx hb dX6_fail_28 (by decide) ?_
      exact W.iret (v := (-1)) hx hb hr (fun t9 ht9 hW9 => ⟨⟨(-1), (I, G, A, L), rfl, by cases h; exact ⟨rfl, rfl⟩, by rw [ht9]; exact hP, va_K.moved hW9.alike hK⟩, hS.F ht9⟩) hS.2.2 dX6_fail_29
