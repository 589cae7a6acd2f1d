set_option maxHeartbeats 4000000 in
set_option maxRecDepth 100000 in
theorem e_X7_costs (l : Launch) (D : va_G) (K : Nat → ClassId) (ad : Nat → Nat) (hap0 : apart ad (fun _ => True)) (a1 : Int32) (a2 : Int32) (a3 : Int32) (I : Nat → Nat → Int32) (G : Nat → Nat → Nat) (A : Nat → Nat → Int32) (L : Nat → Nat → Int64) (r0 : Int32) (I0 : Nat → Nat → Int32) (h : f_X7_costs I A a1 a2 a3 = some (r0, I0)) : Ci l D K ad yX7_costs wsX7_costs 3 75 [.ref (ad 318), .int a1, .int a2, .int a3] (I, G, A, L) (fun (r : Int32) (u : Mem) => r = r0 ∧ u = (I0, G, A, L)) := by
  intro sz
  refine Met.ofW (cc := cX7_costs) (maxL := 4) (ret := (some .int)) (by decide) rfl ?_
  intro p e s m args below meth c s₁ Bd hml hv0
  obtain ⟨rfl, hsz, hP, hK⟩ := hv0
  have hx := Bd.exec
  have hb := Bd.bytes
  have hr := Bd.returns
  have hts := atoms_spec (ws := wsX7_costs) Bd.pre
  have hown : s.vm.findClass RX7 = some m.cls := findClass_of_methodNamed Bd.named
  have hlocks := Bd.notSynchronized
  have hi7 : ∀ w ∈ u_ws RX7 TX7 79, w ∈ wsX7_costs := fun w h => List.mem_cons_of_mem _ (List.mem_append_right _ h)
  subst hsz
  have hap := vF_ap hap0 s.heap.size
  have hS : va_S (vF ad s.heap.size) s.heap s.heap [] := va_S.rf
  have hP : va_P D vwCl (VW K ad I G A L) s.heap := hP
  have hl := lv_entry ([.ref (ad 318), .int a1, .int a2, .int a3]) (n := 4) (Nat.le_of_ble_eq_true rfl)
  rw [lg_entry_eq]
  generalize (lg_sl ([.ref (ad 318), .int a1, .int a2, .int a3]) ++ List.replicate (4 - (lg_sl ([.ref (ad 318), .int a1, .int a2, .int a3])).length) Slot.unset).toArray = ls at hl ⊢
  have hl : lv_has ls 4 [(0, .ref (ad 318)), (1, .int a1), (2, .int a2), (3, .int a3)] := hl
  rw [f_X7_costs] at h
  refine lv_aload_n hx hb dX7_costs_0 rfl (lv_at hl 0 rfl) ?_
  refine lv_iconst (v := 0) hx hb dX7_costs_1 (by decide) ?_
  refine vpI (v := 0) (ty := .int) hx hb hts hi7 tyX7 tyX7_ok nmX7 hown hK hP hap hS (318) (by decide) (show kd 318 = 7 by decide) (C := RX7) (T := TX7) (N := 79) rfl 0 (by decide) (by decide) (by decide) (by decide) (hts (.fieldLink RX7 201 "CrateHelpersModel" "thrown" "I") (by decide +kernel)) (fun _ h9 => h9) rfl (by decide +kernel) rfl rfl dX7_costs_2 (fun H locs hP hS => ?_)
  obtain ⟨I1, eI1, h⟩ := bd_e h
  rw [← eI1] at hP
  have hP : va_P D vwCl (VW K ad I1 G A L) H := hP
  refine lv_aload_n hx hb dX7_costs_5 rfl (lv_at hl 0 rfl) ?_
  refine lv_iconst (v := 0) hx hb dX7_costs_6 (by decide) ?_
  refine vpI (v := 0) (ty := .int) hx hb hts hi7 tyX7 tyX7_ok nmX7 hown hK hP hap hS (318) (by decide) (show kd 318 = 7 by decide) (C := RX7) (T := TX7) (N := 79) rfl 1 (by decide) (by decide) (by decide) (by decide) (hts (.fieldLink RX7 221 "CrateHelpersModel" "status" "I") (by decide +kernel)) (fun _ h9 => h9) rfl (by decide +kernel) rfl rfl dX7_costs_7 (fun H locs hP hS => ?_)
  obtain ⟨I2, eI2, h⟩ := bd_e h
  rw [← eI2] at hP
  have hP : va_P D vwCl (VW K ad I2 G A L) H := hP
  refine lv_aload_n hx hb dX7_costs_10 rfl (lv_at hl 0 rfl) ?_
  refine lv_iload_n hx hb dX7_costs_11 rfl (lv_at hl 1 rfl) ?_
  refine lv_iload_n hx hb dX7_costs_12 rfl (lv_at hl 2 rfl) ?_
  refine lv_iload_n hx hb dX7_costs_13 rfl (lv_at hl 3 rfl) ?_
  obtain ⟨r3, hc4, h⟩ := Option.bind_eq_some_iff.mp h
  refine ecV (As := [.int a1, .int a2, .int a3]) (rest := []) ⟨hx, hb, hml, hown, hts⟩ (e_X7_isValue l D K ad hap0 a1 a2 a3 I2 G A L r3 hc4) (cwV 3 hts gX7_costs_X7_isValue rfl rfl rfl (by decide +kernel) ⟨Nat.le_of_ble_eq_true rfl, Nat.le_of_ble_eq_true rfl⟩) hK hP hS (by decide) (show kd 318 = 7 by decide) (by decide) rfl rfl rfl hl.1 (Nat.le_of_ble_eq_true rfl) (Nat.le_of_ble_eq_true rfl) (Nat.le_of_ble_eq_true rfl) dX7_costs_14 (fun H locs hP hS => ?_) rfl
  have hP : va_P D vwCl (VW K ad I2 G A L) H := hP
  refine lv_if_eq (tgt := 30) hx hb dX7_costs_17 (by decide) (fun c_5 => ?_) (fun c_5 => ?_)
  · have h := ip c_5 h
    refine lv_aload_n hx hb dX7_costs_30 rfl (lv_at hl 0 rfl) ?_
    refine lv_iconst (v := (-1)) hx hb dX7_costs_31 (by decide) ?_
    obtain ⟨⟨r6, I7⟩, hc8, h⟩ := Option.bind_eq_some_iff.mp h
    refine ecV (As := [.int (-1)]) (rest := []) ⟨hx, hb, hml, hown, hts⟩ (e_X7_no l D K ad hap0 (-1) I2 G A L r6 I7 hc8) (cwV 1 hts gX7_costs_X7_no rfl rfl rfl (by decide +kernel) ⟨Nat.le_of_ble_eq_true rfl, Nat.le_of_ble_eq_true rfl⟩) hK hP hS (by decide) (show kd 318 = 7 by decide) (by decide) rfl rfl rfl hl.1 (Nat.le_of_ble_eq_true rfl) (Nat.le_of_ble_eq_true rfl) (Nat.le_of_ble_eq_true rfl) dX7_costs_32 (fun H locs hP hS => ?_) rfl
    have hP : va_P D vwCl (VW K ad I7 G A L) H := hP
    exact W.iret (v := r6) hx hb hr (fun t9 ht9 hW9 => ⟨⟨r6, (I7, G, A, L), rfl, by cases h; exact ⟨rfl, rfl⟩, by rw [ht9]; exact hP, va_K.moved hW9.alike hK⟩, hS.F ht9⟩) hS.2.2 dX7_costs_35
  · have h := iN c_5 h
    refine lv_aload_n hx hb dX7_costs_20 rfl (lv_at hl 0 rfl) ?_
    refine lv_iload_n hx hb dX7_costs_21 rfl (lv_at hl 1 rfl) ?_
    refine lv_iload_n hx hb dX7_costs_22 rfl (lv_at hl 2 rfl) ?_
    refine lv_iload_n hx hb dX7_costs_23 rfl (lv_at hl 3 rfl) ?_
    obtain ⟨r9, hc10, h⟩ := Option.bind_eq_some_iff.mp h
    refine ecV (As := [.int a1, .int a2, .int a3]) (rest := []) ⟨hx, hb, hml, hown, hts⟩ (e_X7_costAt l D K ad hap0 a1 a2 a3 I2 G A L r9 hc10) (cwV 3 hts gX7_costs_X7_costAt rfl rfl rfl (by decide +kernel) ⟨Nat.le_of_ble_eq_true rfl, Nat.le_of_ble_eq_true rfl⟩) hK hP hS (by decide) (show kd 318 = 7 by decide) (by decide) rfl rfl rfl hl.1 (Nat.le_of_ble_eq_true rfl) (Nat.le_of_ble_eq_true rfl) (Nat.le_of_ble_eq_true rfl) dX7_costs_24 (fun H locs hP hS => ?_) rfl
    have hP : va_P D vwCl (VW K ad I2 G A L) H := hP
    refine lv_goto (tgt := 35) hx hb dX7_costs_27 (by decide) ?_
    exact W.iret (v := r9) hx hb hr (fun t9 ht9 hW9 => ⟨⟨r9, (I2, G, A, L), rfl, by cases h; exact ⟨rfl, rfl⟩, by rw [ht9]; exact hP, va_K.moved hW9.alike hK⟩, hS.F ht9⟩) hS.2.2 dX7_costs_35
set_option maxHeartbeats 4000000 in
set_option maxRecDepth 100000 in
theorem e_X7_count (l : Launch) (D : va_G) (K : Nat → ClassId) (ad : Nat → Nat) (hap0 : apart ad (fun _ => True)) (a1 : Int32) (I : Nat → Nat → Int32) (G : Nat → Nat → Nat) (A : Nat → Nat → Int32) (L : Nat → Nat → Int64) (r0 : Int32) (I0 : Nat → Nat → Int32) (h : f_X7_count I a1 = some (r0, I0)) : Ci l D K ad yX7_count wsX7_count 0 0 [.ref (ad 318), .int a1] (I, G, A, L) (fun (r : Int32) (u : Mem) => r = r0 ∧ u = (I0, G, A, L)) := by
  intro sz
  refine Met.ofW (cc := cX7_count) (maxL := 2) (ret := (some .int)) (by decide) rfl ?_
  intro p e s m args below meth c s₁ Bd hml hv0
  obtain ⟨rfl, hsz, hP, hK⟩ := hv0
  have hx := Bd.exec
  have hb := Bd.bytes
  have hr := Bd.returns
  have hts := atoms_spec (ws := wsX7_count) Bd.pre
  have hown : s.vm.findClass RX7 = some m.cls := findClass_of_methodNamed Bd.named
  have hlocks := Bd.notSynchronized
  have hi7 : ∀ w ∈ u_ws RX7 TX7 79, w ∈ wsX7_count := fun w h => List.mem_cons_of_mem _ (List.mem_append_right _ h)
  subst hsz
  have hap := vF_ap hap0 s.heap.size
  have hS : va_S (vF ad s.heap.size) s.heap s.heap [] := va_S.rf
  have hP : va_P D vwCl (VW K ad I G A L) s.heap := hP
  have hl := lv_entry ([.ref (ad 318), .int a1]) (n := 2) (Nat.le_of_ble_eq_true rfl)
  rw [lg_entry_eq]
  generalize (lg_sl ([.ref (ad 318), .int a1]) ++ List.replicate (2 - (lg_sl ([.ref (ad 318), .int a1])).length) Slot.unset).toArray = ls at hl ⊢
  have hl : lv_has ls 2 [(0, .ref (ad 318)), (1, .int a1)] := hl
  rw [f_X7_count] at h
  refine lv_aload_n hx hb dX7_count_0 rfl (lv_at hl 0 rfl) ?_
  refine lv_iconst (v := 0) hx hb dX7_count_1 (by decide) ?_
  refine vpI (v := 0) (ty := .int) hx hb hts hi7 tyX7 tyX7_ok nmX7 hown hK hP hap hS (318) (by decide) (show kd 318 = 7 by decide) (C := RX7) (T := TX7) (N := 79) rfl 0 (by decide) (by decide) (by decide) (by decide) (hts (.fieldLink RX7 201 "CrateHelpersModel" "thrown" "I") (by decide +kernel)) (fun _ h9 => h9) rfl (by decide +kernel) rfl rfl dX7_count_2 (fun H locs hP hS => ?_)
  obtain ⟨I1, eI1, h⟩ := bd_e h
  rw [← eI1] at hP
  have hP : va_P D vwCl (VW K ad I1 G A L) H := hP
  refine lv_iload_n hx hb dX7_count_5 rfl (lv_at hl 1 rfl) ?_
  rcases sw_7 a1 with hs2 | hs2 | hs2 | hs2 | hs2 | hs2 | hs2 | hs2 | hs2
  · have h := ip hs2 h
    refine W_top hs2 ?_
    refine lv_tableIn (off := 46) (tgt := 52) hx hb dX7_count_6 (by decide) (by decide) (by decide) (by decide) ?_
    refine lv_aload_n hx hb dX7_count_52 rfl (lv_at hl 0 rfl) ?_
    refine vgI hx hb hts hi7 hown hK hP (318) (by decide) (show kd 318 = 7 by decide) (C := RX7) (T := TX7) (N := 79) rfl 2 (by decide) (by decide) (by decide) (by decide) (hts (.fieldLink RX7 204 "CrateHelpersModel" "problems" "I") (by decide +kernel)) (fun _ h9 => h9) dX7_count_53 ?_
    exact W.iret (v := (I1 318 2)) hx hb hr (fun t9 ht9 hW9 => ⟨⟨(I1 318 2), (I1, G, A, L), rfl, by cases h; exact ⟨rfl, rfl⟩, by rw [ht9]; exact hP, va_K.moved hW9.alike hK⟩, hS.F ht9⟩) hS.2.2 dX7_count_56
  · have h := iN (by rw [hs2]; decide) h
    have h := ip hs2 h
    refine W_top hs2 ?_
    refine lv_tableIn (off := 51) (tgt := 57) hx hb dX7_count_6 (by decide) (by decide) (by decide) (by decide) ?_
    refine lv_aload_n hx hb dX7_count_57 rfl (lv_at hl 0 rfl) ?_
    refine vgI hx hb hts hi7 hown hK hP (318) (by decide) (show kd 318 = 7 by decide) (C := RX7) (T := TX7) (N := 79) rfl 19 (by decide) (by decide) (by decide) (by decide) (hts (.fieldLink RX7 246 "CrateHelpersModel" "limit" "I") (by decide +kernel)) (fun _ h9 => h9) dX7_count_58 ?_
    exact W.iret (v := (I1 318 19)) hx hb hr (fun t9 ht9 hW9 => ⟨⟨(I1 318 19), (I1, G, A, L), rfl, by cases h; exact ⟨rfl, rfl⟩, by rw [ht9]; exact hP, va_K.moved hW9.alike hK⟩, hS.F ht9⟩) hS.2.2 dX7_count_61
  · have h := iN (by rw [hs2]; decide) h
    have h := iN (by rw [hs2]; decide) h
    have h := ip hs2 h
    refine W_top hs2 ?_
    refine lv_tableIn (off := 56) (tgt := 62) hx hb dX7_count_6 (by decide) (by decide) (by decide) (by decide) ?_
    refine lv_aload_n hx hb dX7_count_62 rfl (lv_at hl 0 rfl) ?_
    refine vgI hx hb hts hi7 hown hK hP (318) (by decide) (show kd 318 = 7 by decide) (C := RX7) (T := TX7) (N := 79) rfl 15 (by decide) (by decide) (by decide) (by decide) (hts (.fieldLink RX7 43 "CrateHelpersModel" "helpers" "I") (by decide +kernel)) (fun _ h9 => h9) dX7_count_63 ?_
    exact W.iret (v := (I1 318 15)) hx hb hr (fun t9 ht9 hW9 => ⟨⟨(I1 318 15), (I1, G, A, L), rfl, by cases h; exact ⟨rfl, rfl⟩, by rw [ht9]; exact hP, va_K.moved hW9.alike hK⟩, hS.F ht9⟩) hS.2.2 dX7_count_66
  · have h := iN (by rw [hs2]; decide) h
    have h := iN (by rw [hs2]; decide) h
    have h := iN (by rw [hs2]; decide) h
    have h := ip hs2 h
    refine W_top hs2 ?_
    refine lv_tableIn (off := 61) (tgt := 67) hx hb dX7_count_6 (by decide) (by decide) (by decide) (by decide) ?_
    refine lv_aload_n hx hb dX7_count_67 rfl (lv_at hl 0 rfl) ?_
    refine vgI hx hb hts hi7 hown hK hP (318) (by decide) (show kd 318 = 7 by decide) (C := RX7) (T := TX7) (N := 79) rfl 18 (by decide) (by decide) (by decide) (by decide) (hts (.fieldLink RX7 243 "CrateHelpersModel" "scheduled" "I") (by decide +kernel)) (fun _ h9 => h9) dX7_count_68 ?_
    exact W.iret (v := (I1 318 18)) hx hb hr (fun t9 ht9 hW9 => ⟨⟨(I1 318 18), (I1, G, A, L), rfl, by cases h; exact ⟨rfl, rfl⟩, by rw [ht9]; exact hP, va_K.moved hW9.alike hK⟩, hS.F ht9⟩) hS.2.2 dX7_count_71
  · have h := iN (by rw [hs2]; decide) h
    have h := iN (by rw [hs2]; decide) h
    have h := iN (by rw [hs2]; decide) h
    have h := iN (by rw [hs2]; decide) h
    have h := ip hs2 h
    refine W_top hs2 ?_
    refine lv_tableIn (off := 66) (tgt := 72) hx hb dX7_count_6 (by decide) (by decide) (by decide) (by decide) ?_
    refine lv_aload_n hx hb dX7_count_72 rfl (lv_at hl 0 rfl) ?_
    refine vgI hx hb hts hi7 hown hK hP (318) (by decide) (show kd 318 = 7 by decide) (C := RX7) (T := TX7) (N := 79) rfl 23 (by decide) (by decide) (by decide) (by decide) (hts (.fieldLink RX7 62 "CrateHelpersModel" "under" "I") (by decide +kernel)) (fun _ h9 => h9) dX7_count_73 ?_
    exact W.iret (v := (I1 318 23)) hx hb hr (fun t9 ht9 hW9 => ⟨⟨(I1 318 23), (I1, G, A, L), rfl, by cases h; exact ⟨rfl, rfl⟩, by rw [ht9]; exact hP, va_K.moved hW9.alike hK⟩, hS.F ht9⟩) hS.2.2 dX7_count_76
  · have h := iN (by rw [hs2]; decide) h
    have h := iN (by rw [hs2]; decide) h
    have h := iN (by rw [hs2]; decide) h
    have h := iN (by rw [hs2]; decide) h
    have h := iN (by rw [hs2]; decide) h
    have h := ip hs2 h
    refine W_top hs2 ?_
    refine lv_tableIn (off := 71) (tgt := 77) hx hb dX7_count_6 (by decide) (by decide) (by decide) (by decide) ?_
    refine lv_aload_n hx hb dX7_count_77 rfl (lv_at hl 0 rfl) ?_
    refine vgI hx hb hts hi7 hown hK hP (318) (by decide) (show kd 318 = 7 by decide) (C := RX7) (T := TX7) (N := 79) rfl 23 (by decide) (by decide) (by decide) (by decide) (hts (.fieldLink RX7 62 "CrateHelpersModel" "under" "I") (by decide +kernel)) (fun _ h9 => h9) dX7_count_78 ?_
    refine lv_bipush (v := (-9)) hx hb dX7_count_81 (by decide) ?_
    refine lv_icmp_ne (tgt := 90) hx hb dX7_count_83 (by decide) (fun c_3 => ?_) (fun c_3 => ?_)
    · have h := iN c_3 h
      refine lv_aload_n hx hb dX7_count_90 rfl (lv_at hl 0 rfl) ?_
      refine vgI hx hb hts hi7 hown hK hP (318) (by decide) (show kd 318 = 7 by decide) (C := RX7) (T := TX7) (N := 79) rfl 29 (by decide) (by decide) (by decide) (by decide) (hts (.fieldLink RX7 284 "CrateHelpersModel" "nodes" "I") (by decide +kernel)) (fun _ h9 => h9) dX7_count_91 ?_
      exact W.iret (v := (I1 318 29)) hx hb hr (fun t9 ht9 hW9 => ⟨⟨(I1 318 29), (I1, G, A, L), rfl, by cases h; exact ⟨rfl, rfl⟩, by rw [ht9]; exact hP, va_K.moved hW9.alike hK⟩, hS.F ht9⟩) hS.2.2 dX7_count_94
    · have h := ip c_3 h
      refine lv_iconst (v := 0) hx hb dX7_count_86 (by decide) ?_
      refine lv_goto (tgt := 94) hx hb dX7_count_87 (by decide) ?_
      exact W.iret (v := 0) hx hb hr (fun t9 ht9 hW9 => ⟨⟨0, (I1, G, A, L), rfl, by cases h; exact ⟨rfl, rfl⟩, by rw [ht9]; exact hP, va_K.moved hW9.alike hK⟩, hS.F ht9⟩) hS.2.2 dX7_count_94
  · have h := iN (by rw [hs2]; decide) h
    have h := iN (by rw [hs2]; decide) h
    have h := iN (by rw [hs2]; decide) h
    have h := iN (by rw [hs2]; decide) h
    have h := iN (by rw [hs2]; decide) h
    have h := iN (by rw [hs2]; decide) h
    have h := ip hs2 h
    refine W_top hs2 ?_
    refine lv_tableIn (off := 89) (tgt := 95) hx hb dX7_count_6 (by decide) (by decide) (by decide) (by decide) ?_
    refine lv_aload_n hx hb dX7_count_95 rfl (lv_at hl 0 rfl) ?_
    refine vgI hx hb hts hi7 hown hK hP (318) (by decide) (show kd 318 = 7 by decide) (C := RX7) (T := TX7) (N := 79) rfl 23 (by decide) (by decide) (by decide) (by decide) (hts (.fieldLink RX7 62 "CrateHelpersModel" "under" "I") (by decide +kernel)) (fun _ h9 => h9) dX7_count_96 ?_
    refine lv_bipush (v := (-9)) hx hb dX7_count_99 (by decide) ?_
    refine lv_icmp_ne (tgt := 108) hx hb dX7_count_101 (by decide) (fun c_4 => ?_) (fun c_4 => ?_)
    · have h := iN c_4 h
      refine lv_aload_n hx hb dX7_count_108 rfl (lv_at hl 0 rfl) ?_
      refine vgI hx hb hts hi7 hown hK hP (318) (by decide) (show kd 318 = 7 by decide) (C := RX7) (T := TX7) (N := 79) rfl 30 (by decide) (by decide) (by decide) (by decide) (hts (.fieldLink RX7 287 "CrateHelpersModel" "done" "I") (by decide +kernel)) (fun _ h9 => h9) dX7_count_109 ?_
      exact W.iret (v := (I1 318 30)) hx hb hr (fun t9 ht9 hW9 => ⟨⟨(I1 318 30), (I1, G, A, L), rfl, by cases h; exact ⟨rfl, rfl⟩, by rw [ht9]; exact hP, va_K.moved hW9.alike hK⟩, hS.F ht9⟩) hS.2.2 dX7_count_112
    · have h := ip c_4 h
      refine lv_iconst (v := 0) hx hb dX7_count_104 (by decide) ?_
      refine lv_goto (tgt := 112) hx hb dX7_count_105 (by decide) ?_
      exact W.iret (v := 0) hx hb hr (fun t9 ht9 hW9 => ⟨⟨0, (I1, G, A, L), rfl, by cases h; exact ⟨rfl, rfl⟩, by rw [ht9]; exact hP, va_K.moved hW9.alike hK⟩, hS.F ht9⟩) hS.2.2 dX7_count_112
  · have h := iN (by rw [hs2]; decide) h
    have h := iN (by rw [hs2]; decide) h
    have h := iN (by rw [hs2]; decide) h
    have h := iN (by rw [hs2]; decide) h
    have h := iN (by rw [hs2]; decide) h
    have h := iN (by rw [hs2]; decide) h
    have h := iN (by rw [hs2]; decide) h
    have h := ip hs2 h
    refine W_top hs2 ?_
    refine lv_tableIn (off := 107) (tgt := 113) hx hb dX7_count_6 (by decide) (by decide) (by decide) (by decide) ?_
    refine lv_aload_n hx hb dX7_count_113 rfl (lv_at hl 0 rfl) ?_
    refine vgI hx hb hts hi7 hown hK hP (318) (by decide) (show kd 318 = 7 by decide) (C := RX7) (T := TX7) (N := 79) rfl 23 (by decide) (by decide) (by decide) (by decide) (hts (.fieldLink RX7 62 "CrateHelpersModel" "under" "I") (by decide +kernel)) (fun _ h9 => h9) dX7_count_114 ?_
    refine lv_bipush (v := (-9)) hx hb dX7_count_117 (by decide) ?_
    refine lv_icmp_ne (tgt := 126) hx hb dX7_count_119 (by decide) (fun c_5 => ?_) (fun c_5 => ?_)
    · have h := iN c_5 h
      refine lv_aload_n hx hb dX7_count_126 rfl (lv_at hl 0 rfl) ?_
      refine vgI hx hb hts hi7 hown hK hP (318) (by decide) (show kd 318 = 7 by decide) (C := RX7) (T := TX7) (N := 79) rfl 31 (by decide) (by decide) (by decide) (by decide) (hts (.fieldLink RX7 303 "CrateHelpersModel" "taken" "I") (by decide +kernel)) (fun _ h9 => h9) dX7_count_127 ?_
      exact W.iret (v := (I1 318 31)) hx hb hr (fun t9 ht9 hW9 => ⟨⟨(I1 318 31), (I1, G, A, L), rfl, by cases h; exact ⟨rfl, rfl⟩, by rw [ht9]; exact hP, va_K.moved hW9.alike hK⟩, hS.F ht9⟩) hS.2.2 dX7_count_130
    · have h := ip c_5 h
      refine lv_iconst (v := 0) hx hb dX7_count_122 (by decide) ?_
      refine lv_goto (tgt := 130) hx hb dX7_count_123 (by decide) ?_
      exact W.iret (v := 0) hx hb hr (fun t9 ht9 hW9 => ⟨⟨0, (I1, G, A, L), rfl, by cases h; exact ⟨rfl, rfl⟩, by rw [ht9]; exact hP, va_K.moved hW9.alike hK⟩, hS.F ht9⟩) hS.2.2 dX7_count_130
  · have h := iN (fun q => by rw [q] at hs2; exact absurd hs2 (by decide)) h
    have h := iN (fun q => by rw [q] at hs2; exact absurd hs2 (by decide)) h
    have h := iN (fun q => by rw [q] at hs2; exact absurd hs2 (by decide)) h
    have h := iN (fun q => by rw [q] at hs2; exact absurd hs2 (by decide)) h
    have h := iN (fun q => by rw [q] at hs2; exact absurd hs2 (by decide)) h
    have h := iN (fun q => by rw [q] at hs2; exact absurd hs2 (by decide)) h
    have h := iN (fun q => by rw [q] at hs2; exact absurd hs2 (by decide)) h
    have h := iN (fun q => by rw [q] at hs2; exact absurd hs2 (by decide)) h
    refine lv_tableOut (tgt := 131) hx hb dX7_count_6 hs2 (by decide) ?_
    refine lv_iconst (v := (-1)) hx hb dX7_count_131 (by decide) ?_
    exact W.iret (v := (-1)) hx hb hr (fun t9 ht9 hW9 => ⟨⟨(-1), (I1, G, A, L), rfl, by cases h; exact ⟨rfl, rfl⟩, by rw [ht9]; exact hP, va_K.moved hW9.alike hK⟩, hS.F ht9⟩) hS.2.2 dX7_count_132
set_option maxHeartbeats 4000000 in
set_option maxRecDepth 100000 in
theorem e_X7_isAhead (l : Launch) (D : va_G) (K : Nat → ClassId) (ad : Nat → Nat) (hap0 : apart ad (fun _ => True)) (a1 : Int32) (a2 : Int32) (I : Nat → Nat → Int32) (G : Nat → Nat → Nat) (A : Nat → Nat → Int32) (L : Nat → Nat → Int64) (r0 : Int32) (h : f_X7_isAhead A a1 a2 = some r0) : Ci l D K ad yX7_isAhead wsX7_isAhead 0 0 [.ref (ad 318), .int a1, .int a2] (I, G, A, L) (fun (r : Int32) (u : Mem) => r = r0 ∧ u = (I, G, A, L)) := by
  intro sz
  refine Met.ofW (cc := cX7_isAhead) (maxL := 3) (ret := (some .boolean)) (by decide) rfl ?_
  intro p e s m args below meth c s₁ Bd hml hv0
  obtain ⟨rfl, hsz, hP, hK⟩ := hv0
  have hx := Bd.exec
  have hb := Bd.bytes
  have hr := Bd.returns
  have hts := atoms_spec (ws := wsX7_isAhead) Bd.pre
  have hown : s.vm.findClass RX7 = some m.cls := findClass_of_methodNamed Bd.named
  have hlocks := Bd.notSynchronized
  have hi7 : ∀ w ∈ u_ws RX7 TX7 79, w ∈ wsX7_isAhead := fun w h => List.mem_cons_of_mem _ (List.mem_append_right _ h)
  subst hsz
  have hap := vF_ap hap0 s.heap.size
  have hS : va_S (vF ad s.heap.size) s.heap s.heap [] := va_S.rf
  have hP : va_P D vwCl (VW K ad I G A L) s.heap := hP
  have hl := lv_entry ([.ref (ad 318), .int a1, .int a2]) (n := 3) (Nat.le_of_ble_eq_true rfl)
  rw [lg_entry_eq]
  generalize (lg_sl ([.ref (ad 318), .int a1, .int a2]) ++ List.replicate (3 - (lg_sl ([.ref (ad 318), .int a1, .int a2])).length) Slot.unset).toArray = ls at hl ⊢
  have hl : lv_has ls 3 [(0, .ref (ad 318)), (1, .int a1), (2, .int a2)] := hl
  rw [f_X7_isAhead] at h
  refine lv_aload_n hx hb dX7_isAhead_0 rfl (lv_at hl 0 rfl) ?_
  refine vgC hx hb hts hi7 hown hK hP (318) (by decide) (show kd 318 = 7 by decide) (C := RX7) (T := TX7) (N := 79) rfl 35 (by decide) (by decide) (by decide) (by decide) (341) rfl (hts (.fieldLink RX7 83 "CrateHelpersModel" "bound" "[I") (by decide +kernel)) (fun _ h9 => h9) dX7_isAhead_1 ?_
  refine lv_iload_n hx hb dX7_isAhead_4 rfl (lv_at hl 1 rfl) ?_
  obtain ⟨hn1, h⟩ := gk h
  refine xiald hx hb hK hP (341) (by decide) (show kd 341 = 8 by decide) (by rw [show ln 341 = 2000 by decide]; exact hn1) dX7_isAhead_5 ?_
  refine lv_aload_n hx hb dX7_isAhead_6 rfl (lv_at hl 0 rfl) ?_
  refine vgC hx hb hts hi7 hown hK hP (318) (by decide) (show kd 318 = 7 by decide) (C := RX7) (T := TX7) (N := 79) rfl 35 (by decide) (by decide) (by decide) (by decide) (341) rfl (hts (.fieldLink RX7 83 "CrateHelpersModel" "bound" "[I") (by decide +kernel)) (fun _ h9 => h9) dX7_isAhead_7 ?_
  refine lv_iload_n hx hb dX7_isAhead_10 rfl (lv_at hl 2 rfl) ?_
  obtain ⟨hn2, h⟩ := gk h
  refine xiald hx hb hK hP (341) (by decide) (show kd 341 = 8 by decide) (by rw [show ln 341 = 2000 by decide]; exact hn2) dX7_isAhead_11 ?_
  refine lv_icmp_lt (tgt := 45) hx hb dX7_isAhead_12 (by decide) (fun c_3 => ?_) (fun c_3 => ?_)
  · have h := ip c_3 h
    refine lv_iconst (v := 1) hx hb dX7_isAhead_45 (by decide) ?_
    refine lv_goto (tgt := 50) hx hb dX7_isAhead_46 (by decide) ?_
    exact W.zret (v := 1) hx hb hr (by decide) (fun t9 ht9 hW9 => ⟨⟨1, (I, G, A, L), rfl, by cases h; exact ⟨rfl, rfl⟩, by rw [ht9]; exact hP, va_K.moved hW9.alike hK⟩, hS.F ht9⟩) hS.2.2 dX7_isAhead_50
  · have h := iN c_3 h
    refine lv_aload_n hx hb dX7_isAhead_15 rfl (lv_at hl 0 rfl) ?_
    refine vgC hx hb hts hi7 hown hK hP (318) (by decide) (show kd 318 = 7 by decide) (C := RX7) (T := TX7) (N := 79) rfl 35 (by decide) (by decide) (by decide) (by decide) (341) rfl (hts (.fieldLink RX7 83 "CrateHelpersModel" "bound" "[I") (by decide +kernel)) (fun _ h9 => h9) dX7_isAhead_16 ?_
    refine lv_iload_n hx hb dX7_isAhead_19 rfl (lv_at hl 1 rfl) ?_
    refine xiald hx hb hK hP (341) (by decide) (show kd 341 = 8 by decide) (by rw [show ln 341 = 2000 by decide]; exact hn1) dX7_isAhead_20 ?_
    refine lv_aload_n hx hb dX7_isAhead_21 rfl (lv_at hl 0 rfl) ?_
    refine vgC hx hb hts hi7 hown hK hP (318) (by decide) (show kd 318 = 7 by decide) (C := RX7) (T := TX7) (N := 79) rfl 35 (by decide) (by decide) (by decide) (by decide) (341) rfl (hts (.fieldLink RX7 83 "CrateHelpersModel" "bound" "[I") (by decide +kernel)) (fun _ h9 => h9) dX7_isAhead_22 ?_
    refine lv_iload_n hx hb dX7_isAhead_25 rfl (lv_at hl 2 rfl) ?_
    refine xiald hx hb hK hP (341) (by decide) (show kd 341 = 8 by decide) (by rw [show ln 341 = 2000 by decide]; exact hn2) dX7_isAhead_26 ?_
    refine lv_icmp_ne (tgt := 49) hx hb dX7_isAhead_27 (by decide) (fun c_4 => ?_) (fun c_4 => ?_)
    · have h := iN c_4 h
      refine lv_iconst (v := 0) hx hb dX7_isAhead_49 (by decide) ?_
      exact W.zret (v := 0) hx hb hr (by decide) (fun t9 ht9 hW9 => ⟨⟨0, (I, G, A, L), rfl, by cases h; exact ⟨rfl, rfl⟩, by rw [ht9]; exact hP, va_K.moved hW9.alike hK⟩, hS.F ht9⟩) hS.2.2 dX7_isAhead_50
    · have h := ip c_4 h
      refine lv_aload_n hx hb dX7_isAhead_30 rfl (lv_at hl 0 rfl) ?_
      refine vgC hx hb hts hi7 hown hK hP (318) (by decide) (show kd 318 = 7 by decide) (C := RX7) (T := TX7) (N := 79) rfl 34 (by decide) (by decide) (by decide) (by decide) (340) rfl (hts (.fieldLink RX7 80 "CrateHelpersModel" "key" "[I") (by decide +kernel)) (fun _ h9 => h9) dX7_isAhead_31 ?_
      refine lv_iload_n hx hb dX7_isAhead_34 rfl (lv_at hl 1 rfl) ?_
      refine xiald hx hb hK hP (340) (by decide) (show kd 340 = 8 by decide) (by rw [show ln 340 = 2000 by decide]; exact hn1) dX7_isAhead_35 ?_
      refine lv_aload_n hx hb dX7_isAhead_36 rfl (lv_at hl 0 rfl) ?_
      refine vgC hx hb hts hi7 hown hK hP (318) (by decide) (show kd 318 = 7 by decide) (C := RX7) (T := TX7) (N := 79) rfl 34 (by decide) (by decide) (by decide) (by decide) (340) rfl (hts (.fieldLink RX7 80 "CrateHelpersModel" "key" "[I") (by decide +kernel)) (fun _ h9 => h9) dX7_isAhead_37 ?_
      refine lv_iload_n hx hb dX7_isAhead_40 rfl (lv_at hl 2 rfl) ?_
      refine xiald hx hb hK hP (340) (by decide) (show kd 340 = 8 by decide) (by rw [show ln 340 = 2000 by decide]; exact hn2) dX7_isAhead_41 ?_
      refine lv_icmp_ge (tgt := 49) hx hb dX7_isAhead_42 (by decide) (fun c_5 => ?_) (fun c_5 => ?_)
      · have h := iN (Int32.not_lt.mpr c_5) h
        refine lv_iconst (v := 0) hx hb dX7_isAhead_49 (by decide) ?_
        exact W.zret (v := 0) hx hb hr (by decide) (fun t9 ht9 hW9 => ⟨⟨0, (I, G, A, L), rfl, by cases h; exact ⟨rfl, rfl⟩, by rw [ht9]; exact hP, va_K.moved hW9.alike hK⟩, hS.F ht9⟩) hS.2.2 dX7_isAhead_50
      · have h := ip (Int32.not_le.mp c_5) h
        refine lv_iconst (v := 1) hx hb dX7_isAhead_45 (by decide) ?_
        refine lv_goto (tgt := 50) hx hb dX7_isAhead_46 (by decide) ?_
        exact W.zret (v := 1) hx hb hr (by decide) (fun t9 ht9 hW9 => ⟨⟨1, (I, G, A, L), rfl, by cases h; exact ⟨rfl, rfl⟩, by rw [ht9]; exact hP, va_K.moved hW9.alike hK⟩, hS.F ht9⟩) hS.2.2 dX7_isAhead_50
set_option maxHeartbeats 4000000 in
set_option maxRecDepth 100000 in
theorem e_X7_nextOf (l : Launch) (D : va_G) (K : Nat → ClassId) (ad : Nat → Nat) (hap0 : apart ad (fun _ => True)) (I : Nat → Nat → Int32) (G : Nat → Nat → Nat) (A : Nat → Nat → Int32) (L : Nat → Nat → Int64) (r0 : Int32) (h : f_X7_nextOf I A = some r0) : Ci l D K ad yX7_nextOf wsX7_nextOf 1 25 [.ref (ad 318)] (I, G, A, L) (fun (r : Int32) (u : Mem) => r = r0 ∧ u = (I, G, A, L)) := by
  intro sz
  refine Met.ofW (cc := cX7_nextOf) (maxL := 4) (ret := (some .int)) (by decide) rfl ?_
  intro p e s m args below meth c s₁ Bd hml hv0
  obtain ⟨rfl, hsz, hP, hK⟩ := hv0
  have hx := Bd.exec
  have hb := Bd.bytes
  have hr := Bd.returns
  have hts := atoms_spec (ws := wsX7_nextOf) Bd.pre
  have hown : s.vm.findClass RX7 = some m.cls := findClass_of_methodNamed Bd.named
  have hlocks := Bd.notSynchronized
  have hi7 : ∀ w ∈ u_ws RX7 TX7 79, w ∈ wsX7_nextOf := fun w h => List.mem_cons_of_mem _ (List.mem_append_right _ h)
  subst hsz
  have hap := vF_ap hap0 s.heap.size
  have hS : va_S (vF ad s.heap.size) s.heap s.heap [] := va_S.rf
  have hP : va_P D vwCl (VW K ad I G A L) s.heap := hP
  have hl := lv_entry ([.ref (ad 318)]) (n := 4) (Nat.le_of_ble_eq_true rfl)
  rw [lg_entry_eq]
  generalize (lg_sl ([.ref (ad 318)]) ++ List.replicate (4 - (lg_sl ([.ref (ad 318)])).length) Slot.unset).toArray = ls at hl ⊢
  have hl : lv_has ls 4 [(0, .ref (ad 318))] := hl
  rw [f_X7_nextOf] at h
  refine lv_bipush (v := (-9)) hx hb dX7_nextOf_0 (by decide) ?_
  refine lv_istore_n (lv' := [(1, .int (-9)), (0, .ref (ad 318))]) hx hb dX7_nextOf_2 rfl hl (by decide) rfl (fun ls hl => ?_)
  refine lv_iconst (v := 0) hx hb dX7_nextOf_3 (by decide) ?_
  refine lv_istore_n (lv' := [(2, .int 0), (1, .int (-9)), (0, .ref (ad 318))]) hx hb dX7_nextOf_4 rfl hl (by decide) rfl (fun ls hl => ?_)
  obtain ⟨k4, ek4, h⟩ := bd_e h
  have kk4 : ∀ (v5 : Int32), k4 v5 = some r0 → ∀ (H : Heap) (locs : List Loc), va_P D vwCl (VW K ad I G A L) H → va_S (vF ad s.heap.size) s.heap H locs → ∀ (ls : Array Slot), lv_has ls 4 [(1, .int v5)] → W p l e ({ frames := 1, cells := 0, slots := 0, locals := 25 }) s m ([.ref (ad 318)] : List Value).toArray below meth c H locs 0 0 (MQ below (va_Qi (fun (r : Int32) (u : Mem) => r = r0 ∧ u = (I, G, A, L)) (vB D K ad) (vF ad s.heap.size)) ([.ref (ad 318)] : List Value).toArray s 0 0 (vF ad s.heap.size)) (F0 m 84 ls []) := by
    intro v5 h H locs hP hS ls hl
    subst ek4
    refine lv_iload_n hx hb dX7_nextOf_84 rfl (lv_at hl 0 rfl) ?_
    exact W.iret (v := v5) hx hb hr (fun t9 ht9 hW9 => ⟨⟨v5, (I, G, A, L), rfl, by cases h; exact ⟨rfl, rfl⟩, by rw [ht9]; exact hP, va_K.moved hW9.alike hK⟩, hS.F ht9⟩) hS.2.2 dX7_nextOf_85
  have lp1 : ∀ (n : Nat) (v2 : Int32) (v3 : Int32), f_X7_nextOf_L5 I A k4 n v2 v3 = some r0 → ∀ (H : Heap) (locs : List Loc), va_P D vwCl (VW K ad I G A L) H → va_S (vF ad s.heap.size) s.heap H locs → ∀ (ls : Array Slot), lv_has ls 4 [(2, .int v2), (1, .int v3), (0, .ref (ad 318))] → W p l e ({ frames := 1, cells := 0, slots := 0, locals := 25 }) s m ([.ref (ad 318)] : List Value).toArray below meth c H locs 0 0 (MQ below (va_Qi (fun (r : Int32) (u : Mem) => r = r0 ∧ u = (I, G, A, L)) (vB D K ad) (vF ad s.heap.size)) ([.ref (ad 318)] : List Value).toArray s 0 0 (vF ad s.heap.size)) (F0 m 5 ls []) := by
    intro n
    induction n with
    | zero => intro v2 v3 h; exact absurd h (by rw [f_X7_nextOf_L5]; exact nofun)
    | succ n ih1 =>
      intro v2 v3 h H locs hP hS ls hl
      rw [f_X7_nextOf_L5] at h
      refine lv_iload_n hx hb dX7_nextOf_5 rfl (lv_at hl 0 rfl) ?_
      refine lv_aload_n hx hb dX7_nextOf_6 rfl (lv_at hl 2 rfl) ?_
      refine vgI hx hb hts hi7 hown hK hP (318) (by decide) (show kd 318 = 7 by decide) (C := RX7) (T := TX7) (N := 79) rfl 29 (by decide) (by decide) (by decide) (by decide) (hts (.fieldLink RX7 284 "CrateHelpersModel" "nodes" "I") (by decide +kernel)) (fun _ h9 => h9) dX7_nextOf_7 ?_
      refine lv_icmp_ge (tgt := 84) hx hb dX7_nextOf_10 (by decide) (fun c_6 => ?_) (fun c_6 => ?_)
      · have h := iN (Int32.not_lt.mpr c_6) h
        exact kk4 v3 h _ _ hP hS ls (lv_sub hl [1] rfl)
      · have h := ip (Int32.not_le.mp c_6) h
        refine lv_aload_n hx hb dX7_nextOf_13 rfl (lv_at hl 2 rfl) ?_
        refine vgC hx hb hts hi7 hown hK hP (318) (by decide) (show kd 318 = 7 by decide) (C := RX7) (T := TX7) (N := 79) rfl 39 (by decide) (by decide) (by decide) (by decide) (345) rfl (hts (.fieldLink RX7 96 "CrateHelpersModel" "isTaken" "[Z") (by decide +kernel)) (fun _ h9 => h9) dX7_nextOf_14 ?_
        refine lv_iload_n hx hb dX7_nextOf_17 rfl (lv_at hl 0 rfl) ?_
        obtain ⟨hn7, h⟩ := gk h
        refine xzald hx hb hK hP (345) (by decide) (show kd 345 = 11 by decide) (by rw [show ln 345 = 2000 by decide]; exact hn7) dX7_nextOf_18 ?_
        obtain ⟨j12, ej12, h⟩ := bd_e h
        have kj12 : ∀ (z11 : Int32), j12 z11 = some r0 → ∀ (H : Heap) (locs : List Loc), va_P D vwCl (VW K ad I G A L) H → va_S (vF ad s.heap.size) s.heap H locs → ∀ (ls : Array Slot), lv_has ls 4 [(2, .int v2), (1, .int v3), (0, .ref (ad 318))] → W p l e ({ frames := 1, cells := 0, slots := 0, locals := 25 }) s m ([.ref (ad 318)] : List Value).toArray below meth c H locs 0 0 (MQ below (va_Qi (fun (r : Int32) (u : Mem) => r = r0 ∧ u = (I, G, A, L)) (vB D K ad) (vF ad s.heap.size)) ([.ref (ad 318)] : List Value).toArray s 0 0 (vF ad s.heap.size)) (F0 m 52 ls [.int z11]) := by
          intro z11 h H locs hP hS ls hl
          subst ej12
          refine lv_istore_n (lv' := [(3, .int z11), (2, .int v2), (1, .int v3), (0, .ref (ad 318))]) hx hb dX7_nextOf_52 rfl hl (by decide) rfl (fun ls hl => ?_)
          refine lv_iload_n hx hb dX7_nextOf_53 rfl (lv_at hl 0 rfl) ?_
          refine lv_if_eq (tgt := 76) hx hb dX7_nextOf_54 (by decide) (fun c_13 => ?_) (fun c_13 => ?_)
          · have h := ip c_13 h
            refine lv_iload_n hx hb dX7_nextOf_76 rfl (lv_at hl 2 rfl) ?_
            refine lv_istore_n (lv' := [(1, .int v3), (3, .int z11), (2, .int v2), (0, .ref (ad 318))]) hx hb dX7_nextOf_77 rfl hl (by decide) rfl (fun ls hl => ?_)
            refine lv_iinc (v := (v2 + 1)) (lv' := [(2, .int (v2 + 1)), (1, .int v3), (3, .int z11), (0, .ref (ad 318))]) hx hb dX7_nextOf_78 hl (k := 2) rfl rfl (by decide) rfl (fun ls hl => ?_)
            refine lv_goto (tgt := 5) hx hb dX7_nextOf_81 (by decide) ?_
            exact ih1 (v2 + 1) v3 h _ _ hP hS ls (lv_sub hl [0, 1, 3] rfl)
          · have h := iN c_13 h
            refine lv_iload_n hx hb dX7_nextOf_57 rfl (lv_at hl 2 rfl) ?_
            refine lv_bipush (v := (-9)) hx hb dX7_nextOf_58 (by decide) ?_
            refine lv_icmp_eq (tgt := 72) hx hb dX7_nextOf_60 (by decide) (fun c_14 => ?_) (fun c_14 => ?_)
            · have h := ip c_14 h
              refine lv_iload_n hx hb dX7_nextOf_72 rfl (lv_at hl 1 rfl) ?_
              refine lv_goto (tgt := 77) hx hb dX7_nextOf_73 (by decide) ?_
              refine lv_istore_n (lv' := [(1, .int v2), (3, .int z11), (2, .int v2), (0, .ref (ad 318))]) hx hb dX7_nextOf_77 rfl hl (by decide) rfl (fun ls hl => ?_)
              refine lv_iinc (v := (v2 + 1)) (lv' := [(2, .int (v2 + 1)), (1, .int v2), (3, .int z11), (0, .ref (ad 318))]) hx hb dX7_nextOf_78 hl (k := 2) rfl rfl (by decide) rfl (fun ls hl => ?_)
              refine lv_goto (tgt := 5) hx hb dX7_nextOf_81 (by decide) ?_
              exact ih1 (v2 + 1) v2 h _ _ hP hS ls (lv_sub hl [0, 1, 3] rfl)
            · have h := iN c_14 h
              refine lv_aload_n hx hb dX7_nextOf_63 rfl (lv_at hl 3 rfl) ?_
              refine lv_iload_n hx hb dX7_nextOf_64 rfl (lv_at hl 1 rfl) ?_
              refine lv_iload_n hx hb dX7_nextOf_65 rfl (lv_at hl 2 rfl) ?_
              obtain ⟨r15, hc16, h⟩ := Option.bind_eq_some_iff.mp h
              refine ecV (As := [.int v2, .int v3]) (rest := []) ⟨hx, hb, hml, hown, hts⟩ (e_X7_isAhead l D K ad hap0 v2 v3 I G A L r15 hc16) (cwV 2 hts gX7_nextOf_X7_isAhead rfl rfl rfl (by decide +kernel) ⟨Nat.le_of_ble_eq_true rfl, Nat.le_of_ble_eq_true rfl⟩) hK hP hS (by decide) (show kd 318 = 7 by decide) (by decide) rfl rfl rfl hl.1 (Nat.le_of_ble_eq_true rfl) (Nat.le_of_ble_eq_true rfl) (Nat.le_of_ble_eq_true rfl) dX7_nextOf_66 (fun H locs hP hS => ?_) rfl
              have hP : va_P D vwCl (VW K ad I G A L) H := hP
              refine lv_if_eq (tgt := 76) hx hb dX7_nextOf_69 (by decide) (fun c_17 => ?_) (fun c_17 => ?_)
              · have h := ip c_17 h
                refine lv_iload_n hx hb dX7_nextOf_76 rfl (lv_at hl 2 rfl) ?_
                refine lv_istore_n (lv' := [(1, .int v3), (3, .int z11), (2, .int v2), (0, .ref (ad 318))]) hx hb dX7_nextOf_77 rfl hl (by decide) rfl (fun ls hl => ?_)
                refine lv_iinc (v := (v2 + 1)) (lv' := [(2, .int (v2 + 1)), (1, .int v3), (3, .int z11), (0, .ref (ad 318))]) hx hb dX7_nextOf_78 hl (k := 2) rfl rfl (by decide) rfl (fun ls hl => ?_)
                refine lv_goto (tgt := 5) hx hb dX7_nextOf_81 (by decide) ?_
                exact ih1 (v2 + 1) v3 h _ _ hP hS ls (lv_sub hl [0, 1, 3] rfl)
              · have h := iN c_17 h
                refine lv_iload_n hx hb dX7_nextOf_72 rfl (lv_at hl 1 rfl) ?_
                refine lv_goto (tgt := 77) hx hb dX7_nextOf_73 (by decide) ?_
                refine lv_istore_n (lv' := [(1, .int v2), (3, .int z11), (2, .int v2), (0, .ref (ad 318))]) hx hb dX7_nextOf_77 rfl hl (by decide) rfl (fun ls hl => ?_)
                refine lv_iinc (v := (v2 + 1)) (lv' := [(2, .int (v2 + 1)), (1, .int v2), (3, .int z11), (0, .ref (ad 318))]) hx hb dX7_nextOf_78 hl (k := 2) rfl rfl (by decide) rfl (fun ls hl => ?_)
                refine lv_goto (tgt := 5) hx hb dX7_nextOf_81 (by decide) ?_
                exact ih1 (v2 + 1) v2 h _ _ hP hS ls (lv_sub hl [0, 1, 3] rfl)
        refine lv_if_ne (tgt := 51) hx hb dX7_nextOf_19 (by decide) (fun c_18 => ?_) (fun c_18 => ?_)
        · have h := iN c_18 h
          refine lv_iconst (v := 0) hx hb dX7_nextOf_51 (by decide) ?_
          exact kj12 0 h _ _ hP hS ls (lv_sub hl [0, 1, 2] rfl)
        · have h := ip c_18 h
          refine lv_aload_n hx hb dX7_nextOf_22 rfl (lv_at hl 2 rfl) ?_
          refine vgC hx hb hts hi7 hown hK hP (318) (by decide) (show kd 318 = 7 by decide) (C := RX7) (T := TX7) (N := 79) rfl 36 (by decide) (by decide) (by decide) (by decide) (342) rfl (hts (.fieldLink RX7 86 "CrateHelpersModel" "above" "[I") (by decide +kernel)) (fun _ h9 => h9) dX7_nextOf_23 ?_
          refine lv_iload_n hx hb dX7_nextOf_26 rfl (lv_at hl 0 rfl) ?_
          refine xiald hx hb hK hP (342) (by decide) (show kd 342 = 8 by decide) (by rw [show ln 342 = 2000 by decide]; exact hn7) dX7_nextOf_27 ?_
          refine lv_bipush (v := (-9)) hx hb dX7_nextOf_28 (by decide) ?_
          refine lv_icmp_eq (tgt := 47) hx hb dX7_nextOf_30 (by decide) (fun c_19 => ?_) (fun c_19 => ?_)
          · have h := ip c_19 h
            refine lv_iconst (v := 1) hx hb dX7_nextOf_47 (by decide) ?_
            refine lv_goto (tgt := 52) hx hb dX7_nextOf_48 (by decide) ?_
            exact kj12 1 h _ _ hP hS ls (lv_sub hl [0, 1, 2] rfl)
          · have h := iN c_19 h
            refine lv_aload_n hx hb dX7_nextOf_33 rfl (lv_at hl 2 rfl) ?_
            refine vgC hx hb hts hi7 hown hK hP (318) (by decide) (show kd 318 = 7 by decide) (C := RX7) (T := TX7) (N := 79) rfl 39 (by decide) (by decide) (by decide) (by decide) (345) rfl (hts (.fieldLink RX7 96 "CrateHelpersModel" "isTaken" "[Z") (by decide +kernel)) (fun _ h9 => h9) dX7_nextOf_34 ?_
            refine lv_aload_n hx hb dX7_nextOf_37 rfl (lv_at hl 2 rfl) ?_
            refine vgC hx hb hts hi7 hown hK hP (318) (by decide) (show kd 318 = 7 by decide) (C := RX7) (T := TX7) (N := 79) rfl 36 (by decide) (by decide) (by decide) (by decide) (342) rfl (hts (.fieldLink RX7 86 "CrateHelpersModel" "above" "[I") (by decide +kernel)) (fun _ h9 => h9) dX7_nextOf_38 ?_
            refine lv_iload_n hx hb dX7_nextOf_41 rfl (lv_at hl 0 rfl) ?_
            refine xiald hx hb hK hP (342) (by decide) (show kd 342 = 8 by decide) (by rw [show ln 342 = 2000 by decide]; exact hn7) dX7_nextOf_42 ?_
            obtain ⟨hn20, h⟩ := gk h
            refine xzald hx hb hK hP (345) (by decide) (show kd 345 = 11 by decide) (by rw [show ln 345 = 2000 by decide]; exact hn20) dX7_nextOf_43 ?_
            refine lv_if_eq (tgt := 51) hx hb dX7_nextOf_44 (by decide) (fun c_21 => ?_) (fun c_21 => ?_)
            · have h := ip c_21 h
              refine lv_iconst (v := 0) hx hb dX7_nextOf_51 (by decide) ?_
              exact kj12 0 h _ _ hP hS ls (lv_sub hl [0, 1, 2] rfl)
            · have h := iN c_21 h
              refine lv_iconst (v := 1) hx hb dX7_nextOf_47 (by decide) ?_
              refine lv_goto (tgt := 52) hx hb dX7_nextOf_48 (by decide) ?_
              exact kj12 1 h _ _ hP hS ls (lv_sub hl [0, 1, 2] rfl)
  exact lp1 FU 0 (-9) h _ _ hP hS ls (lv_sub hl [0, 1, 2] rfl)
