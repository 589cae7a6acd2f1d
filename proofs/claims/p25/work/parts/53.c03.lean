set_option maxHeartbeats 4000000 in
set_option maxRecDepth 100000 in
theorem e_X6_part (l : Launch) (D : va_G) (K : Nat → ClassId) (ad : Nat → Nat) (hap0 : apart ad (fun _ => True)) (a1 : Int32) (a2 : Int32) (a3 : Int32) (a4 : Int32) (I : Nat → Nat → Int32) (G : Nat → Nat → Nat) (A : Nat → Nat → Int32) (L : Nat → Nat → Int64) (r0 : Int32) (I0 : Nat → Nat → Int32) (A0 : Nat → Nat → Int32) (h : f_X6_part I A a1 a2 a3 a4 = some (r0, I0, A0)) : Ci l D K ad yX6_part wsX6_part 2 51 [.ref (ad 0), .int a1, .int a2, .int a3, .int a4] (I, G, A, L) (fun (r : Int32) (u : Mem) => r = r0 ∧ u = (I0, G, A0, L)) := by
  intro sz
  refine Met.ofW (cc := cX6_part) (maxL := 6) (ret := (some .int)) (by decide) rfl ?_
  intro p e s m args below meth c s₁ Bd hml hv0
  obtain ⟨rfl, hsz, hP, hK⟩ := hv0
  have hx := Bd.exec
  have hb := Bd.bytes
  have hr := Bd.returns
  have hts := atoms_spec (ws := wsX6_part) Bd.pre
  have hown : s.vm.findClass RX6 = some m.cls := findClass_of_methodNamed Bd.named
  have hlocks := Bd.notSynchronized
  have hi6 : ∀ w ∈ u_ws RX6 TX6 18, w ∈ wsX6_part := fun w h => List.mem_cons_of_mem _ (List.mem_append_left _ (List.mem_append_left _ (List.mem_append_right _ h)))
  have hi1 : ∀ w ∈ u_ws RX1 TX1 9, w ∈ wsX6_part := fun w h => List.mem_cons_of_mem _ (List.mem_append_left _ (List.mem_append_right _ h))
  have hi2 : ∀ w ∈ u_ws RX2 TX2 7, w ∈ wsX6_part := fun w h => List.mem_cons_of_mem _ (List.mem_append_right _ h)
  subst hsz
  have hap := vF_ap hap0 s.heap.size
  have hS : va_S (vF ad s.heap.size) s.heap s.heap [] := va_S.rf
  have hP : va_P D vwCl (VW K ad I G A L) s.heap := hP
  have hl := lv_entry ([.ref (ad 0), .int a1, .int a2, .int a3, .int a4]) (n := 6) (Nat.le_of_ble_eq_true rfl)
  rw [lg_entry_eq]
  generalize (lg_sl ([.ref (ad 0), .int a1, .int a2, .int a3, .int a4]) ++ List.replicate (6 - (lg_sl ([.ref (ad 0), .int a1, .int a2, .int a3, .int a4])).length) Slot.unset).toArray = ls at hl ⊢
  have hl : lv_has ls 6 [(0, .ref (ad 0)), (1, .int a1), (2, .int a2), (3, .int a3), (4, .int a4)] := hl
  rw [f_X6_part] at h
  refine lv_aload_n hx hb dX6_part_0 rfl (lv_at hl 0 rfl) ?_
  refine lv_iload_n hx hb dX6_part_1 rfl (lv_at hl 1 rfl) ?_
  obtain ⟨r1, hc2, h⟩ := Option.bind_eq_some_iff.mp h
  refine ecV (As := [.int a1]) (rest := []) ⟨hx, hb, hml, hown, hts⟩ (e_X6_isProblem l D K ad hap0 a1 I G A L r1 hc2) (cwV 1 hts gX6_part_X6_isProblem rfl rfl rfl (by decide +kernel) ⟨Nat.le_of_ble_eq_true rfl, Nat.le_of_ble_eq_true rfl⟩) hK hP hS (by decide) (show kd 0 = 6 by decide) (by decide) rfl rfl rfl hl.1 (Nat.le_of_ble_eq_true rfl) (Nat.le_of_ble_eq_true rfl) (Nat.le_of_ble_eq_true rfl) dX6_part_2 (fun H locs hP hS => ?_) rfl
  have hP : va_P D vwCl (VW K ad I G A L) H := hP
  refine lv_if_eq (tgt := 20) hx hb dX6_part_5 (by decide) (fun c_3 => ?_) (fun c_3 => ?_)
  · have h := ip c_3 h
    refine lv_iconst (v := (-1)) hx hb dX6_part_20 (by decide) ?_
    exact W.iret (v := (-1)) hx hb hr (fun t9 ht9 hW9 => ⟨⟨(-1), (I, G, A, L), rfl, by cases h; exact ⟨rfl, rfl⟩, by rw [ht9]; exact hP, va_K.moved hW9.alike hK⟩, hS.F ht9⟩) hS.2.2 dX6_part_21
  · have h := iN c_3 h
    refine lv_iload hx hb dX6_part_8 (lv_at hl 4 rfl) ?_
    refine lv_bipush (v := (-50)) hx hb dX6_part_10 (by decide) ?_
    refine lv_bipush (v := 50) hx hb dX6_part_12 (by decide) ?_
    obtain ⟨r4, hc5, h⟩ := Option.bind_eq_some_iff.mp h
    refine ecS (As := [.int a4, .int (-50), .int 50]) (rest := []) ⟨hx, hb, hml, hown, hts⟩ (e_X6_isWithin l D K ad hap0 a4 (-50) 50 I G A L r4 hc5) (va_cwS 3 hts gX6_part_X6_isWithin rfl rfl rfl (by decide +kernel) ⟨Nat.le_of_ble_eq_true rfl, Nat.le_of_ble_eq_true rfl⟩) hK hP hS rfl hl.1 (Nat.le_of_ble_eq_true rfl) (Nat.le_of_ble_eq_true rfl) (Nat.le_of_ble_eq_true rfl) dX6_part_14 (fun H locs hP hS => ?_) rfl
    have hP : va_P D vwCl (VW K ad I G A L) H := hP
    refine lv_if_ne (tgt := 22) hx hb dX6_part_17 (by decide) (fun c_6 => ?_) (fun c_6 => ?_)
    · have h := iN c_6 h
      refine lv_aload_n hx hb dX6_part_22 rfl (lv_at hl 0 rfl) ?_
      refine vgC hx hb hts hi6 hown hK hP (0) (by decide) (show kd 0 = 6 by decide) (C := RX6) (T := TX6) (N := 18) rfl 0 (by decide) (by decide) (by decide) (by decide) (1) rfl (hts (.fieldLink RX6 11 "CrateHelpers" "problems" "[LCrateHelpers$Problem;") (by decide +kernel)) (fun _ h9 => h9) dX6_part_23 ?_
      refine lv_iload_n hx hb dX6_part_26 rfl (lv_at hl 1 rfl) ?_
      obtain ⟨hn7, h⟩ := gk h
      refine xaald hx hb hK hP (1) (by decide) 5 13 (show kd 1 = 13 by decide) (by decide) rfl (by rw [show ln 1 = 5 by decide]; exact hn7) (58 + 52 * a1.toNatClampNeg) (drf13 ((show kd 1 = 13 by decide))) dX6_part_27 ?_
      refine lv_astore (lv' := [(5, .ref (ad (58 + 52 * a1.toNatClampNeg))), (0, .ref (ad 0)), (1, .int a1), (2, .int a2), (3, .int a3), (4, .int a4)]) hx hb dX6_part_28 hl (by decide) rfl (fun ls hl => ?_)
      refine lv_aload hx hb dX6_part_30 (lv_at hl 0 rfl) ?_
      refine lv_iload_n hx hb dX6_part_32 rfl (lv_at hl 3 rfl) ?_
      obtain ⟨hk8, h⟩ := gk h
      obtain ⟨r9, hc10, h⟩ := Option.bind_eq_some_iff.mp h
      refine ecV (As := [.int a2]) (rest := []) ⟨hx, hb, hml, hown, hts⟩ (e_X1_hasRule l D K ad hap0 (58 + 52 * a1.toNatClampNeg) a2 I G A L r9 hc10) (cwV 1 hts gX6_part_X1_hasRule rfl rfl rfl (by decide +kernel) ⟨Nat.le_of_ble_eq_true rfl, Nat.le_of_ble_eq_true rfl⟩) hK hP hS (s318 hk8.1) hk8.2 (by decide) rfl rfl rfl hl.1 (Nat.le_of_ble_eq_true rfl) (Nat.le_of_ble_eq_true rfl) (Nat.le_of_ble_eq_true rfl) dX6_part_33 (fun H locs hP hS => ?_) rfl
      have hP : va_P D vwCl (VW K ad I G A L) H := hP
      refine lv_if_eq (tgt := 48) hx hb dX6_part_36 (by decide) (fun c_11 => ?_) (fun c_11 => ?_)
      · have h := ip c_11 h
        refine lv_iconst (v := (-1)) hx hb dX6_part_48 (by decide) ?_
        exact W.iret (v := (-1)) hx hb hr (fun t9 ht9 hW9 => ⟨⟨(-1), (I, G, A, L), rfl, by cases h; exact ⟨rfl, rfl⟩, by rw [ht9]; exact hP, va_K.moved hW9.alike hK⟩, hS.F ht9⟩) hS.2.2 dX6_part_49
      · have h := iN c_11 h
        refine lv_aload hx hb dX6_part_39 (lv_at hl 0 rfl) ?_
        refine lv_iload_n hx hb dX6_part_41 rfl (lv_at hl 4 rfl) ?_
        obtain ⟨r12, hc13, h⟩ := Option.bind_eq_some_iff.mp h
        refine ecV (As := [.int a3]) (rest := []) ⟨hx, hb, hml, hown, hts⟩ (e_X1_hasVariable l D K ad hap0 (58 + 52 * a1.toNatClampNeg) a3 I G A L r12 hc13) (cwV 1 hts gX6_part_X1_hasVariable rfl rfl rfl (by decide +kernel) ⟨Nat.le_of_ble_eq_true rfl, Nat.le_of_ble_eq_true rfl⟩) hK hP hS (s318 hk8.1) hk8.2 (by decide) rfl rfl rfl hl.1 (Nat.le_of_ble_eq_true rfl) (Nat.le_of_ble_eq_true rfl) (Nat.le_of_ble_eq_true rfl) dX6_part_42 (fun H locs hP hS => ?_) rfl
        have hP : va_P D vwCl (VW K ad I G A L) H := hP
        refine lv_if_ne (tgt := 50) hx hb dX6_part_45 (by decide) (fun c_14 => ?_) (fun c_14 => ?_)
        · have h := iN c_14 h
          refine lv_aload_n hx hb dX6_part_50 rfl (lv_at hl 1 rfl) ?_
          refine vgI hx hb hts hi6 hown hK hP (0) (by decide) (show kd 0 = 6 by decide) (C := RX6) (T := TX6) (N := 18) rfl 5 (by decide) (by decide) (by decide) (by decide) (hts (.fieldLink RX6 29 "CrateHelpers" "underWay" "I") (by decide +kernel)) (fun _ h9 => h9) dX6_part_51 ?_
          refine lv_bipush (v := (-9)) hx hb dX6_part_54 (by decide) ?_
          refine lv_icmp_ne (tgt := 74) hx hb dX6_part_56 (by decide) (fun c_15 => ?_) (fun c_15 => ?_)
          · have h := iN c_15 h
            refine lv_bipush (v := (-2)) hx hb dX6_part_74 (by decide) ?_
            exact W.iret (v := (-2)) hx hb hr (fun t9 ht9 hW9 => ⟨⟨(-2), (I, G, A, L), rfl, by cases h; exact ⟨rfl, rfl⟩, by rw [ht9]; exact hP, va_K.moved hW9.alike hK⟩, hS.F ht9⟩) hS.2.2 dX6_part_76
          · have h := ip c_15 h
            refine lv_aload hx hb dX6_part_59 (lv_at hl 0 rfl) ?_
            refine vgS hx hb hts hi1 hown hK hP (58 + 52 * a1.toNatClampNeg) (s318 hk8.1) hk8.2 (C := RX1) (T := TX1) (N := 9) rfl 7 (by decide) (by decide) (by decide) (by decide) (58 + 52 * a1.toNatClampNeg + 10) rfl (hts (.fieldLink RX6 142 "CrateHelpers$Problem" "rules" "[LCrateHelpers$Rule;") (by decide +kernel)) (fun _ h9 => h9) dX6_part_61 ?_
            refine lv_iload_n hx hb dX6_part_64 rfl (lv_at hl 3 rfl) ?_
            obtain ⟨hk16, h⟩ := gk h
            obtain ⟨hn17, h⟩ := gk h
            refine xaald hx hb hK hP (58 + 52 * a1.toNatClampNeg + 10) (s318 hk16.1) 6 14 hk16.2 (by decide) rfl hn17 (58 + 52 * a1.toNatClampNeg + 12 + 5 * a2.toNatClampNeg) (drf14 (hk16.2)) dX6_part_65 ?_
            obtain ⟨hk18, h⟩ := gk h
            refine vgS hx hb hts hi2 hown hK hP (58 + 52 * a1.toNatClampNeg + 12 + 5 * a2.toNatClampNeg) (s318 hk18.1) hk18.2 (C := RX2) (T := TX2) (N := 7) rfl 5 (by decide) (by decide) (by decide) (by decide) (58 + 52 * a1.toNatClampNeg + 12 + 5 * a2.toNatClampNeg + 3) rfl (hts (.fieldLink RX6 146 "CrateHelpers$Rule" "isPart" "[Z") (by decide +kernel)) (fun _ h9 => h9) dX6_part_66 ?_
            refine lv_iload_n hx hb dX6_part_69 rfl (lv_at hl 4 rfl) ?_
            obtain ⟨hk19, h⟩ := gk h
            obtain ⟨hn20, h⟩ := gk h
            refine xzald hx hb hK hP (58 + 52 * a1.toNatClampNeg + 12 + 5 * a2.toNatClampNeg + 3) (s318 hk19.1) hk19.2 hn20 dX6_part_70 ?_
            refine lv_if_eq (tgt := 77) hx hb dX6_part_71 (by decide) (fun c_21 => ?_) (fun c_21 => ?_)
            · have h := ip c_21 h
              refine lv_aload hx hb dX6_part_77 (lv_at hl 0 rfl) ?_
              refine lv_iload_n hx hb dX6_part_79 rfl (lv_at hl 3 rfl) ?_
              refine lv_iload_n hx hb dX6_part_80 rfl (lv_at hl 4 rfl) ?_
              refine lv_iload hx hb dX6_part_81 (lv_at hl 5 rfl) ?_
              obtain ⟨⟨r22, I23, A24⟩, hc25, h⟩ := Option.bind_eq_some_iff.mp h
              refine ecV (As := [.int a2, .int a3, .int a4]) (rest := []) ⟨hx, hb, hml, hown, hts⟩ (e_X1_addPart l D K ad hap0 (58 + 52 * a1.toNatClampNeg) a2 a3 a4 I G A L r22 I23 A24 hc25) (cwV 3 hts gX6_part_X1_addPart rfl rfl rfl (by decide +kernel) ⟨Nat.le_of_ble_eq_true rfl, Nat.le_of_ble_eq_true rfl⟩) hK hP hS (s318 hk8.1) hk8.2 (by decide) rfl rfl rfl hl.1 (Nat.le_of_ble_eq_true rfl) (Nat.le_of_ble_eq_true rfl) (Nat.le_of_ble_eq_true rfl) dX6_part_83 (fun H locs hP hS => ?_) rfl
              have hP : va_P D vwCl (VW K ad I23 G A24 L) H := hP
              exact W.iret (v := r22) hx hb hr (fun t9 ht9 hW9 => ⟨⟨r22, (I23, G, A24, L), rfl, by cases h; exact ⟨rfl, rfl⟩, by rw [ht9]; exact hP, va_K.moved hW9.alike hK⟩, hS.F ht9⟩) hS.2.2 dX6_part_86
            · have h := iN c_21 h
              refine lv_bipush (v := (-2)) hx hb dX6_part_74 (by decide) ?_
              exact W.iret (v := (-2)) hx hb hr (fun t9 ht9 hW9 => ⟨⟨(-2), (I, G, A, L), rfl, by cases h; exact ⟨rfl, rfl⟩, by rw [ht9]; exact hP, va_K.moved hW9.alike hK⟩, hS.F ht9⟩) hS.2.2 dX6_part_76
        · have h := ip c_14 h
          refine lv_iconst (v := (-1)) hx hb dX6_part_48 (by decide) ?_
          exact W.iret (v := (-1)) hx hb hr (fun t9 ht9 hW9 => ⟨⟨(-1), (I, G, A, L), rfl, by cases h; exact ⟨rfl, rfl⟩, by rw [ht9]; exact hP, va_K.moved hW9.alike hK⟩, hS.F ht9⟩) hS.2.2 dX6_part_49
    · have h := ip c_6 h
      refine lv_iconst (v := (-1)) hx hb dX6_part_20 (by decide) ?_
      exact W.iret (v := (-1)) hx hb hr (fun t9 ht9 hW9 => ⟨⟨(-1), (I, G, A, L), rfl, by cases h; exact ⟨rfl, rfl⟩, by rw [ht9]; exact hP, va_K.moved hW9.alike hK⟩, hS.F ht9⟩) hS.2.2 dX6_part_21
set_option maxHeartbeats 4000000 in
set_option maxRecDepth 100000 in
theorem e_X6_plain (l : Launch) (D : va_G) (K : Nat → ClassId) (ad : Nat → Nat) (hap0 : apart ad (fun _ => True)) (I : Nat → Nat → Int32) (G : Nat → Nat → Nat) (A : Nat → Nat → Int32) (L : Nat → Nat → Int64) (r0 : Int32) (I0 : Nat → Nat → Int32) (h : f_X6_plain I = some (r0, I0)) : Ci l D K ad yX6_plain wsX6_plain 0 0 [.ref (ad 0)] (I, G, A, L) (fun (r : Int32) (u : Mem) => r = r0 ∧ u = (I0, G, A, L)) := by
  intro sz
  refine Met.ofW (cc := cX6_plain) (maxL := 2) (ret := (some .int)) (by decide) rfl ?_
  intro p e s m args below meth c s₁ Bd hml hv0
  obtain ⟨rfl, hsz, hP, hK⟩ := hv0
  have hx := Bd.exec
  have hb := Bd.bytes
  have hr := Bd.returns
  have hts := atoms_spec (ws := wsX6_plain) Bd.pre
  have hown : s.vm.findClass RX6 = some m.cls := findClass_of_methodNamed Bd.named
  have hlocks := Bd.notSynchronized
  have hi6 : ∀ w ∈ u_ws RX6 TX6 18, w ∈ wsX6_plain := fun w h => List.mem_cons_of_mem _ (List.mem_append_left _ (List.mem_append_right _ h))
  have hi4 : ∀ w ∈ u_ws RX4 TX4 7, w ∈ wsX6_plain := fun w h => List.mem_cons_of_mem _ (List.mem_append_right _ h)
  subst hsz
  have hap := vF_ap hap0 s.heap.size
  have hS : va_S (vF ad s.heap.size) s.heap s.heap [] := va_S.rf
  have hP : va_P D vwCl (VW K ad I G A L) s.heap := hP
  have hl := lv_entry ([.ref (ad 0)]) (n := 2) (Nat.le_of_ble_eq_true rfl)
  rw [lg_entry_eq]
  generalize (lg_sl ([.ref (ad 0)]) ++ List.replicate (2 - (lg_sl ([.ref (ad 0)])).length) Slot.unset).toArray = ls at hl ⊢
  have hl : lv_has ls 2 [(0, .ref (ad 0))] := hl
  rw [f_X6_plain] at h
  refine lv_aload_n hx hb dX6_plain_0 rfl (lv_at hl 0 rfl) ?_
  refine vgI hx hb hts hi6 hown hK hP (0) (by decide) (show kd 0 = 6 by decide) (C := RX6) (T := TX6) (N := 18) rfl 5 (by decide) (by decide) (by decide) (by decide) (hts (.fieldLink RX6 29 "CrateHelpers" "underWay" "I") (by decide +kernel)) (fun _ h9 => h9) dX6_plain_1 ?_
  refine lv_bipush (v := (-9)) hx hb dX6_plain_4 (by decide) ?_
  refine lv_icmp_eq (tgt := 12) hx hb dX6_plain_6 (by decide) (fun c_1 => ?_) (fun c_1 => ?_)
  · have h := ip c_1 h
    refine lv_aload_n hx hb dX6_plain_12 rfl (lv_at hl 0 rfl) ?_
    refine vgC hx hb hts hi6 hown hK hP (0) (by decide) (show kd 0 = 6 by decide) (C := RX6) (T := TX6) (N := 18) rfl 2 (by decide) (by decide) (by decide) (by decide) (2) rfl (hts (.fieldLink RX6 22 "CrateHelpers" "team" "LCrateHelpers$Team;") (by decide +kernel)) (fun _ h9 => h9) dX6_plain_13 ?_
    refine vgI hx hb hts hi4 hown hK hP (2) (by decide) (show kd 2 = 4 by decide) (C := RX4) (T := TX4) (N := 7) rfl 1 (by decide) (by decide) (by decide) (by decide) (hts (.fieldLink RX6 168 "CrateHelpers$Team" "scheduled" "I") (by decide +kernel)) (fun _ h9 => h9) dX6_plain_16 ?_
    refine lv_istore_n (lv' := [(1, .int (I 2 1)), (0, .ref (ad 0))]) hx hb dX6_plain_19 rfl hl (by decide) rfl (fun ls hl => ?_)
    refine lv_aload_n hx hb dX6_plain_20 rfl (lv_at hl 1 rfl) ?_
    refine vgC hx hb hts hi6 hown hK hP (0) (by decide) (show kd 0 = 6 by decide) (C := RX6) (T := TX6) (N := 18) rfl 2 (by decide) (by decide) (by decide) (by decide) (2) rfl (hts (.fieldLink RX6 22 "CrateHelpers" "team" "LCrateHelpers$Team;") (by decide +kernel)) (fun _ h9 => h9) dX6_plain_21 ?_
    refine lv_iconst (v := 0) hx hb dX6_plain_24 (by decide) ?_
    refine vpI (v := 0) (ty := .int) hx hb hts hi4 tyX4 tyX4_ok nmX4 hown hK hP hap hS (2) (by decide) (show kd 2 = 4 by decide) (C := RX4) (T := TX4) (N := 7) rfl 1 (by decide) (by decide) (by decide) (by decide) (hts (.fieldLink RX6 168 "CrateHelpers$Team" "scheduled" "I") (by decide +kernel)) (fun _ h9 => h9) rfl (by decide +kernel) rfl rfl dX6_plain_25 (fun H locs hP hS => ?_)
    obtain ⟨I2, eI2, h⟩ := bd_e h
    rw [← eI2] at hP
    have hP : va_P D vwCl (VW K ad I2 G A L) H := hP
    refine lv_iload_n hx hb dX6_plain_28 rfl (lv_at hl 0 rfl) ?_
    exact W.iret (v := (I 2 1)) hx hb hr (fun t9 ht9 hW9 => ⟨⟨(I 2 1), (I2, G, A, L), rfl, by cases h; exact ⟨rfl, rfl⟩, by rw [ht9]; exact hP, va_K.moved hW9.alike hK⟩, hS.F ht9⟩) hS.2.2 dX6_plain_29
  · have h := iN c_1 h
    refine lv_bipush (v := (-2)) hx hb dX6_plain_9 (by decide) ?_
    exact W.iret (v := (-2)) hx hb hr (fun t9 ht9 hW9 => ⟨⟨(-2), (I, G, A, L), rfl, by cases h; exact ⟨rfl, rfl⟩, by rw [ht9]; exact hP, va_K.moved hW9.alike hK⟩, hS.F ht9⟩) hS.2.2 dX6_plain_11
set_option maxHeartbeats 4000000 in
set_option maxRecDepth 100000 in
theorem e_X6_problem (l : Launch) (D : va_G) (K : Nat → ClassId) (ad : Nat → Nat) (hap0 : apart ad (fun _ => True)) (I : Nat → Nat → Int32) (G : Nat → Nat → Nat) (A : Nat → Nat → Int32) (L : Nat → Nat → Int64) (r0 : Int32) (I0 : Nat → Nat → Int32) (h : f_X6_problem I = some (r0, I0)) : Ci l D K ad yX6_problem wsX6_problem 0 0 [.ref (ad 0)] (I, G, A, L) (fun (r : Int32) (u : Mem) => r = r0 ∧ u = (I0, G, A, L)) := by
  intro sz
  refine Met.ofW (cc := cX6_problem) (maxL := 1) (ret := (some .int)) (by decide) rfl ?_
  intro p e s m args below meth c s₁ Bd hml hv0
  obtain ⟨rfl, hsz, hP, hK⟩ := hv0
  have hx := Bd.exec
  have hb := Bd.bytes
  have hr := Bd.returns
  have hts := atoms_spec (ws := wsX6_problem) Bd.pre
  have hown : s.vm.findClass RX6 = some m.cls := findClass_of_methodNamed Bd.named
  have hlocks := Bd.notSynchronized
  have hi6 : ∀ w ∈ u_ws RX6 TX6 18, w ∈ wsX6_problem := fun w h => List.mem_cons_of_mem _ (List.mem_append_right _ h)
  subst hsz
  have hap := vF_ap hap0 s.heap.size
  have hS : va_S (vF ad s.heap.size) s.heap s.heap [] := va_S.rf
  have hP : va_P D vwCl (VW K ad I G A L) s.heap := hP
  have hl := lv_entry ([.ref (ad 0)]) (n := 1) (Nat.le_of_ble_eq_true rfl)
  rw [lg_entry_eq]
  generalize (lg_sl ([.ref (ad 0)]) ++ List.replicate (1 - (lg_sl ([.ref (ad 0)])).length) Slot.unset).toArray = ls at hl ⊢
  have hl : lv_has ls 1 [(0, .ref (ad 0))] := hl
  rw [f_X6_problem] at h
  refine lv_aload_n hx hb dX6_problem_0 rfl (lv_at hl 0 rfl) ?_
  refine vgI hx hb hts hi6 hown hK hP (0) (by decide) (show kd 0 = 6 by decide) (C := RX6) (T := TX6) (N := 18) rfl 5 (by decide) (by decide) (by decide) (by decide) (hts (.fieldLink RX6 29 "CrateHelpers" "underWay" "I") (by decide +kernel)) (fun _ h9 => h9) dX6_problem_1 ?_
  refine lv_bipush (v := (-9)) hx hb dX6_problem_4 (by decide) ?_
  refine lv_icmp_eq (tgt := 12) hx hb dX6_problem_6 (by decide) (fun c_1 => ?_) (fun c_1 => ?_)
  · have h := ip c_1 h
    refine lv_aload_n hx hb dX6_problem_12 rfl (lv_at hl 0 rfl) ?_
    refine vgI hx hb hts hi6 hown hK hP (0) (by decide) (show kd 0 = 6 by decide) (C := RX6) (T := TX6) (N := 18) rfl 1 (by decide) (by decide) (by decide) (by decide) (hts (.fieldLink RX6 15 "CrateHelpers" "problemCount" "I") (by decide +kernel)) (fun _ h9 => h9) dX6_problem_13 ?_
    refine lv_iconst (v := 5) hx hb dX6_problem_16 (by decide) ?_
    refine lv_icmp_lt (tgt := 23) hx hb dX6_problem_17 (by decide) (fun c_2 => ?_) (fun c_2 => ?_)
    · have h := ip c_2 h
      refine lv_aload_n hx hb dX6_problem_23 rfl (lv_at hl 0 rfl) ?_
      refine lv_dup hx hb dX6_problem_24 rfl ?_
      refine vgI hx hb hts hi6 hown hK hP (0) (by decide) (show kd 0 = 6 by decide) (C := RX6) (T := TX6) (N := 18) rfl 1 (by decide) (by decide) (by decide) (by decide) (hts (.fieldLink RX6 15 "CrateHelpers" "problemCount" "I") (by decide +kernel)) (fun _ h9 => h9) dX6_problem_25 ?_
      refine lv_dup_x1 hx hb dX6_problem_28 rfl rfl ?_
      refine lv_iconst (v := 1) hx hb dX6_problem_29 (by decide) ?_
      refine lv_iadd hx hb dX6_problem_30 ?_
      refine vpI (v := ((I 0 1) + 1)) (ty := .int) hx hb hts hi6 tyX6 tyX6_ok nmX6 hown hK hP hap hS (0) (by decide) (show kd 0 = 6 by decide) (C := RX6) (T := TX6) (N := 18) rfl 1 (by decide) (by decide) (by decide) (by decide) (hts (.fieldLink RX6 15 "CrateHelpers" "problemCount" "I") (by decide +kernel)) (fun _ h9 => h9) rfl (by decide +kernel) rfl rfl dX6_problem_31 (fun H locs hP hS => ?_)
      obtain ⟨I3, eI3, h⟩ := bd_e h
      rw [← eI3] at hP
      have hP : va_P D vwCl (VW K ad I3 G A L) H := hP
      exact W.iret (v := (I 0 1)) hx hb hr (fun t9 ht9 hW9 => ⟨⟨(I 0 1), (I3, G, A, L), rfl, by cases h; exact ⟨rfl, rfl⟩, by rw [ht9]; exact hP, va_K.moved hW9.alike hK⟩, hS.F ht9⟩) hS.2.2 dX6_problem_34
    · have h := iN c_2 h
      refine lv_bipush (v := (-3)) hx hb dX6_problem_20 (by decide) ?_
      exact W.iret (v := (-3)) hx hb hr (fun t9 ht9 hW9 => ⟨⟨(-3), (I, G, A, L), rfl, by cases h; exact ⟨rfl, rfl⟩, by rw [ht9]; exact hP, va_K.moved hW9.alike hK⟩, hS.F ht9⟩) hS.2.2 dX6_problem_22
  · have h := iN c_1 h
    refine lv_bipush (v := (-2)) hx hb dX6_problem_9 (by decide) ?_
    exact W.iret (v := (-2)) hx hb hr (fun t9 ht9 hW9 => ⟨⟨(-2), (I, G, A, L), rfl, by cases h; exact ⟨rfl, rfl⟩, by rw [ht9]; exact hP, va_K.moved hW9.alike hK⟩, hS.F ht9⟩) hS.2.2 dX6_problem_11
set_option maxHeartbeats 4000000 in
set_option maxRecDepth 100000 in
theorem e_X6_row (l : Launch) (D : va_G) (K : Nat → ClassId) (ad : Nat → Nat) (hap0 : apart ad (fun _ => True)) (a1 : Int32) (I : Nat → Nat → Int32) (G : Nat → Nat → Nat) (A : Nat → Nat → Int32) (L : Nat → Nat → Int64) (r0 : Int32) (h : f_X6_row A a1 = some r0) : Ci l D K ad yX6_row wsX6_row 1 25 [.ref (ad 0), .int a1] (I, G, A, L) (fun (r : Int32) (u : Mem) => r = r0 ∧ u = (I, G, A, L)) := by
  intro sz
  refine Met.ofW (cc := cX6_row) (maxL := 2) (ret := (some .int)) (by decide) rfl ?_
  intro p e s m args below meth c s₁ Bd hml hv0
  obtain ⟨rfl, hsz, hP, hK⟩ := hv0
  have hx := Bd.exec
  have hb := Bd.bytes
  have hr := Bd.returns
  have hts := atoms_spec (ws := wsX6_row) Bd.pre
  have hown : s.vm.findClass RX6 = some m.cls := findClass_of_methodNamed Bd.named
  have hlocks := Bd.notSynchronized
  have hi6 : ∀ w ∈ u_ws RX6 TX6 18, w ∈ wsX6_row := fun w h => List.mem_cons_of_mem _ (List.mem_append_right _ h)
  subst hsz
  have hap := vF_ap hap0 s.heap.size
  have hS : va_S (vF ad s.heap.size) s.heap s.heap [] := va_S.rf
  have hP : va_P D vwCl (VW K ad I G A L) s.heap := hP
  have hl := lv_entry ([.ref (ad 0), .int a1]) (n := 2) (Nat.le_of_ble_eq_true rfl)
  rw [lg_entry_eq]
  generalize (lg_sl ([.ref (ad 0), .int a1]) ++ List.replicate (2 - (lg_sl ([.ref (ad 0), .int a1])).length) Slot.unset).toArray = ls at hl ⊢
  have hl : lv_has ls 2 [(0, .ref (ad 0)), (1, .int a1)] := hl
  rw [f_X6_row] at h
  refine lv_iload_n hx hb dX6_row_0 rfl (lv_at hl 1 rfl) ?_
  refine lv_iconst (v := 0) hx hb dX6_row_1 (by decide) ?_
  refine lv_iconst (v := 5) hx hb dX6_row_2 (by decide) ?_
  obtain ⟨r1, hc2, h⟩ := Option.bind_eq_some_iff.mp h
  refine ecS (As := [.int a1, .int 0, .int 5]) (rest := []) ⟨hx, hb, hml, hown, hts⟩ (e_X6_isWithin l D K ad hap0 a1 0 5 I G A L r1 hc2) (va_cwS 3 hts gX6_row_X6_isWithin rfl rfl rfl (by decide +kernel) ⟨Nat.le_of_ble_eq_true rfl, Nat.le_of_ble_eq_true rfl⟩) hK hP hS rfl hl.1 (Nat.le_of_ble_eq_true rfl) (Nat.le_of_ble_eq_true rfl) (Nat.le_of_ble_eq_true rfl) dX6_row_3 (fun H locs hP hS => ?_) rfl
  have hP : va_P D vwCl (VW K ad I G A L) H := hP
  refine lv_if_eq (tgt := 18) hx hb dX6_row_6 (by decide) (fun c_3 => ?_) (fun c_3 => ?_)
  · have h := ip c_3 h
    refine lv_bipush (v := (-9)) hx hb dX6_row_18 (by decide) ?_
    exact W.iret (v := (-9)) hx hb hr (fun t9 ht9 hW9 => ⟨⟨(-9), (I, G, A, L), rfl, by cases h; exact ⟨rfl, rfl⟩, by rw [ht9]; exact hP, va_K.moved hW9.alike hK⟩, hS.F ht9⟩) hS.2.2 dX6_row_20
  · have h := iN c_3 h
    refine lv_aload_n hx hb dX6_row_9 rfl (lv_at hl 0 rfl) ?_
    refine vgC hx hb hts hi6 hown hK hP (0) (by decide) (show kd 0 = 6 by decide) (C := RX6) (T := TX6) (N := 18) rfl 13 (by decide) (by decide) (by decide) (by decide) (19) rfl (hts (.fieldLink RX6 52 "CrateHelpers" "secondRow" "[I") (by decide +kernel)) (fun _ h9 => h9) dX6_row_10 ?_
    refine lv_iload_n hx hb dX6_row_13 rfl (lv_at hl 1 rfl) ?_
    obtain ⟨hn4, h⟩ := gk h
    refine xiald hx hb hK hP (19) (by decide) (show kd 19 = 8 by decide) (by rw [show ln 19 = 6 by decide]; exact hn4) dX6_row_14 ?_
    refine lv_goto (tgt := 20) hx hb dX6_row_15 (by decide) ?_
    exact W.iret (v := (A 19 a1.toNatClampNeg)) hx hb hr (fun t9 ht9 hW9 => ⟨⟨(A 19 a1.toNatClampNeg), (I, G, A, L), rfl, by cases h; exact ⟨rfl, rfl⟩, by rw [ht9]; exact hP, va_K.moved hW9.alike hK⟩, hS.F ht9⟩) hS.2.2 dX6_row_20
set_option maxHeartbeats 4000000 in
set_option maxRecDepth 100000 in
theorem e_X1_addRule (l : Launch) (D : va_G) (K : Nat → ClassId) (ad : Nat → Nat) (hap0 : apart ad (fun _ => True)) (o : Nat) (a1 : Int32) (a2 : Int32) (I : Nat → Nat → Int32) (G : Nat → Nat → Nat) (A : Nat → Nat → Int32) (L : Nat → Nat → Int64) (r0 : Int32) (I0 : Nat → Nat → Int32) (h : f_X1_addRule I o a1 a2 = some (r0, I0)) : Ci l D K ad yX1_addRule wsX1_addRule 1 23 [.ref (ad o), .int a1, .int a2] (I, G, A, L) (fun (r : Int32) (u : Mem) => r = r0 ∧ u = (I0, G, A, L)) := by
  intro sz
  refine Met.ofW (cc := cX1_addRule) (maxL := 3) (ret := (some .int)) (by decide) rfl ?_
  intro p e s m args below meth c s₁ Bd hml hv0
  obtain ⟨rfl, hsz, hP, hK⟩ := hv0
  have hx := Bd.exec
  have hb := Bd.bytes
  have hr := Bd.returns
  have hts := atoms_spec (ws := wsX1_addRule) Bd.pre
  have hown : s.vm.findClass RX1 = some m.cls := findClass_of_methodNamed Bd.named
  have hlocks := Bd.notSynchronized
  have hi1 : ∀ w ∈ u_ws RX1 TX1 9, w ∈ wsX1_addRule := fun w h => List.mem_cons_of_mem _ (List.mem_append_left _ (List.mem_append_right _ h))
  have hi2 : ∀ w ∈ u_ws RX2 TX2 7, w ∈ wsX1_addRule := fun w h => List.mem_cons_of_mem _ (List.mem_append_right _ h)
  subst hsz
  have hap := vF_ap hap0 s.heap.size
  have hS : va_S (vF ad s.heap.size) s.heap s.heap [] := va_S.rf
  have hP : va_P D vwCl (VW K ad I G A L) s.heap := hP
  have hl := lv_entry ([.ref (ad o), .int a1, .int a2]) (n := 3) (Nat.le_of_ble_eq_true rfl)
  rw [lg_entry_eq]
  generalize (lg_sl ([.ref (ad o), .int a1, .int a2]) ++ List.replicate (3 - (lg_sl ([.ref (ad o), .int a1, .int a2])).length) Slot.unset).toArray = ls at hl ⊢
  have hl : lv_has ls 3 [(0, .ref (ad o)), (1, .int a1), (2, .int a2)] := hl
  rw [f_X1_addRule] at h
  refine lv_aload_n hx hb dX1_addRule_0 rfl (lv_at hl 0 rfl) ?_
  obtain ⟨hk1, h⟩ := gk h
  obtain ⟨I2, hc3, h⟩ := Option.bind_eq_some_iff.mp h
  refine ecVv (As := []) (rest := []) ⟨hx, hb, hml, hown, hts⟩ (e_X1_change l D K ad hap0 o I G A L I2 hc3) (cwV 0 hts gX1_addRule_X1_change rfl rfl rfl (by decide +kernel) ⟨Nat.le_of_ble_eq_true rfl, Nat.le_of_ble_eq_true rfl⟩) hK hP hS (s318 hk1.1) hk1.2 (by decide) rfl rfl rfl hl.1 (Nat.le_of_ble_eq_true rfl) (Nat.le_of_ble_eq_true rfl) (Nat.le_of_ble_eq_true rfl) dX1_addRule_1 (fun H locs hP hS => ?_) rfl
  have hP : va_P D vwCl (VW K ad I2 G A L) H := hP
  refine lv_aload_n hx hb dX1_addRule_4 rfl (lv_at hl 0 rfl) ?_
  refine vgS hx hb hts hi1 hown hK hP (o) (s318 hk1.1) hk1.2 (C := RX1) (T := TX1) (N := 9) rfl 7 (by decide) (by decide) (by decide) (by decide) (o + 10) rfl (hts (.fieldLink RX1 39 "CrateHelpers$Problem" "rules" "[LCrateHelpers$Rule;") (by decide +kernel)) (fun _ h9 => h9) dX1_addRule_5 ?_
  refine lv_aload_n hx hb dX1_addRule_8 rfl (lv_at hl 0 rfl) ?_
  refine vgI hx hb hts hi1 hown hK hP (o) (s318 hk1.1) hk1.2 (C := RX1) (T := TX1) (N := 9) rfl 1 (by decide) (by decide) (by decide) (by decide) (hts (.fieldLink RX1 15 "CrateHelpers$Problem" "ruleCount" "I") (by decide +kernel)) (fun _ h9 => h9) dX1_addRule_9 ?_
  obtain ⟨hk4, h⟩ := gk h
  obtain ⟨hn5, h⟩ := gk h
  refine xaald hx hb hK hP (o + 10) (s318 hk4.1) 6 14 hk4.2 (by decide) rfl hn5 (o + 12 + 5 * ((I2 o 1).toNatClampNeg)) (drf14 (hk4.2)) dX1_addRule_12 ?_
  refine lv_iload_n hx hb dX1_addRule_13 rfl (lv_at hl 1 rfl) ?_
  obtain ⟨hk6, h⟩ := gk h
  refine vpI (v := a1) (ty := .int) hx hb hts hi2 tyX2 tyX2_ok nmX2 hown hK hP hap hS (o + 12 + 5 * ((I2 o 1).toNatClampNeg)) (s318 hk6.1) hk6.2 (C := RX2) (T := TX2) (N := 7) rfl 0 (by decide) (by decide) (by decide) (by decide) (hts (.fieldLink RX1 54 "CrateHelpers$Rule" "kind" "I") (by decide +kernel)) (fun _ h9 => h9) rfl (by decide +kernel) rfl rfl dX1_addRule_14 (fun H locs hP hS => ?_)
  obtain ⟨I7, eI7, h⟩ := bd_e h
  rw [← eI7] at hP
  have hP : va_P D vwCl (VW K ad I7 G A L) H := hP
  refine lv_aload_n hx hb dX1_addRule_17 rfl (lv_at hl 0 rfl) ?_
  refine vgS hx hb hts hi1 hown hK hP (o) (s318 hk1.1) hk1.2 (C := RX1) (T := TX1) (N := 9) rfl 7 (by decide) (by decide) (by decide) (by decide) (o + 10) rfl (hts (.fieldLink RX1 39 "CrateHelpers$Problem" "rules" "[LCrateHelpers$Rule;") (by decide +kernel)) (fun _ h9 => h9) dX1_addRule_18 ?_
  refine lv_aload_n hx hb dX1_addRule_21 rfl (lv_at hl 0 rfl) ?_
  refine vgI hx hb hts hi1 hown hK hP (o) (s318 hk1.1) hk1.2 (C := RX1) (T := TX1) (N := 9) rfl 1 (by decide) (by decide) (by decide) (by decide) (hts (.fieldLink RX1 15 "CrateHelpers$Problem" "ruleCount" "I") (by decide +kernel)) (fun _ h9 => h9) dX1_addRule_22 ?_
  obtain ⟨hn8, h⟩ := gk h
  refine xaald hx hb hK hP (o + 10) (s318 hk4.1) 6 14 hk4.2 (by decide) rfl hn8 (o + 12 + 5 * ((I7 o 1).toNatClampNeg)) (drf14 (hk4.2)) dX1_addRule_25 ?_
  refine lv_iload_n hx hb dX1_addRule_26 rfl (lv_at hl 2 rfl) ?_
  obtain ⟨hk9, h⟩ := gk h
  refine vpI (v := a2) (ty := .int) hx hb hts hi2 tyX2 tyX2_ok nmX2 hown hK hP hap hS (o + 12 + 5 * ((I7 o 1).toNatClampNeg)) (s318 hk9.1) hk9.2 (C := RX2) (T := TX2) (N := 7) rfl 1 (by decide) (by decide) (by decide) (by decide) (hts (.fieldLink RX1 57 "CrateHelpers$Rule" "c" "I") (by decide +kernel)) (fun _ h9 => h9) rfl (by decide +kernel) rfl rfl dX1_addRule_27 (fun H locs hP hS => ?_)
  obtain ⟨I10, eI10, h⟩ := bd_e h
  rw [← eI10] at hP
  have hP : va_P D vwCl (VW K ad I10 G A L) H := hP
  refine lv_aload_n hx hb dX1_addRule_30 rfl (lv_at hl 0 rfl) ?_
  refine lv_dup hx hb dX1_addRule_31 rfl ?_
  refine vgI hx hb hts hi1 hown hK hP (o) (s318 hk1.1) hk1.2 (C := RX1) (T := TX1) (N := 9) rfl 1 (by decide) (by decide) (by decide) (by decide) (hts (.fieldLink RX1 15 "CrateHelpers$Problem" "ruleCount" "I") (by decide +kernel)) (fun _ h9 => h9) dX1_addRule_32 ?_
  refine lv_dup_x1 hx hb dX1_addRule_35 rfl rfl ?_
  refine lv_iconst (v := 1) hx hb dX1_addRule_36 (by decide) ?_
  refine lv_iadd hx hb dX1_addRule_37 ?_
  refine vpI (v := ((I10 o 1) + 1)) (ty := .int) hx hb hts hi1 tyX1 tyX1_ok nmX1 hown hK hP hap hS (o) (s318 hk1.1) hk1.2 (C := RX1) (T := TX1) (N := 9) rfl 1 (by decide) (by decide) (by decide) (by decide) (hts (.fieldLink RX1 15 "CrateHelpers$Problem" "ruleCount" "I") (by decide +kernel)) (fun _ h9 => h9) rfl (by decide +kernel) rfl rfl dX1_addRule_38 (fun H locs hP hS => ?_)
  obtain ⟨I11, eI11, h⟩ := bd_e h
  rw [← eI11] at hP
  have hP : va_P D vwCl (VW K ad I11 G A L) H := hP
  exact W.iret (v := (I10 o 1)) hx hb hr (fun t9 ht9 hW9 => ⟨⟨(I10 o 1), (I11, G, A, L), rfl, by cases h; exact ⟨rfl, rfl⟩, by rw [ht9]; exact hP, va_K.moved hW9.alike hK⟩, hS.F ht9⟩) hS.2.2 dX1_addRule_41
set_option maxHeartbeats 4000000 in
set_option maxRecDepth 100000 in
theorem e_X6_rule (l : Launch) (D : va_G) (K : Nat → ClassId) (ad : Nat → Nat) (hap0 : apart ad (fun _ => True)) (a1 : Int32) (a2 : Int32) (a3 : Int32) (I : Nat → Nat → Int32) (G : Nat → Nat → Nat) (A : Nat → Nat → Int32) (L : Nat → Nat → Int64) (r0 : Int32) (I0 : Nat → Nat → Int32) (h : f_X6_rule I a1 a2 a3 = some (r0, I0)) : Ci l D K ad yX6_rule wsX6_rule 2 49 [.ref (ad 0), .int a1, .int a2, .int a3] (I, G, A, L) (fun (r : Int32) (u : Mem) => r = r0 ∧ u = (I0, G, A, L)) := by
  intro sz
  refine Met.ofW (cc := cX6_rule) (maxL := 5) (ret := (some .int)) (by decide) rfl ?_
  intro p e s m args below meth c s₁ Bd hml hv0
  obtain ⟨rfl, hsz, hP, hK⟩ := hv0
  have hx := Bd.exec
  have hb := Bd.bytes
  have hr := Bd.returns
  have hts := atoms_spec (ws := wsX6_rule) Bd.pre
  have hown : s.vm.findClass RX6 = some m.cls := findClass_of_methodNamed Bd.named
  have hlocks := Bd.notSynchronized
  have hi6 : ∀ w ∈ u_ws RX6 TX6 18, w ∈ wsX6_rule := fun w h => List.mem_cons_of_mem _ (List.mem_append_left _ (List.mem_append_left _ (List.mem_append_right _ h)))
  have hi1 : ∀ w ∈ u_ws RX1 TX1 9, w ∈ wsX6_rule := fun w h => List.mem_cons_of_mem _ (List.mem_append_left _ (List.mem_append_right _ h))
  have hi2 : ∀ w ∈ u_ws RX2 TX2 7, w ∈ wsX6_rule := fun w h => List.mem_cons_of_mem _ (List.mem_append_right _ h)
  subst hsz
  have hap := vF_ap hap0 s.heap.size
  have hS : va_S (vF ad s.heap.size) s.heap s.heap [] := va_S.rf
  have hP : va_P D vwCl (VW K ad I G A L) s.heap := hP
  have hl := lv_entry ([.ref (ad 0), .int a1, .int a2, .int a3]) (n := 5) (Nat.le_of_ble_eq_true rfl)
  rw [lg_entry_eq]
  generalize (lg_sl ([.ref (ad 0), .int a1, .int a2, .int a3]) ++ List.replicate (5 - (lg_sl ([.ref (ad 0), .int a1, .int a2, .int a3])).length) Slot.unset).toArray = ls at hl ⊢
  have hl : lv_has ls 5 [(0, .ref (ad 0)), (1, .int a1), (2, .int a2), (3, .int a3)] := hl
  rw [f_X6_rule] at h
  refine lv_aload_n hx hb dX6_rule_0 rfl (lv_at hl 0 rfl) ?_
  refine lv_iload_n hx hb dX6_rule_1 rfl (lv_at hl 1 rfl) ?_
  obtain ⟨r1, hc2, h⟩ := Option.bind_eq_some_iff.mp h
  refine ecV (As := [.int a1]) (rest := []) ⟨hx, hb, hml, hown, hts⟩ (e_X6_isProblem l D K ad hap0 a1 I G A L r1 hc2) (cwV 1 hts gX6_rule_X6_isProblem rfl rfl rfl (by decide +kernel) ⟨Nat.le_of_ble_eq_true rfl, Nat.le_of_ble_eq_true rfl⟩) hK hP hS (by decide) (show kd 0 = 6 by decide) (by decide) rfl rfl rfl hl.1 (Nat.le_of_ble_eq_true rfl) (Nat.le_of_ble_eq_true rfl) (Nat.le_of_ble_eq_true rfl) dX6_rule_2 (fun H locs hP hS => ?_) rfl
  have hP : va_P D vwCl (VW K ad I G A L) H := hP
  refine lv_if_eq (tgt := 25) hx hb dX6_rule_5 (by decide) (fun c_3 => ?_) (fun c_3 => ?_)
  · have h := ip c_3 h
    refine lv_iconst (v := (-1)) hx hb dX6_rule_25 (by decide) ?_
    exact W.iret (v := (-1)) hx hb hr (fun t9 ht9 hW9 => ⟨⟨(-1), (I, G, A, L), rfl, by cases h; exact ⟨rfl, rfl⟩, by rw [ht9]; exact hP, va_K.moved hW9.alike hK⟩, hS.F ht9⟩) hS.2.2 dX6_rule_26
  · have h := iN c_3 h
    refine lv_iload_n hx hb dX6_rule_8 rfl (lv_at hl 2 rfl) ?_
    refine lv_iconst (v := 0) hx hb dX6_rule_9 (by decide) ?_
    refine lv_bipush (v := 7) hx hb dX6_rule_10 (by decide) ?_
    obtain ⟨r4, hc5, h⟩ := Option.bind_eq_some_iff.mp h
    refine ecS (As := [.int a2, .int 0, .int 7]) (rest := []) ⟨hx, hb, hml, hown, hts⟩ (e_X6_isWithin l D K ad hap0 a2 0 7 I G A L r4 hc5) (va_cwS 3 hts gX6_rule_X6_isWithin rfl rfl rfl (by decide +kernel) ⟨Nat.le_of_ble_eq_true rfl, Nat.le_of_ble_eq_true rfl⟩) hK hP hS rfl hl.1 (Nat.le_of_ble_eq_true rfl) (Nat.le_of_ble_eq_true rfl) (Nat.le_of_ble_eq_true rfl) dX6_rule_12 (fun H locs hP hS => ?_) rfl
    have hP : va_P D vwCl (VW K ad I G A L) H := hP
    refine lv_if_eq (tgt := 25) hx hb dX6_rule_15 (by decide) (fun c_6 => ?_) (fun c_6 => ?_)
    · have h := ip c_6 h
      refine lv_iconst (v := (-1)) hx hb dX6_rule_25 (by decide) ?_
      exact W.iret (v := (-1)) hx hb hr (fun t9 ht9 hW9 => ⟨⟨(-1), (I, G, A, L), rfl, by cases h; exact ⟨rfl, rfl⟩, by rw [ht9]; exact hP, va_K.moved hW9.alike hK⟩, hS.F ht9⟩) hS.2.2 dX6_rule_26
    · have h := iN c_6 h
      refine lv_iload_n hx hb dX6_rule_18 rfl (lv_at hl 3 rfl) ?_
      obtain ⟨r7, hc8, h⟩ := Option.bind_eq_some_iff.mp h
      refine ecS (As := [.int a3]) (rest := []) ⟨hx, hb, hml, hown, hts⟩ (e_X6_isRuleNumber l D K ad hap0 a3 I G A L r7 hc8) (va_cwS 1 hts gX6_rule_X6_isRuleNumber rfl rfl rfl (by decide +kernel) ⟨Nat.le_of_ble_eq_true rfl, Nat.le_of_ble_eq_true rfl⟩) hK hP hS rfl hl.1 (Nat.le_of_ble_eq_true rfl) (Nat.le_of_ble_eq_true rfl) (Nat.le_of_ble_eq_true rfl) dX6_rule_19 (fun H locs hP hS => ?_) rfl
      have hP : va_P D vwCl (VW K ad I G A L) H := hP
      refine lv_if_ne (tgt := 27) hx hb dX6_rule_22 (by decide) (fun c_9 => ?_) (fun c_9 => ?_)
      · have h := iN c_9 h
        refine lv_aload_n hx hb dX6_rule_27 rfl (lv_at hl 0 rfl) ?_
        refine vgI hx hb hts hi6 hown hK hP (0) (by decide) (show kd 0 = 6 by decide) (C := RX6) (T := TX6) (N := 18) rfl 5 (by decide) (by decide) (by decide) (by decide) (hts (.fieldLink RX6 29 "CrateHelpers" "underWay" "I") (by decide +kernel)) (fun _ h9 => h9) dX6_rule_28 ?_
        refine lv_bipush (v := (-9)) hx hb dX6_rule_31 (by decide) ?_
        refine lv_icmp_eq (tgt := 39) hx hb dX6_rule_33 (by decide) (fun c_10 => ?_) (fun c_10 => ?_)
        · have h := ip c_10 h
          refine lv_aload_n hx hb dX6_rule_39 rfl (lv_at hl 0 rfl) ?_
          refine vgC hx hb hts hi6 hown hK hP (0) (by decide) (show kd 0 = 6 by decide) (C := RX6) (T := TX6) (N := 18) rfl 0 (by decide) (by decide) (by decide) (by decide) (1) rfl (hts (.fieldLink RX6 11 "CrateHelpers" "problems" "[LCrateHelpers$Problem;") (by decide +kernel)) (fun _ h9 => h9) dX6_rule_40 ?_
          refine lv_iload_n hx hb dX6_rule_43 rfl (lv_at hl 1 rfl) ?_
          obtain ⟨hn11, h⟩ := gk h
          refine xaald hx hb hK hP (1) (by decide) 5 13 (show kd 1 = 13 by decide) (by decide) rfl (by rw [show ln 1 = 5 by decide]; exact hn11) (58 + 52 * a1.toNatClampNeg) (drf13 ((show kd 1 = 13 by decide))) dX6_rule_44 ?_
          refine lv_astore (lv' := [(4, .ref (ad (58 + 52 * a1.toNatClampNeg))), (0, .ref (ad 0)), (1, .int a1), (2, .int a2), (3, .int a3)]) hx hb dX6_rule_45 hl (by decide) rfl (fun ls hl => ?_)
          refine lv_aload hx hb dX6_rule_47 (lv_at hl 0 rfl) ?_
          obtain ⟨hk12, h⟩ := gk h
          refine vgI hx hb hts hi1 hown hK hP (58 + 52 * a1.toNatClampNeg) (s318 hk12.1) hk12.2 (C := RX1) (T := TX1) (N := 9) rfl 1 (by decide) (by decide) (by decide) (by decide) (hts (.fieldLink RX6 130 "CrateHelpers$Problem" "ruleCount" "I") (by decide +kernel)) (fun _ h9 => h9) dX6_rule_49 ?_
          refine lv_bipush (v := 8) hx hb dX6_rule_52 (by decide) ?_
          refine lv_icmp_lt (tgt := 62) hx hb dX6_rule_54 (by decide) (fun c_13 => ?_) (fun c_13 => ?_)
          · have h := ip c_13 h
            refine lv_aload hx hb dX6_rule_62 (lv_at hl 0 rfl) ?_
            refine lv_iload_n hx hb dX6_rule_64 rfl (lv_at hl 3 rfl) ?_
            refine lv_iload_n hx hb dX6_rule_65 rfl (lv_at hl 4 rfl) ?_
            obtain ⟨⟨r14, I15⟩, hc16, h⟩ := Option.bind_eq_some_iff.mp h
            refine ecV (As := [.int a2, .int a3]) (rest := []) ⟨hx, hb, hml, hown, hts⟩ (e_X1_addRule l D K ad hap0 (58 + 52 * a1.toNatClampNeg) a2 a3 I G A L r14 I15 hc16) (cwV 2 hts gX6_rule_X1_addRule rfl rfl rfl (by decide +kernel) ⟨Nat.le_of_ble_eq_true rfl, Nat.le_of_ble_eq_true rfl⟩) hK hP hS (s318 hk12.1) hk12.2 (by decide) rfl rfl rfl hl.1 (Nat.le_of_ble_eq_true rfl) (Nat.le_of_ble_eq_true rfl) (Nat.le_of_ble_eq_true rfl) dX6_rule_66 (fun H locs hP hS => ?_) rfl
            have hP : va_P D vwCl (VW K ad I15 G A L) H := hP
            exact W.iret (v := r14) hx hb hr (fun t9 ht9 hW9 => ⟨⟨r14, (I15, G, A, L), rfl, by cases h; exact ⟨rfl, rfl⟩, by rw [ht9]; exact hP, va_K.moved hW9.alike hK⟩, hS.F ht9⟩) hS.2.2 dX6_rule_69
          · have h := iN c_13 h
            refine lv_bipush (v := (-3)) hx hb dX6_rule_57 (by decide) ?_
            refine lv_goto (tgt := 69) hx hb dX6_rule_59 (by decide) ?_
            exact W.iret (v := (-3)) hx hb hr (fun t9 ht9 hW9 => ⟨⟨(-3), (I, G, A, L), rfl, by cases h; exact ⟨rfl, rfl⟩, by rw [ht9]; exact hP, va_K.moved hW9.alike hK⟩, hS.F ht9⟩) hS.2.2 dX6_rule_69
        · have h := iN c_10 h
          refine lv_bipush (v := (-2)) hx hb dX6_rule_36 (by decide) ?_
          exact W.iret (v := (-2)) hx hb hr (fun t9 ht9 hW9 => ⟨⟨(-2), (I, G, A, L), rfl, by cases h; exact ⟨rfl, rfl⟩, by rw [ht9]; exact hP, va_K.moved hW9.alike hK⟩, hS.F ht9⟩) hS.2.2 dX6_rule_38
      · have h := ip c_9 h
        refine lv_iconst (v := (-1)) hx hb dX6_rule_25 (by decide) ?_
        exact W.iret (v := (-1)) hx hb hr (fun t9 ht9 hW9 => ⟨⟨(-1), (I, G, A, L), rfl, by cases h; exact ⟨rfl, rfl⟩, by rw [ht9]; exact hP, va_K.moved hW9.alike hK⟩, hS.F ht9⟩) hS.2.2 dX6_rule_26
set_option maxHeartbeats 4000000 in
set_option maxRecDepth 100000 in
theorem e_X5_addJudged (l : Launch) (D : va_G) (K : Nat → ClassId) (ad : Nat → Nat) (hap0 : apart ad (fun _ => True)) (o : Nat) (a1 : Int32) (a2 : Int64) (I : Nat → Nat → Int32) (G : Nat → Nat → Nat) (A : Nat → Nat → Int32) (L : Nat → Nat → Int64) (I0 : Nat → Nat → Int32) (A0 : Nat → Nat → Int32) (L0 : Nat → Nat → Int64) (h : f_X5_addJudged I A L o a1 a2 = some (I0, A0, L0)) : Cv l D K ad yX5_addJudged wsX5_addJudged 0 0 [.ref (ad o), .int a1, .long a2] (I, G, A, L) (fun (u : Mem) => u = (I0, G, A0, L0)) := by
  intro sz
  refine Met.ofW (cc := cX5_addJudged) (maxL := 4) (ret := none) (by decide) rfl ?_
  intro p e s m args below meth c s₁ Bd hml hv0
  obtain ⟨rfl, hsz, hP, hK⟩ := hv0
  have hx := Bd.exec
  have hb := Bd.bytes
  have hr := Bd.returns
  have hts := atoms_spec (ws := wsX5_addJudged) Bd.pre
  have hown : s.vm.findClass RX5 = some m.cls := findClass_of_methodNamed Bd.named
  have hlocks := Bd.notSynchronized
  have hi5 : ∀ w ∈ u_ws RX5 TX5 16, w ∈ wsX5_addJudged := fun w h => List.mem_cons_of_mem _ (List.mem_append_left _ (List.mem_append_right _ h))
  have hi0 : ∀ w ∈ u_ws RX0 TX0 3, w ∈ wsX5_addJudged := fun w h => List.mem_cons_of_mem _ (List.mem_append_right _ h)
  subst hsz
  have hap := vF_ap hap0 s.heap.size
  have hS : va_S (vF ad s.heap.size) s.heap s.heap [] := va_S.rf
  have hP : va_P D vwCl (VW K ad I G A L) s.heap := hP
  have hl := lv_entry ([.ref (ad o), .int a1, .long a2]) (n := 4) (Nat.le_of_ble_eq_true rfl)
  rw [lg_entry_eq]
  generalize (lg_sl ([.ref (ad o), .int a1, .long a2]) ++ List.replicate (4 - (lg_sl ([.ref (ad o), .int a1, .long a2])).length) Slot.unset).toArray = ls at hl ⊢
  have hl : lv_has ls 4 [(0, .ref (ad o)), (1, .int a1), (2, .long a2)] := hl
  rw [f_X5_addJudged] at h
  refine lv_aload_n hx hb dX5_addJudged_0 rfl (lv_at hl 0 rfl) ?_
  obtain ⟨hk1, h⟩ := gk h
  refine vgS hx hb hts hi5 hown hK hP (o) (s318 hk1.1) hk1.2 (C := RX5) (T := TX5) (N := 16) rfl 0 (by decide) (by decide) (by decide) (by decide) (o + 1) rfl (hts (.fieldLink RX5 49 "CrateHelpers$Tree" "place" "[J") (by decide +kernel)) (fun _ h9 => h9) dX5_addJudged_1 ?_
  refine lv_aload_n hx hb dX5_addJudged_4 rfl (lv_at hl 0 rfl) ?_
  refine vgI hx hb hts hi5 hown hK hP (o) (s318 hk1.1) hk1.2 (C := RX5) (T := TX5) (N := 16) rfl 9 (by decide) (by decide) (by decide) (by decide) (hts (.fieldLink RX5 15 "CrateHelpers$Tree" "known" "I") (by decide +kernel)) (fun _ h9 => h9) dX5_addJudged_5 ?_
  refine lv_aload_n hx hb dX5_addJudged_8 rfl (lv_at hl 0 rfl) ?_
  refine vgS hx hb hts hi5 hown hK hP (o) (s318 hk1.1) hk1.2 (C := RX5) (T := TX5) (N := 16) rfl 13 (by decide) (by decide) (by decide) (by decide) (o + 11) rfl (hts (.fieldLink RX5 31 "CrateHelpers$Tree" "judge" "LCrateHelpers$Judge;") (by decide +kernel)) (fun _ h9 => h9) dX5_addJudged_9 ?_
  obtain ⟨hk2, h⟩ := gk h
  refine vgI hx hb hts hi0 hown hK hP (o + 11) (s318 hk2.1) hk2.2 (C := RX0) (T := TX0) (N := 3) rfl 2 (by decide) (by decide) (by decide) (by decide) (hts (.fieldLink RX5 91 "CrateHelpers$Judge" "bound" "I") (by decide +kernel)) (fun _ h9 => h9) dX5_addJudged_12 ?_
  refine lv_i2l hx hb dX5_addJudged_15 rfl ?_
  refine lv_bipush (v := 18) hx hb dX5_addJudged_16 (by decide) ?_
  refine lv_lshl hx hb dX5_addJudged_18 rfl ?_
  refine lv_lload_n hx hb dX5_addJudged_19 rfl (lv_at hl 2 rfl) ?_
  refine lv_lor hx hb dX5_addJudged_20 ?_
  obtain ⟨hk3, h⟩ := gk h
  obtain ⟨hn4, h⟩ := gk h
  refine xlast hx hb hK hP hap hS (o + 1) (s318 hk3.1) hk3.2 hn4 dX5_addJudged_21 (fun H locs hP hS => ?_)
  obtain ⟨L5, eL5, h⟩ := bd_e h
  rw [← eL5] at hP
  have hP : va_P D vwCl (VW K ad I G A L5) H := hP
  refine lv_aload_n hx hb dX5_addJudged_22 rfl (lv_at hl 0 rfl) ?_
  refine vgS hx hb hts hi5 hown hK hP (o) (s318 hk1.1) hk1.2 (C := RX5) (T := TX5) (N := 16) rfl 1 (by decide) (by decide) (by decide) (by decide) (o + 2) rfl (hts (.fieldLink RX5 53 "CrateHelpers$Tree" "depth" "[B") (by decide +kernel)) (fun _ h9 => h9) dX5_addJudged_23 ?_
  refine lv_aload_n hx hb dX5_addJudged_26 rfl (lv_at hl 0 rfl) ?_
  refine vgI hx hb hts hi5 hown hK hP (o) (s318 hk1.1) hk1.2 (C := RX5) (T := TX5) (N := 16) rfl 9 (by decide) (by decide) (by decide) (by decide) (hts (.fieldLink RX5 15 "CrateHelpers$Tree" "known" "I") (by decide +kernel)) (fun _ h9 => h9) dX5_addJudged_27 ?_
  refine lv_iload_n hx hb dX5_addJudged_30 rfl (lv_at hl 1 rfl) ?_
  refine lv_i2b hx hb dX5_addJudged_31 rfl ?_
  obtain ⟨hk6, h⟩ := gk h
  obtain ⟨hn7, h⟩ := gk h
  refine xbast hx hb hK hP hap hS (o + 2) (s318 hk6.1) hk6.2 hn7 dX5_addJudged_32 (fun H locs hP hS => ?_)
  obtain ⟨A8, eA8, h⟩ := bd_e h
  rw [← eA8] at hP
  have hP : va_P D vwCl (VW K ad I G A8 L5) H := hP
  refine lv_aload_n hx hb dX5_addJudged_33 rfl (lv_at hl 0 rfl) ?_
  refine vgS hx hb hts hi5 hown hK hP (o) (s318 hk1.1) hk1.2 (C := RX5) (T := TX5) (N := 16) rfl 2 (by decide) (by decide) (by decide) (by decide) (o + 3) rfl (hts (.fieldLink RX5 57 "CrateHelpers$Tree" "what" "[B") (by decide +kernel)) (fun _ h9 => h9) dX5_addJudged_34 ?_
  refine lv_aload_n hx hb dX5_addJudged_37 rfl (lv_at hl 0 rfl) ?_
  refine vgI hx hb hts hi5 hown hK hP (o) (s318 hk1.1) hk1.2 (C := RX5) (T := TX5) (N := 16) rfl 9 (by decide) (by decide) (by decide) (by decide) (hts (.fieldLink RX5 15 "CrateHelpers$Tree" "known" "I") (by decide +kernel)) (fun _ h9 => h9) dX5_addJudged_38 ?_
  refine lv_aload_n hx hb dX5_addJudged_41 rfl (lv_at hl 0 rfl) ?_
  refine vgS hx hb hts hi5 hown hK hP (o) (s318 hk1.1) hk1.2 (C := RX5) (T := TX5) (N := 16) rfl 13 (by decide) (by decide) (by decide) (by decide) (o + 11) rfl (hts (.fieldLink RX5 31 "CrateHelpers$Tree" "judge" "LCrateHelpers$Judge;") (by decide +kernel)) (fun _ h9 => h9) dX5_addJudged_42 ?_
  refine vgI hx hb hts hi0 hown hK hP (o + 11) (s318 hk2.1) hk2.2 (C := RX0) (T := TX0) (N := 3) rfl 0 (by decide) (by decide) (by decide) (by decide) (hts (.fieldLink RX5 94 "CrateHelpers$Judge" "what" "I") (by decide +kernel)) (fun _ h9 => h9) dX5_addJudged_45 ?_
  refine lv_i2b hx hb dX5_addJudged_48 rfl ?_
  obtain ⟨hk9, h⟩ := gk h
  obtain ⟨hn10, h⟩ := gk h
  refine xbast hx hb hK hP hap hS (o + 3) (s318 hk9.1) hk9.2 hn10 dX5_addJudged_49 (fun H locs hP hS => ?_)
  obtain ⟨A11, eA11, h⟩ := bd_e h
  rw [← eA11] at hP
  have hP : va_P D vwCl (VW K ad I G A11 L5) H := hP
  refine lv_aload_n hx hb dX5_addJudged_50 rfl (lv_at hl 0 rfl) ?_
  refine vgS hx hb hts hi5 hown hK hP (o) (s318 hk1.1) hk1.2 (C := RX5) (T := TX5) (N := 16) rfl 3 (by decide) (by decide) (by decide) (by decide) (o + 4) rfl (hts (.fieldLink RX5 60 "CrateHelpers$Tree" "why" "[B") (by decide +kernel)) (fun _ h9 => h9) dX5_addJudged_51 ?_
  refine lv_aload_n hx hb dX5_addJudged_54 rfl (lv_at hl 0 rfl) ?_
  refine vgI hx hb hts hi5 hown hK hP (o) (s318 hk1.1) hk1.2 (C := RX5) (T := TX5) (N := 16) rfl 9 (by decide) (by decide) (by decide) (by decide) (hts (.fieldLink RX5 15 "CrateHelpers$Tree" "known" "I") (by decide +kernel)) (fun _ h9 => h9) dX5_addJudged_55 ?_
  refine lv_aload_n hx hb dX5_addJudged_58 rfl (lv_at hl 0 rfl) ?_
  refine vgS hx hb hts hi5 hown hK hP (o) (s318 hk1.1) hk1.2 (C := RX5) (T := TX5) (N := 16) rfl 13 (by decide) (by decide) (by decide) (by decide) (o + 11) rfl (hts (.fieldLink RX5 31 "CrateHelpers$Tree" "judge" "LCrateHelpers$Judge;") (by decide +kernel)) (fun _ h9 => h9) dX5_addJudged_59 ?_
  refine vgI hx hb hts hi0 hown hK hP (o + 11) (s318 hk2.1) hk2.2 (C := RX0) (T := TX0) (N := 3) rfl 1 (by decide) (by decide) (by decide) (by decide) (hts (.fieldLink RX5 96 "CrateHelpers$Judge" "why" "I") (by decide +kernel)) (fun _ h9 => h9) dX5_addJudged_62 ?_
  refine lv_i2b hx hb dX5_addJudged_65 rfl ?_
  obtain ⟨hk12, h⟩ := gk h
  obtain ⟨hn13, h⟩ := gk h
  refine xbast hx hb hK hP hap hS (o + 4) (s318 hk12.1) hk12.2 hn13 dX5_addJudged_66 (fun H locs hP hS => ?_)
  obtain ⟨A14, eA14, h⟩ := bd_e h
  rw [← eA14] at hP
  have hP : va_P D vwCl (VW K ad I G A14 L5) H := hP
  refine lv_aload_n hx hb dX5_addJudged_67 rfl (lv_at hl 0 rfl) ?_
  refine vgS hx hb hts hi5 hown hK hP (o) (s318 hk1.1) hk1.2 (C := RX5) (T := TX5) (N := 16) rfl 4 (by decide) (by decide) (by decide) (by decide) (o + 5) rfl (hts (.fieldLink RX5 63 "CrateHelpers$Tree" "stage" "[B") (by decide +kernel)) (fun _ h9 => h9) dX5_addJudged_68 ?_
  refine lv_aload_n hx hb dX5_addJudged_71 rfl (lv_at hl 0 rfl) ?_
  refine vgI hx hb hts hi5 hown hK hP (o) (s318 hk1.1) hk1.2 (C := RX5) (T := TX5) (N := 16) rfl 9 (by decide) (by decide) (by decide) (by decide) (hts (.fieldLink RX5 15 "CrateHelpers$Tree" "known" "I") (by decide +kernel)) (fun _ h9 => h9) dX5_addJudged_72 ?_
  refine lv_iconst (v := 0) hx hb dX5_addJudged_75 (by decide) ?_
  obtain ⟨hk15, h⟩ := gk h
  obtain ⟨hn16, h⟩ := gk h
  refine xbast hx hb hK hP hap hS (o + 5) (s318 hk15.1) hk15.2 hn16 dX5_addJudged_76 (fun H locs hP hS => ?_)
  obtain ⟨A17, eA17, h⟩ := bd_e h
  rw [← eA17] at hP
  have hP : va_P D vwCl (VW K ad I G A17 L5) H := hP
  refine lv_aload_n hx hb dX5_addJudged_77 rfl (lv_at hl 0 rfl) ?_
  refine vgS hx hb hts hi5 hown hK hP (o) (s318 hk1.1) hk1.2 (C := RX5) (T := TX5) (N := 16) rfl 5 (by decide) (by decide) (by decide) (by decide) (o + 6) rfl (hts (.fieldLink RX5 66 "CrateHelpers$Tree" "doneBy" "[B") (by decide +kernel)) (fun _ h9 => h9) dX5_addJudged_78 ?_
  refine lv_aload_n hx hb dX5_addJudged_81 rfl (lv_at hl 0 rfl) ?_
  refine vgI hx hb hts hi5 hown hK hP (o) (s318 hk1.1) hk1.2 (C := RX5) (T := TX5) (N := 16) rfl 9 (by decide) (by decide) (by decide) (by decide) (hts (.fieldLink RX5 15 "CrateHelpers$Tree" "known" "I") (by decide +kernel)) (fun _ h9 => h9) dX5_addJudged_82 ?_
  refine lv_bipush (v := (-9)) hx hb dX5_addJudged_85 (by decide) ?_
  obtain ⟨hk18, h⟩ := gk h
  obtain ⟨hn19, h⟩ := gk h
  refine xbast hx hb hK hP hap hS (o + 6) (s318 hk18.1) hk18.2 hn19 dX5_addJudged_87 (fun H locs hP hS => ?_)
  obtain ⟨A20, eA20, h⟩ := bd_e h
  rw [← eA20] at hP
  have hP : va_P D vwCl (VW K ad I G A20 L5) H := hP
  refine lv_aload_n hx hb dX5_addJudged_88 rfl (lv_at hl 0 rfl) ?_
  refine vgS hx hb hts hi5 hown hK hP (o) (s318 hk1.1) hk1.2 (C := RX5) (T := TX5) (N := 16) rfl 6 (by decide) (by decide) (by decide) (by decide) (o + 7) rfl (hts (.fieldLink RX5 69 "CrateHelpers$Tree" "firstBelow" "[S") (by decide +kernel)) (fun _ h9 => h9) dX5_addJudged_89 ?_
  refine lv_aload_n hx hb dX5_addJudged_92 rfl (lv_at hl 0 rfl) ?_
  refine vgI hx hb hts hi5 hown hK hP (o) (s318 hk1.1) hk1.2 (C := RX5) (T := TX5) (N := 16) rfl 9 (by decide) (by decide) (by decide) (by decide) (hts (.fieldLink RX5 15 "CrateHelpers$Tree" "known" "I") (by decide +kernel)) (fun _ h9 => h9) dX5_addJudged_93 ?_
  refine lv_iconst (v := (-1)) hx hb dX5_addJudged_96 (by decide) ?_
  obtain ⟨hk21, h⟩ := gk h
  obtain ⟨hn22, h⟩ := gk h
  refine xsast hx hb hK hP hap hS (o + 7) (s318 hk21.1) hk21.2 hn22 dX5_addJudged_97 (fun H locs hP hS => ?_)
  obtain ⟨A23, eA23, h⟩ := bd_e h
  rw [← eA23] at hP
  have hP : va_P D vwCl (VW K ad I G A23 L5) H := hP
  refine lv_aload_n hx hb dX5_addJudged_98 rfl (lv_at hl 0 rfl) ?_
  refine vgS hx hb hts hi5 hown hK hP (o) (s318 hk1.1) hk1.2 (C := RX5) (T := TX5) (N := 16) rfl 7 (by decide) (by decide) (by decide) (by decide) (o + 8) rfl (hts (.fieldLink RX5 73 "CrateHelpers$Tree" "isReached" "[Z") (by decide +kernel)) (fun _ h9 => h9) dX5_addJudged_99 ?_
  refine lv_aload_n hx hb dX5_addJudged_102 rfl (lv_at hl 0 rfl) ?_
  refine vgI hx hb hts hi5 hown hK hP (o) (s318 hk1.1) hk1.2 (C := RX5) (T := TX5) (N := 16) rfl 9 (by decide) (by decide) (by decide) (by decide) (hts (.fieldLink RX5 15 "CrateHelpers$Tree" "known" "I") (by decide +kernel)) (fun _ h9 => h9) dX5_addJudged_103 ?_
  refine lv_iconst (v := 0) hx hb dX5_addJudged_106 (by decide) ?_
  obtain ⟨hk24, h⟩ := gk h
  obtain ⟨hn25, h⟩ := gk h
  refine xzast hx hb hK hP hap hS (o + 8) (s318 hk24.1) hk24.2 hn25 dX5_addJudged_107 (fun H locs hP hS => ?_)
  obtain ⟨A26, eA26, h⟩ := bd_e h
  rw [← eA26] at hP
  have hP : va_P D vwCl (VW K ad I G A26 L5) H := hP
  refine lv_aload_n hx hb dX5_addJudged_108 rfl (lv_at hl 0 rfl) ?_
  refine lv_dup hx hb dX5_addJudged_109 rfl ?_
  refine vgI hx hb hts hi5 hown hK hP (o) (s318 hk1.1) hk1.2 (C := RX5) (T := TX5) (N := 16) rfl 9 (by decide) (by decide) (by decide) (by decide) (hts (.fieldLink RX5 15 "CrateHelpers$Tree" "known" "I") (by decide +kernel)) (fun _ h9 => h9) dX5_addJudged_110 ?_
  refine lv_iconst (v := 1) hx hb dX5_addJudged_113 (by decide) ?_
  refine lv_iadd hx hb dX5_addJudged_114 ?_
  refine vpI (v := ((I o 9) + 1)) (ty := .int) hx hb hts hi5 tyX5 tyX5_ok nmX5 hown hK hP hap hS (o) (s318 hk1.1) hk1.2 (C := RX5) (T := TX5) (N := 16) rfl 9 (by decide) (by decide) (by decide) (by decide) (hts (.fieldLink RX5 15 "CrateHelpers$Tree" "known" "I") (by decide +kernel)) (fun _ h9 => h9) rfl (by decide +kernel) rfl rfl dX5_addJudged_115 (fun H locs hP hS => ?_)
  obtain ⟨I27, eI27, h⟩ := bd_e h
  rw [← eI27] at hP
  have hP : va_P D vwCl (VW K ad I27 G A26 L5) H := hP
  exact W.vret hx hb hr (fun t9 ht9 hW9 => ⟨⟨(I27, G, A26, L5), rfl, by cases h; rfl, by rw [ht9]; exact hP, va_K.moved hW9.alike hK⟩, hS.F ht9⟩) hS.2.2 dX5_addJudged_118
set_option maxHeartbeats 4000000 in
set_option maxRecDepth 100000 in
theorem e_X5_plant (l : Launch) (D : va_G) (K : Nat → ClassId) (ad : Nat → Nat) (hap0 : apart ad (fun _ => True)) (o : Nat) (s1 : Nat) (a2 : Int32) (I : Nat → Nat → Int32) (G : Nat → Nat → Nat) (A : Nat → Nat → Int32) (L : Nat → Nat → Int64) (I0 : Nat → Nat → Int32) (G0 : Nat → Nat → Nat) (A0 : Nat → Nat → Int32) (L0 : Nat → Nat → Int64) (h : f_X5_plant I G A L o s1 a2 = some (I0, G0, A0, L0)) : Cv l D K ad yX5_plant wsX5_plant 5 182 [.ref (ad o), .ref (ad s1), .int a2] (I, G, A, L) (fun (u : Mem) => u = (I0, G0, A0, L0)) := by
  intro sz
  refine Met.ofW (cc := cX5_plant) (maxL := 3) (ret := none) (by decide) rfl ?_
  intro p e s m args below meth c s₁ Bd hml hv0
  obtain ⟨rfl, hsz, hP, hK⟩ := hv0
  have hx := Bd.exec
  have hb := Bd.bytes
  have hr := Bd.returns
  have hts := atoms_spec (ws := wsX5_plant) Bd.pre
  have hown : s.vm.findClass RX5 = some m.cls := findClass_of_methodNamed Bd.named
  have hlocks := Bd.notSynchronized
  have hi5 : ∀ w ∈ u_ws RX5 TX5 16, w ∈ wsX5_plant := fun w h => List.mem_cons_of_mem _ (List.mem_append_left _ (List.mem_append_left _ (List.mem_append_left _ (List.mem_append_right _ h))))
  have hi1 : ∀ w ∈ u_ws RX1 TX1 9, w ∈ wsX5_plant := fun w h => List.mem_cons_of_mem _ (List.mem_append_left _ (List.mem_append_left _ (List.mem_append_right _ h)))
  have hi0 : ∀ w ∈ u_ws RX0 TX0 3, w ∈ wsX5_plant := fun w h => List.mem_cons_of_mem _ (List.mem_append_left _ (List.mem_append_right _ h))
  have hi2 : ∀ w ∈ u_ws RX2 TX2 7, w ∈ wsX5_plant := fun w h => List.mem_cons_of_mem _ (List.mem_append_right _ h)
  subst hsz
  have hap := vF_ap hap0 s.heap.size
  have hS : va_S (vF ad s.heap.size) s.heap s.heap [] := va_S.rf
  have hP : va_P D vwCl (VW K ad I G A L) s.heap := hP
  have hl := lv_entry ([.ref (ad o), .ref (ad s1), .int a2]) (n := 3) (Nat.le_of_ble_eq_true rfl)
  rw [lg_entry_eq]
  generalize (lg_sl ([.ref (ad o), .ref (ad s1), .int a2]) ++ List.replicate (3 - (lg_sl ([.ref (ad o), .ref (ad s1), .int a2])).length) Slot.unset).toArray = ls at hl ⊢
  have hl : lv_has ls 3 [(0, .ref (ad o)), (1, .ref (ad s1)), (2, .int a2)] := hl
  rw [f_X5_plant] at h
  refine lv_aload_n hx hb dX5_plant_0 rfl (lv_at hl 0 rfl) ?_
  refine lv_aload_n hx hb dX5_plant_1 rfl (lv_at hl 1 rfl) ?_
  obtain ⟨hk1, h⟩ := gk h
  refine vpG (q := s1) (ty := .object "CrateHelpers$Problem") hx hb hts hi5 tyX5 tyX5_ok nmX5 hown hK hP hap hS (o) (s318 hk1.1) hk1.2 (C := RX5) (T := TX5) (N := 16) rfl 14 (by decide) (by decide) (by decide) (by decide) (hts (.fieldLink RX5 45 "CrateHelpers$Tree" "problem" "LCrateHelpers$Problem;") (by decide +kernel)) (fun _ h9 => h9) rfl (by decide +kernel) rfl rfl dX5_plant_2 (fun H locs hP hS => ?_)
  obtain ⟨G2, eG2, h⟩ := bd_e h
  rw [← eG2] at hP
  have hP : va_P D vwCl (VW K ad I G2 A L) H := hP
  refine lv_aload_n hx hb dX5_plant_5 rfl (lv_at hl 0 rfl) ?_
  refine lv_iload_n hx hb dX5_plant_6 rfl (lv_at hl 2 rfl) ?_
  obtain ⟨hz3, h⟩ := gk h
  refine vpI (v := a2) (ty := .boolean) hx hb hts hi5 tyX5 tyX5_ok nmX5 hown hK hP hap hS (o) (s318 hk1.1) hk1.2 (C := RX5) (T := TX5) (N := 16) rfl 15 (by decide) (by decide) (by decide) (by decide) (hts (.fieldLink RX5 35 "CrateHelpers$Tree" "mindsTwins" "Z") (by decide +kernel)) (fun _ h9 => h9) rfl (by decide +kernel) (nar01 hz3) (fit01 hz3) dX5_plant_7 (fun H locs hP hS => ?_)
  obtain ⟨I4, eI4, h⟩ := bd_e h
  rw [← eI4] at hP
  have hP : va_P D vwCl (VW K ad I4 G2 A L) H := hP
  refine lv_aload_n hx hb dX5_plant_10 rfl (lv_at hl 0 rfl) ?_
  refine lv_iconst (v := 0) hx hb dX5_plant_11 (by decide) ?_
  refine vpI (v := 0) (ty := .int) hx hb hts hi5 tyX5 tyX5_ok nmX5 hown hK hP hap hS (o) (s318 hk1.1) hk1.2 (C := RX5) (T := TX5) (N := 16) rfl 9 (by decide) (by decide) (by decide) (by decide) (hts (.fieldLink RX5 15 "CrateHelpers$Tree" "known" "I") (by decide +kernel)) (fun _ h9 => h9) rfl (by decide +kernel) rfl rfl dX5_plant_12 (fun H locs hP hS => ?_)
  obtain ⟨I5, eI5, h⟩ := bd_e h
  rw [← eI5] at hP
  have hP : va_P D vwCl (VW K ad I5 G2 A L) H := hP
  refine lv_aload_n hx hb dX5_plant_15 rfl (lv_at hl 0 rfl) ?_
  refine lv_iconst (v := 0) hx hb dX5_plant_16 (by decide) ?_
  refine vpI (v := 0) (ty := .int) hx hb hts hi5 tyX5 tyX5_ok nmX5 hown hK hP hap hS (o) (s318 hk1.1) hk1.2 (C := RX5) (T := TX5) (N := 16) rfl 10 (by decide) (by decide) (by decide) (by decide) (hts (.fieldLink RX5 19 "CrateHelpers$Tree" "done" "I") (by decide +kernel)) (fun _ h9 => h9) rfl (by decide +kernel) rfl rfl dX5_plant_17 (fun H locs hP hS => ?_)
  obtain ⟨I6, eI6, h⟩ := bd_e h
  rw [← eI6] at hP
  have hP : va_P D vwCl (VW K ad I6 G2 A L) H := hP
  refine lv_aload_n hx hb dX5_plant_20 rfl (lv_at hl 0 rfl) ?_
  refine lv_iconst (v := 0) hx hb dX5_plant_21 (by decide) ?_
  refine vpI (v := 0) (ty := .int) hx hb hts hi5 tyX5 tyX5_ok nmX5 hown hK hP hap hS (o) (s318 hk1.1) hk1.2 (C := RX5) (T := TX5) (N := 16) rfl 11 (by decide) (by decide) (by decide) (by decide) (hts (.fieldLink RX5 22 "CrateHelpers$Tree" "taken" "I") (by decide +kernel)) (fun _ h9 => h9) rfl (by decide +kernel) rfl rfl dX5_plant_22 (fun H locs hP hS => ?_)
  obtain ⟨I7, eI7, h⟩ := bd_e h
  rw [← eI7] at hP
  have hP : va_P D vwCl (VW K ad I7 G2 A L) H := hP
  refine lv_aload_n hx hb dX5_plant_25 rfl (lv_at hl 0 rfl) ?_
  refine vgS hx hb hts hi5 hown hK hP (o) (s318 hk1.1) hk1.2 (C := RX5) (T := TX5) (N := 16) rfl 12 (by decide) (by decide) (by decide) (by decide) (o + 10) rfl (hts (.fieldLink RX5 25 "CrateHelpers$Tree" "values" "[I") (by decide +kernel)) (fun _ h9 => h9) dX5_plant_26 ?_
  refine lv_iconst (v := (-1)) hx hb dX5_plant_29 (by decide) ?_
  obtain ⟨A8, hc9, h⟩ := Option.bind_eq_some_iff.mp h
  refine ecSv (As := [.ref (ad (o + 10)), .int (-1)]) (rest := []) ⟨hx, hb, hml, hown, hts⟩ (e_J7_fill_53178 l D K ad hap0 (o + 10) (-1) I7 G2 A L A8 hc9) (va_cwS 2 hts gX5_plant_J7_fill_53178 rfl rfl rfl (by decide +kernel) ⟨Nat.le_of_ble_eq_true rfl, Nat.le_of_ble_eq_true rfl⟩) hK hP hS rfl hl.1 (Nat.le_of_ble_eq_true rfl) (Nat.le_of_ble_eq_true rfl) (Nat.le_of_ble_eq_true rfl) dX5_plant_30 (fun H locs hP hS => ?_) rfl
  have hP : va_P D vwCl (VW K ad I7 G2 A8 L) H := hP
  refine lv_aload_n hx hb dX5_plant_33 rfl (lv_at hl 0 rfl) ?_
  refine vgS hx hb hts hi5 hown hK hP (o) (s318 hk1.1) hk1.2 (C := RX5) (T := TX5) (N := 16) rfl 13 (by decide) (by decide) (by decide) (by decide) (o + 11) rfl (hts (.fieldLink RX5 31 "CrateHelpers$Tree" "judge" "LCrateHelpers$Judge;") (by decide +kernel)) (fun _ h9 => h9) dX5_plant_34 ?_
  refine lv_aload_n hx hb dX5_plant_37 rfl (lv_at hl 0 rfl) ?_
  refine vgG hx hb hts hi5 hown hK hP (o) (s318 hk1.1) hk1.2 (C := RX5) (T := TX5) (N := 16) rfl 14 (by decide) (by decide) (by decide) (by decide) (hts (.fieldLink RX5 45 "CrateHelpers$Tree" "problem" "LCrateHelpers$Problem;") (by decide +kernel)) (fun _ h9 => h9) dX5_plant_38 ?_
  refine lv_aload_n hx hb dX5_plant_41 rfl (lv_at hl 0 rfl) ?_
  refine vgS hx hb hts hi5 hown hK hP (o) (s318 hk1.1) hk1.2 (C := RX5) (T := TX5) (N := 16) rfl 12 (by decide) (by decide) (by decide) (by decide) (o + 10) rfl (hts (.fieldLink RX5 25 "CrateHelpers$Tree" "values" "[I") (by decide +kernel)) (fun _ h9 => h9) dX5_plant_42 ?_
  refine lv_iconst (v := 0) hx hb dX5_plant_45 (by decide) ?_
  refine lv_aload_n hx hb dX5_plant_46 rfl (lv_at hl 0 rfl) ?_
  refine vgI hx hb hts hi5 hown hK hP (o) (s318 hk1.1) hk1.2 (C := RX5) (T := TX5) (N := 16) rfl 15 (by decide) (by decide) (by decide) (by decide) (hts (.fieldLink RX5 35 "CrateHelpers$Tree" "mindsTwins" "Z") (by decide +kernel)) (fun _ h9 => h9) dX5_plant_47 ?_
  obtain ⟨hk10, h⟩ := gk h
  obtain ⟨I11, hc12, h⟩ := Option.bind_eq_some_iff.mp h
  refine ecVv (As := [.ref (ad (G2 o 14)), .ref (ad (o + 10)), .int 0, .int (I7 o 15)]) (rest := []) ⟨hx, hb, hml, hown, hts⟩ (e_X0_look l D K ad hap0 (o + 11) (G2 o 14) (o + 10) 0 (I7 o 15) I7 G2 A8 L I11 hc12) (cwV 4 hts gX5_plant_X0_look rfl rfl rfl (by decide +kernel) ⟨Nat.le_of_ble_eq_true rfl, Nat.le_of_ble_eq_true rfl⟩) hK hP hS (s318 hk10.1) hk10.2 (by decide) rfl rfl rfl hl.1 (Nat.le_of_ble_eq_true rfl) (Nat.le_of_ble_eq_true rfl) (Nat.le_of_ble_eq_true rfl) dX5_plant_50 (fun H locs hP hS => ?_) rfl
  have hP : va_P D vwCl (VW K ad I11 G2 A8 L) H := hP
  refine lv_aload_n hx hb dX5_plant_53 rfl (lv_at hl 0 rfl) ?_
  refine lv_iconst (v := 0) hx hb dX5_plant_54 (by decide) ?_
  refine lv_lconst (v := 0) hx hb dX5_plant_55 rfl ?_
  obtain ⟨⟨I13, A14, L15⟩, hc16, h⟩ := Option.bind_eq_some_iff.mp h
  refine ecVv (As := [.int 0, .long 0]) (rest := []) ⟨hx, hb, hml, hown, hts⟩ (e_X5_addJudged l D K ad hap0 o 0 0 I11 G2 A8 L I13 A14 L15 hc16) (cwV 2 hts gX5_plant_X5_addJudged rfl rfl rfl (by decide +kernel) ⟨Nat.le_of_ble_eq_true rfl, Nat.le_of_ble_eq_true rfl⟩) hK hP hS (s318 hk1.1) hk1.2 (by decide) rfl rfl rfl hl.1 (Nat.le_of_ble_eq_true rfl) (Nat.le_of_ble_eq_true rfl) (Nat.le_of_ble_eq_true rfl) dX5_plant_56 (fun H locs hP hS => ?_) rfl
  have hP : va_P D vwCl (VW K ad I13 G2 A14 L15) H := hP
  refine lv_aload_n hx hb dX5_plant_59 rfl (lv_at hl 0 rfl) ?_
  refine vgS hx hb hts hi5 hown hK hP (o) (s318 hk1.1) hk1.2 (C := RX5) (T := TX5) (N := 16) rfl 7 (by decide) (by decide) (by decide) (by decide) (o + 8) rfl (hts (.fieldLink RX5 73 "CrateHelpers$Tree" "isReached" "[Z") (by decide +kernel)) (fun _ h9 => h9) dX5_plant_60 ?_
  refine lv_iconst (v := 0) hx hb dX5_plant_63 (by decide) ?_
  refine lv_iconst (v := 1) hx hb dX5_plant_64 (by decide) ?_
  obtain ⟨hk17, h⟩ := gk h
  obtain ⟨hn18, h⟩ := gk h
  refine xzast hx hb hK hP hap hS (o + 8) (s318 hk17.1) hk17.2 hn18 dX5_plant_65 (fun H locs hP hS => ?_)
  rw [show (0 : Int32).toNatClampNeg = 0 by decide] at hP
  obtain ⟨A19, eA19, h⟩ := bd_e h
  rw [← eA19] at hP
  have hP : va_P D vwCl (VW K ad I13 G2 A19 L15) H := hP
  exact W.vret hx hb hr (fun t9 ht9 hW9 => ⟨⟨(I13, G2, A19, L15), rfl, by cases h; rfl, by rw [ht9]; exact hP, va_K.moved hW9.alike hK⟩, hS.F ht9⟩) hS.2.2 dX5_plant_66
set_option maxHeartbeats 4000000 in
set_option maxRecDepth 100000 in
theorem e_X3_begin (l : Launch) (D : va_G) (K : Nat → ClassId) (ad : Nat → Nat) (hap0 : apart ad (fun _ => True)) (s1 : Nat) (s2 : Nat) (a3 : Int32) (I : Nat → Nat → Int32) (G : Nat → Nat → Nat) (A : Nat → Nat → Int32) (L : Nat → Nat → Int64) (r0 : Int32) (I0 : Nat → Nat → Int32) (G0 : Nat → Nat → Nat) (A0 : Nat → Nat → Int32) (L0 : Nat → Nat → Int64) (h : f_X3_begin I G A L s1 s2 a3 = some (r0, I0, G0, A0, L0)) : Ci l D K ad yX3_begin wsX3_begin 6 207 [.ref (ad 14), .ref (ad s1), .ref (ad s2), .int a3] (I, G, A, L) (fun (r : Int32) (u : Mem) => r = r0 ∧ u = (I0, G0, A0, L0)) := by
  intro sz
  refine Met.ofW (cc := cX3_begin) (maxL := 4) (ret := (some .int)) (by decide) rfl ?_
  intro p e s m args below meth c s₁ Bd hml hv0
  obtain ⟨rfl, hsz, hP, hK⟩ := hv0
  have hx := Bd.exec
  have hb := Bd.bytes
  have hr := Bd.returns
  have hts := atoms_spec (ws := wsX3_begin) Bd.pre
  have hown : s.vm.findClass RX3 = some m.cls := findClass_of_methodNamed Bd.named
  have hlocks := Bd.notSynchronized
  have hi3 : ∀ w ∈ u_ws RX3 TX3 6, w ∈ wsX3_begin := fun w h => List.mem_cons_of_mem _ (List.mem_append_left _ (List.mem_append_left _ (List.mem_append_left _ (List.mem_append_left _ (List.mem_append_left _ (List.mem_append_right _ h))))))
  have hi4 : ∀ w ∈ u_ws RX4 TX4 7, w ∈ wsX3_begin := fun w h => List.mem_cons_of_mem _ (List.mem_append_left _ (List.mem_append_left _ (List.mem_append_left _ (List.mem_append_left _ (List.mem_append_right _ h)))))
  have hi5 : ∀ w ∈ u_ws RX5 TX5 16, w ∈ wsX3_begin := fun w h => List.mem_cons_of_mem _ (List.mem_append_left _ (List.mem_append_left _ (List.mem_append_left _ (List.mem_append_right _ h))))
  have hi1 : ∀ w ∈ u_ws RX1 TX1 9, w ∈ wsX3_begin := fun w h => List.mem_cons_of_mem _ (List.mem_append_left _ (List.mem_append_left _ (List.mem_append_right _ h)))
  have hi0 : ∀ w ∈ u_ws RX0 TX0 3, w ∈ wsX3_begin := fun w h => List.mem_cons_of_mem _ (List.mem_append_left _ (List.mem_append_right _ h))
  have hi2 : ∀ w ∈ u_ws RX2 TX2 7, w ∈ wsX3_begin := fun w h => List.mem_cons_of_mem _ (List.mem_append_right _ h)
  subst hsz
  have hap := vF_ap hap0 s.heap.size
  have hS : va_S (vF ad s.heap.size) s.heap s.heap [] := va_S.rf
  have hP : va_P D vwCl (VW K ad I G A L) s.heap := hP
  have hl := lv_entry ([.ref (ad 14), .ref (ad s1), .ref (ad s2), .int a3]) (n := 4) (Nat.le_of_ble_eq_true rfl)
  rw [lg_entry_eq]
  generalize (lg_sl ([.ref (ad 14), .ref (ad s1), .ref (ad s2), .int a3]) ++ List.replicate (4 - (lg_sl ([.ref (ad 14), .ref (ad s1), .ref (ad s2), .int a3])).length) Slot.unset).toArray = ls at hl ⊢
  have hl : lv_has ls 4 [(0, .ref (ad 14)), (1, .ref (ad s1)), (2, .ref (ad s2)), (3, .int a3)] := hl
  rw [f_X3_begin] at h
  refine lv_aload_n hx hb dX3_begin_0 rfl (lv_at hl 0 rfl) ?_
  refine lv_aload_n hx hb dX3_begin_1 rfl (lv_at hl 2 rfl) ?_
  refine vpG (q := s2) (ty := .object "CrateHelpers$Team") hx hb hts hi3 tyX3 tyX3_ok nmX3 hown hK hP hap hS (14) (by decide) (show kd 14 = 3 by decide) (C := RX3) (T := TX3) (N := 6) rfl 1 (by decide) (by decide) (by decide) (by decide) (hts (.fieldLink RX3 34 "CrateHelpers$Solving" "team" "LCrateHelpers$Team;") (by decide +kernel)) (fun _ h9 => h9) rfl (by decide +kernel) rfl rfl dX3_begin_2 (fun H locs hP hS => ?_)
  obtain ⟨G1, eG1, h⟩ := bd_e h
  rw [← eG1] at hP
  have hP : va_P D vwCl (VW K ad I G1 A L) H := hP
  refine lv_aload_n hx hb dX3_begin_5 rfl (lv_at hl 0 rfl) ?_
  refine lv_iload_n hx hb dX3_begin_6 rfl (lv_at hl 3 rfl) ?_
  refine vpI (v := a3) (ty := .int) hx hb hts hi3 tyX3 tyX3_ok nmX3 hown hK hP hap hS (14) (by decide) (show kd 14 = 3 by decide) (C := RX3) (T := TX3) (N := 6) rfl 2 (by decide) (by decide) (by decide) (by decide) (hts (.fieldLink RX3 9 "CrateHelpers$Solving" "limit" "I") (by decide +kernel)) (fun _ h9 => h9) rfl (by decide +kernel) rfl rfl dX3_begin_7 (fun H locs hP hS => ?_)
  obtain ⟨I2, eI2, h⟩ := bd_e h
  rw [← eI2] at hP
  have hP : va_P D vwCl (VW K ad I2 G1 A L) H := hP
  refine lv_aload_n hx hb dX3_begin_10 rfl (lv_at hl 0 rfl) ?_
  refine lv_iconst (v := 0) hx hb dX3_begin_11 (by decide) ?_
  refine vpI (v := 0) (ty := .int) hx hb hts hi3 tyX3 tyX3_ok nmX3 hown hK hP hap hS (14) (by decide) (show kd 14 = 3 by decide) (C := RX3) (T := TX3) (N := 6) rfl 3 (by decide) (by decide) (by decide) (by decide) (hts (.fieldLink RX3 15 "CrateHelpers$Solving" "turns" "I") (by decide +kernel)) (fun _ h9 => h9) rfl (by decide +kernel) rfl rfl dX3_begin_12 (fun H locs hP hS => ?_)
  obtain ⟨I3, eI3, h⟩ := bd_e h
  rw [← eI3] at hP
  have hP : va_P D vwCl (VW K ad I3 G1 A L) H := hP
  refine lv_aload_n hx hb dX3_begin_15 rfl (lv_at hl 0 rfl) ?_
  refine vgG hx hb hts hi3 hown hK hP (14) (by decide) (show kd 14 = 3 by decide) (C := RX3) (T := TX3) (N := 6) rfl 1 (by decide) (by decide) (by decide) (by decide) (hts (.fieldLink RX3 34 "CrateHelpers$Solving" "team" "LCrateHelpers$Team;") (by decide +kernel)) (fun _ h9 => h9) dX3_begin_16 ?_
  obtain ⟨hk4, h⟩ := gk h
  refine vgS hx hb hts hi4 hown hK hP (G1 14 1) (s318 hk4.1) hk4.2 (C := RX4) (T := TX4) (N := 7) rfl 4 (by decide) (by decide) (by decide) (by decide) (G1 14 1 + 3) rfl (hts (.fieldLink RX3 38 "CrateHelpers$Team" "done" "[I") (by decide +kernel)) (fun _ h9 => h9) dX3_begin_19 ?_
  refine lv_iconst (v := 0) hx hb dX3_begin_22 (by decide) ?_
  obtain ⟨A5, hc6, h⟩ := Option.bind_eq_some_iff.mp h
  refine ecSv (As := [.ref (ad (G1 14 1 + 3)), .int 0]) (rest := []) ⟨hx, hb, hml, hown, hts⟩ (e_J7_fill_53178 l D K ad hap0 (G1 14 1 + 3) 0 I3 G1 A L A5 hc6) (va_cwS 2 hts gX3_begin_J7_fill_53178 rfl rfl rfl (by decide +kernel) ⟨Nat.le_of_ble_eq_true rfl, Nat.le_of_ble_eq_true rfl⟩) hK hP hS rfl hl.1 (Nat.le_of_ble_eq_true rfl) (Nat.le_of_ble_eq_true rfl) (Nat.le_of_ble_eq_true rfl) dX3_begin_23 (fun H locs hP hS => ?_) rfl
  have hP : va_P D vwCl (VW K ad I3 G1 A5 L) H := hP
  refine lv_aload_n hx hb dX3_begin_26 rfl (lv_at hl 0 rfl) ?_
  refine vgS hx hb hts hi3 hown hK hP (14) (by decide) (show kd 14 = 3 by decide) (C := RX3) (T := TX3) (N := 6) rfl 4 (by decide) (by decide) (by decide) (by decide) (15) rfl (hts (.fieldLink RX3 18 "CrateHelpers$Solving" "holds" "[I") (by decide +kernel)) (fun _ h9 => h9) dX3_begin_27 ?_
  refine lv_iconst (v := (-1)) hx hb dX3_begin_30 (by decide) ?_
  obtain ⟨A7, hc8, h⟩ := Option.bind_eq_some_iff.mp h
  refine ecSv (As := [.ref (ad 15), .int (-1)]) (rest := []) ⟨hx, hb, hml, hown, hts⟩ (e_J7_fill_53178 l D K ad hap0 15 (-1) I3 G1 A5 L A7 hc8) (va_cwS 2 hts gX3_begin_J7_fill_53178 rfl rfl rfl (by decide +kernel) ⟨Nat.le_of_ble_eq_true rfl, Nat.le_of_ble_eq_true rfl⟩) hK hP hS rfl hl.1 (Nat.le_of_ble_eq_true rfl) (Nat.le_of_ble_eq_true rfl) (Nat.le_of_ble_eq_true rfl) dX3_begin_31 (fun H locs hP hS => ?_) rfl
  have hP : va_P D vwCl (VW K ad I3 G1 A7 L) H := hP
  refine lv_aload_n hx hb dX3_begin_34 rfl (lv_at hl 0 rfl) ?_
  refine vgS hx hb hts hi3 hown hK hP (14) (by decide) (show kd 14 = 3 by decide) (C := RX3) (T := TX3) (N := 6) rfl 5 (by decide) (by decide) (by decide) (by decide) (16) rfl (hts (.fieldLink RX3 22 "CrateHelpers$Solving" "had" "[I") (by decide +kernel)) (fun _ h9 => h9) dX3_begin_35 ?_
  refine lv_iconst (v := 0) hx hb dX3_begin_38 (by decide) ?_
  obtain ⟨A9, hc10, h⟩ := Option.bind_eq_some_iff.mp h
  refine ecSv (As := [.ref (ad 16), .int 0]) (rest := []) ⟨hx, hb, hml, hown, hts⟩ (e_J7_fill_53178 l D K ad hap0 16 0 I3 G1 A7 L A9 hc10) (va_cwS 2 hts gX3_begin_J7_fill_53178 rfl rfl rfl (by decide +kernel) ⟨Nat.le_of_ble_eq_true rfl, Nat.le_of_ble_eq_true rfl⟩) hK hP hS rfl hl.1 (Nat.le_of_ble_eq_true rfl) (Nat.le_of_ble_eq_true rfl) (Nat.le_of_ble_eq_true rfl) dX3_begin_39 (fun H locs hP hS => ?_) rfl
  have hP : va_P D vwCl (VW K ad I3 G1 A9 L) H := hP
  refine lv_aload_n hx hb dX3_begin_42 rfl (lv_at hl 0 rfl) ?_
  refine vgG hx hb hts hi3 hown hK hP (14) (by decide) (show kd 14 = 3 by decide) (C := RX3) (T := TX3) (N := 6) rfl 0 (by decide) (by decide) (by decide) (by decide) (hts (.fieldLink RX3 30 "CrateHelpers$Solving" "tree" "LCrateHelpers$Tree;") (by decide +kernel)) (fun _ h9 => h9) dX3_begin_43 ?_
  refine lv_aload_n hx hb dX3_begin_46 rfl (lv_at hl 1 rfl) ?_
  refine lv_iconst (v := 1) hx hb dX3_begin_47 (by decide) ?_
  obtain ⟨hk11, h⟩ := gk h
  obtain ⟨⟨I12, G13, A14, L15⟩, hc16, h⟩ := Option.bind_eq_some_iff.mp h
  refine ecVv (As := [.ref (ad s1), .int 1]) (rest := []) ⟨hx, hb, hml, hown, hts⟩ (e_X5_plant l D K ad hap0 (G1 14 0) s1 1 I3 G1 A9 L I12 G13 A14 L15 hc16) (cwV 2 hts gX3_begin_X5_plant rfl rfl rfl (by decide +kernel) ⟨Nat.le_of_ble_eq_true rfl, Nat.le_of_ble_eq_true rfl⟩) hK hP hS (s318 hk11.1) hk11.2 (by decide) rfl rfl rfl hl.1 (Nat.le_of_ble_eq_true rfl) (Nat.le_of_ble_eq_true rfl) (Nat.le_of_ble_eq_true rfl) dX3_begin_48 (fun H locs hP hS => ?_) rfl
  have hP : va_P D vwCl (VW K ad I12 G13 A14 L15) H := hP
  refine lv_aload_n hx hb dX3_begin_51 rfl (lv_at hl 0 rfl) ?_
  refine vgG hx hb hts hi3 hown hK hP (14) (by decide) (show kd 14 = 3 by decide) (C := RX3) (T := TX3) (N := 6) rfl 0 (by decide) (by decide) (by decide) (by decide) (hts (.fieldLink RX3 30 "CrateHelpers$Solving" "tree" "LCrateHelpers$Tree;") (by decide +kernel)) (fun _ h9 => h9) dX3_begin_52 ?_
  obtain ⟨hk17, h⟩ := gk h
  refine vgS hx hb hts hi5 hown hK hP (G13 14 0) (s318 hk17.1) hk17.2 (C := RX5) (T := TX5) (N := 16) rfl 2 (by decide) (by decide) (by decide) (by decide) (G13 14 0 + 3) rfl (hts (.fieldLink RX3 53 "CrateHelpers$Tree" "what" "[B") (by decide +kernel)) (fun _ h9 => h9) dX3_begin_55 ?_
  refine lv_iconst (v := 0) hx hb dX3_begin_58 (by decide) ?_
  obtain ⟨hk18, h⟩ := gk h
  obtain ⟨hn19, h⟩ := gk h
  refine xbald hx hb hK hP (G13 14 0 + 3) (s318 hk18.1) hk18.2 hn19 dX3_begin_59 ?_
  rw [show (0 : Int32).toNatClampNeg = 0 by decide]
  refine lv_if_ne (tgt := 67) hx hb dX3_begin_60 (by decide) (fun c_20 => ?_) (fun c_20 => ?_)
  · have h := iN c_20 h
    refine lv_iconst (v := 2) hx hb dX3_begin_67 (by decide) ?_
    exact W.iret (v := 2) hx hb hr (fun t9 ht9 hW9 => ⟨⟨2, (I12, G13, A14, L15), rfl, by cases h; exact ⟨rfl, rfl⟩, by rw [ht9]; exact hP, va_K.moved hW9.alike hK⟩, hS.F ht9⟩) hS.2.2 dX3_begin_68
  · have h := ip c_20 h
    refine lv_iconst (v := 0) hx hb dX3_begin_63 (by decide) ?_
    refine lv_goto (tgt := 68) hx hb dX3_begin_64 (by decide) ?_
    exact W.iret (v := 0) hx hb hr (fun t9 ht9 hW9 => ⟨⟨0, (I12, G13, A14, L15), rfl, by cases h; exact ⟨rfl, rfl⟩, by rw [ht9]; exact hP, va_K.moved hW9.alike hK⟩, hS.F ht9⟩) hS.2.2 dX3_begin_68
set_option maxHeartbeats 4000000 in
set_option maxRecDepth 100000 in
theorem e_X3_pick (l : Launch) (D : va_G) (K : Nat → ClassId) (ad : Nat → Nat) (hap0 : apart ad (fun _ => True)) (a1 : Int32) (I : Nat → Nat → Int32) (G : Nat → Nat → Nat) (A : Nat → Nat → Int32) (L : Nat → Nat → Int64) (A0 : Nat → Nat → Int32) (h : f_X3_pick I G A L a1 = some A0) : Cv l D K ad yX3_pick wsX3_pick 1 26 [.ref (ad 14), .int a1] (I, G, A, L) (fun (u : Mem) => u = (I, G, A0, L)) := by
  intro sz
  refine Met.ofW (cc := cX3_pick) (maxL := 4) (ret := none) (by decide) rfl ?_
  intro p e s m args below meth c s₁ Bd hml hv0
  obtain ⟨rfl, hsz, hP, hK⟩ := hv0
  have hx := Bd.exec
  have hb := Bd.bytes
  have hr := Bd.returns
  have hts := atoms_spec (ws := wsX3_pick) Bd.pre
  have hown : s.vm.findClass RX3 = some m.cls := findClass_of_methodNamed Bd.named
  have hlocks := Bd.notSynchronized
  have hi3 : ∀ w ∈ u_ws RX3 TX3 6, w ∈ wsX3_pick := fun w h => List.mem_cons_of_mem _ (List.mem_append_left _ (List.mem_append_left _ (List.mem_append_right _ h)))
  have hi5 : ∀ w ∈ u_ws RX5 TX5 16, w ∈ wsX3_pick := fun w h => List.mem_cons_of_mem _ (List.mem_append_left _ (List.mem_append_right _ h))
  have hi4 : ∀ w ∈ u_ws RX4 TX4 7, w ∈ wsX3_pick := fun w h => List.mem_cons_of_mem _ (List.mem_append_right _ h)
  subst hsz
  have hap := vF_ap hap0 s.heap.size
  have hS : va_S (vF ad s.heap.size) s.heap s.heap [] := va_S.rf
  have hP : va_P D vwCl (VW K ad I G A L) s.heap := hP
  have hl := lv_entry ([.ref (ad 14), .int a1]) (n := 4) (Nat.le_of_ble_eq_true rfl)
  rw [lg_entry_eq]
  generalize (lg_sl ([.ref (ad 14), .int a1]) ++ List.replicate (4 - (lg_sl ([.ref (ad 14), .int a1])).length) Slot.unset).toArray = ls at hl ⊢
  have hl : lv_has ls 4 [(0, .ref (ad 14)), (1, .int a1)] := hl
  rw [f_X3_pick] at h
  refine lv_aload_n hx hb dX3_pick_0 rfl (lv_at hl 0 rfl) ?_
  refine vgG hx hb hts hi3 hown hK hP (14) (by decide) (show kd 14 = 3 by decide) (C := RX3) (T := TX3) (N := 6) rfl 0 (by decide) (by decide) (by decide) (by decide) (hts (.fieldLink RX3 30 "CrateHelpers$Solving" "tree" "LCrateHelpers$Tree;") (by decide +kernel)) (fun _ h9 => h9) dX3_pick_1 ?_
  obtain ⟨hk1, h⟩ := gk h
  refine vgI hx hb hts hi5 hown hK hP (G 14 0) (s318 hk1.1) hk1.2 (C := RX5) (T := TX5) (N := 16) rfl 10 (by decide) (by decide) (by decide) (by decide) (hts (.fieldLink RX3 79 "CrateHelpers$Tree" "done" "I") (by decide +kernel)) (fun _ h9 => h9) dX3_pick_4 ?_
  refine lv_aload_n hx hb dX3_pick_7 rfl (lv_at hl 0 rfl) ?_
  refine vgG hx hb hts hi3 hown hK hP (14) (by decide) (show kd 14 = 3 by decide) (C := RX3) (T := TX3) (N := 6) rfl 0 (by decide) (by decide) (by decide) (by decide) (hts (.fieldLink RX3 30 "CrateHelpers$Solving" "tree" "LCrateHelpers$Tree;") (by decide +kernel)) (fun _ h9 => h9) dX3_pick_8 ?_
  refine vgI hx hb hts hi5 hown hK hP (G 14 0) (s318 hk1.1) hk1.2 (C := RX5) (T := TX5) (N := 16) rfl 11 (by decide) (by decide) (by decide) (by decide) (hts (.fieldLink RX3 81 "CrateHelpers$Tree" "taken" "I") (by decide +kernel)) (fun _ h9 => h9) dX3_pick_11 ?_
  refine lv_isub hx hb dX3_pick_14 ?_
  refine lv_bipush (v := 30) hx hb dX3_pick_15 (by decide) ?_
  obtain ⟨j3, ej3, h⟩ := bd_e h
  have kj3 : ∀ (z2 : Int32), j3 z2 = some A0 → ∀ (H : Heap) (locs : List Loc), va_P D vwCl (VW K ad I G A L) H → va_S (vF ad s.heap.size) s.heap H locs → ∀ (ls : Array Slot), lv_has ls 4 [(0, .ref (ad 14)), (1, .int a1)] → W p l e ({ frames := 1, cells := 0, slots := 0, locals := 26 }) s m ([.ref (ad 14), .int a1] : List Value).toArray below meth c H locs 0 0 (MQ below (va_Qv (fun (u : Mem) => u = (I, G, A0, L)) (vB D K ad) (vF ad s.heap.size)) ([.ref (ad 14), .int a1] : List Value).toArray s 0 0 (vF ad s.heap.size)) (F0 m 25 ls [.int z2]) := by
    intro z2 h H locs hP hS ls hl
    subst ej3
    refine lv_istore_n (lv' := [(2, .int z2), (0, .ref (ad 14)), (1, .int a1)]) hx hb dX3_pick_25 rfl hl (by decide) rfl (fun ls hl => ?_)
    refine lv_iload_n hx hb dX3_pick_26 rfl (lv_at hl 0 rfl) ?_
    obtain ⟨j7, ej7, h⟩ := bd_e h
    have kj7 : ∀ (z6 : Int32), j7 z6 = some A0 → ∀ (H : Heap) (locs : List Loc), va_P D vwCl (VW K ad I G A L) H → va_S (vF ad s.heap.size) s.heap H locs → ∀ (ls : Array Slot), lv_has ls 4 [(0, .ref (ad 14)), (1, .int a1)] → W p l e ({ frames := 1, cells := 0, slots := 0, locals := 26 }) s m ([.ref (ad 14), .int a1] : List Value).toArray below meth c H locs 0 0 (MQ below (va_Qv (fun (u : Mem) => u = (I, G, A0, L)) (vB D K ad) (vF ad s.heap.size)) ([.ref (ad 14), .int a1] : List Value).toArray s 0 0 (vF ad s.heap.size)) (F0 m 41 ls [.int z6]) := by
      intro z6 h H locs hP hS ls hl
      subst ej7
      refine lv_istore_n (lv' := [(3, .int z6), (0, .ref (ad 14)), (1, .int a1)]) hx hb dX3_pick_41 rfl hl (by decide) rfl (fun ls hl => ?_)
      refine lv_iload_n hx hb dX3_pick_42 rfl (lv_at hl 0 rfl) ?_
      refine lv_iconst (v := (-1)) hx hb dX3_pick_43 (by decide) ?_
      refine lv_icmp_ne (tgt := 61) hx hb dX3_pick_44 (by decide) (fun c_8 => ?_) (fun c_8 => ?_)
      · have h := iN c_8 h
        refine lv_aload_n hx hb dX3_pick_61 rfl (lv_at hl 1 rfl) ?_
        refine vgG hx hb hts hi3 hown hK hP (14) (by decide) (show kd 14 = 3 by decide) (C := RX3) (T := TX3) (N := 6) rfl 0 (by decide) (by decide) (by decide) (by decide) (hts (.fieldLink RX3 30 "CrateHelpers$Solving" "tree" "LCrateHelpers$Tree;") (by decide +kernel)) (fun _ h9 => h9) dX3_pick_62 ?_
        refine vgS hx hb hts hi5 hown hK hP (G 14 0) (s318 hk1.1) hk1.2 (C := RX5) (T := TX5) (N := 16) rfl 4 (by decide) (by decide) (by decide) (by decide) (G 14 0 + 5) rfl (hts (.fieldLink RX3 90 "CrateHelpers$Tree" "stage" "[B") (by decide +kernel)) (fun _ h9 => h9) dX3_pick_65 ?_
        refine lv_iload_n hx hb dX3_pick_68 rfl (lv_at hl 0 rfl) ?_
        refine lv_iconst (v := 1) hx hb dX3_pick_69 (by decide) ?_
        obtain ⟨hk9, h⟩ := gk h
        obtain ⟨hn10, h⟩ := gk h
        refine xbast hx hb hK hP hap hS (G 14 0 + 5) (s318 hk9.1) hk9.2 hn10 dX3_pick_70 (fun H locs hP hS => ?_)
        obtain ⟨A11, eA11, h⟩ := bd_e h
        rw [← eA11] at hP
        have hP : va_P D vwCl (VW K ad I G A11 L) H := hP
        refine lv_aload_n hx hb dX3_pick_71 rfl (lv_at hl 1 rfl) ?_
        refine vgS hx hb hts hi3 hown hK hP (14) (by decide) (show kd 14 = 3 by decide) (C := RX3) (T := TX3) (N := 6) rfl 4 (by decide) (by decide) (by decide) (by decide) (15) rfl (hts (.fieldLink RX3 18 "CrateHelpers$Solving" "holds" "[I") (by decide +kernel)) (fun _ h9 => h9) dX3_pick_72 ?_
        refine lv_iload_n hx hb dX3_pick_75 rfl (lv_at hl 2 rfl) ?_
        refine lv_iload_n hx hb dX3_pick_76 rfl (lv_at hl 0 rfl) ?_
        obtain ⟨hn12, h⟩ := gk h
        refine xiast hx hb hK hP hap hS (15) (by decide) (show kd 15 = 8 by decide) (by rw [show ln 15 = 5 by decide]; exact hn12) dX3_pick_77 (fun H locs hP hS => ?_)
        obtain ⟨A13, eA13, h⟩ := bd_e h
        rw [← eA13] at hP
        have hP : va_P D vwCl (VW K ad I G A13 L) H := hP
        refine lv_aload_n hx hb dX3_pick_78 rfl (lv_at hl 1 rfl) ?_
        refine vgS hx hb hts hi3 hown hK hP (14) (by decide) (show kd 14 = 3 by decide) (C := RX3) (T := TX3) (N := 6) rfl 5 (by decide) (by decide) (by decide) (by decide) (16) rfl (hts (.fieldLink RX3 22 "CrateHelpers$Solving" "had" "[I") (by decide +kernel)) (fun _ h9 => h9) dX3_pick_79 ?_
        refine lv_iload_n hx hb dX3_pick_82 rfl (lv_at hl 2 rfl) ?_
        refine lv_dup2_11 hx hb dX3_pick_83 rfl rfl ?_
        refine xiald hx hb hK hP (16) (by decide) (show kd 16 = 8 by decide) (by rw [show ln 16 = 5 by decide]; exact hn12) dX3_pick_84 ?_
        refine lv_iconst (v := 1) hx hb dX3_pick_85 (by decide) ?_
        refine lv_iadd hx hb dX3_pick_86 ?_
        refine xiast hx hb hK hP hap hS (16) (by decide) (show kd 16 = 8 by decide) (by rw [show ln 16 = 5 by decide]; exact hn12) dX3_pick_87 (fun H locs hP hS => ?_)
        obtain ⟨A14, eA14, h⟩ := bd_e h
        rw [← eA14] at hP
        have hP : va_P D vwCl (VW K ad I G A14 L) H := hP
        exact W.vret hx hb hr (fun t9 ht9 hW9 => ⟨⟨(I, G, A14, L), rfl, by cases h; rfl, by rw [ht9]; exact hP, va_K.moved hW9.alike hK⟩, hS.F ht9⟩) hS.2.2 dX3_pick_88
      · have h := ip c_8 h
        refine lv_aload_n hx hb dX3_pick_47 rfl (lv_at hl 1 rfl) ?_
        refine vgG hx hb hts hi3 hown hK hP (14) (by decide) (show kd 14 = 3 by decide) (C := RX3) (T := TX3) (N := 6) rfl 1 (by decide) (by decide) (by decide) (by decide) (hts (.fieldLink RX3 34 "CrateHelpers$Solving" "team" "LCrateHelpers$Team;") (by decide +kernel)) (fun _ h9 => h9) dX3_pick_48 ?_
        obtain ⟨hk15, h⟩ := gk h
        refine vgS hx hb hts hi4 hown hK hP (G 14 1) (s318 hk15.1) hk15.2 (C := RX4) (T := TX4) (N := 7) rfl 5 (by decide) (by decide) (by decide) (by decide) (G 14 1 + 4) rfl (hts (.fieldLink RX3 87 "CrateHelpers$Team" "idle" "[I") (by decide +kernel)) (fun _ h9 => h9) dX3_pick_51 ?_
        refine lv_iload_n hx hb dX3_pick_54 rfl (lv_at hl 2 rfl) ?_
        refine lv_dup2_11 hx hb dX3_pick_55 rfl rfl ?_
        obtain ⟨hk16, h⟩ := gk h
        obtain ⟨hn17, h⟩ := gk h
        refine xiald hx hb hK hP (G 14 1 + 4) (s318 hk16.1) hk16.2 hn17 dX3_pick_56 ?_
        refine lv_iconst (v := 1) hx hb dX3_pick_57 (by decide) ?_
        refine lv_iadd hx hb dX3_pick_58 ?_
        refine xiast hx hb hK hP hap hS (G 14 1 + 4) (s318 hk16.1) hk16.2 hn17 dX3_pick_59 (fun H locs hP hS => ?_)
        obtain ⟨A18, eA18, h⟩ := bd_e h
        rw [← eA18] at hP
        have hP : va_P D vwCl (VW K ad I G A18 L) H := hP
        exact W.vret hx hb hr (fun t9 ht9 hW9 => ⟨⟨(I, G, A18, L), rfl, by cases h; rfl, by rw [ht9]; exact hP, va_K.moved hW9.alike hK⟩, hS.F ht9⟩) hS.2.2 dX3_pick_60
    refine lv_if_eq (tgt := 34) hx hb dX3_pick_27 (by decide) (fun c_19 => ?_) (fun c_19 => ?_)
    · have h := ip c_19 h
      refine lv_aload_n hx hb dX3_pick_34 rfl (lv_at hl 1 rfl) ?_
      refine vgG hx hb hts hi3 hown hK hP (14) (by decide) (show kd 14 = 3 by decide) (C := RX3) (T := TX3) (N := 6) rfl 0 (by decide) (by decide) (by decide) (by decide) (hts (.fieldLink RX3 30 "CrateHelpers$Solving" "tree" "LCrateHelpers$Tree;") (by decide +kernel)) (fun _ h9 => h9) dX3_pick_35 ?_
      obtain ⟨r20, hc21, h⟩ := Option.bind_eq_some_iff.mp h
      refine ecV (As := []) (rest := []) ⟨hx, hb, hml, hown, hts⟩ (e_X5_nextFree l D K ad hap0 (G 14 0) I G A L r20 hc21) (cwV 0 hts gX3_pick_X5_nextFree rfl rfl rfl (by decide +kernel) ⟨Nat.le_of_ble_eq_true rfl, Nat.le_of_ble_eq_true rfl⟩) hK hP hS (s318 hk1.1) hk1.2 (by decide) rfl rfl rfl hl.1 (Nat.le_of_ble_eq_true rfl) (Nat.le_of_ble_eq_true rfl) (Nat.le_of_ble_eq_true rfl) dX3_pick_38 (fun H locs hP hS => ?_) rfl
      have hP : va_P D vwCl (VW K ad I G A L) H := hP
      exact kj7 r20 h _ _ hP hS ls (lv_sub hl [1, 2] rfl)
    · have h := iN c_19 h
      refine lv_iconst (v := (-1)) hx hb dX3_pick_30 (by decide) ?_
      refine lv_goto (tgt := 41) hx hb dX3_pick_31 (by decide) ?_
      exact kj7 (-1) h _ _ hP hS ls (lv_sub hl [1, 2] rfl)
  refine lv_icmp_lt (tgt := 24) hx hb dX3_pick_17 (by decide) (fun c_22 => ?_) (fun c_22 => ?_)
  · have h := ip c_22 h
    refine lv_iconst (v := 0) hx hb dX3_pick_24 (by decide) ?_
    exact kj3 0 h _ _ hP hS ls (lv_sub hl [0, 1] rfl)
  · have h := iN c_22 h
    refine lv_iconst (v := 1) hx hb dX3_pick_20 (by decide) ?_
    refine lv_goto (tgt := 25) hx hb dX3_pick_21 (by decide) ?_
    exact kj3 1 h _ _ hP hS ls (lv_sub hl [0, 1] rfl)
set_option maxHeartbeats 4000000 in
set_option maxRecDepth 100000 in
theorem e_X3_replace (l : Launch) (D : va_G) (K : Nat → ClassId) (ad : Nat → Nat) (hap0 : apart ad (fun _ => True)) (a1 : Int32) (I : Nat → Nat → Int32) (G : Nat → Nat → Nat) (A : Nat → Nat → Int32) (L : Nat → Nat → Int64) (A0 : Nat → Nat → Int32) (h : f_X3_replace G A a1 = some A0) : Cv l D K ad yX3_replace wsX3_replace 0 0 [.ref (ad 14), .int a1] (I, G, A, L) (fun (u : Mem) => u = (I, G, A0, L)) := by
  intro sz
  refine Met.ofW (cc := cX3_replace) (maxL := 2) (ret := none) (by decide) rfl ?_
  intro p e s m args below meth c s₁ Bd hml hv0
  obtain ⟨rfl, hsz, hP, hK⟩ := hv0
  have hx := Bd.exec
  have hb := Bd.bytes
  have hr := Bd.returns
  have hts := atoms_spec (ws := wsX3_replace) Bd.pre
  have hown : s.vm.findClass RX3 = some m.cls := findClass_of_methodNamed Bd.named
  have hlocks := Bd.notSynchronized
  have hi3 : ∀ w ∈ u_ws RX3 TX3 6, w ∈ wsX3_replace := fun w h => List.mem_cons_of_mem _ (List.mem_append_left _ (List.mem_append_left _ (List.mem_append_right _ h)))
  have hi5 : ∀ w ∈ u_ws RX5 TX5 16, w ∈ wsX3_replace := fun w h => List.mem_cons_of_mem _ (List.mem_append_left _ (List.mem_append_right _ h))
  have hi4 : ∀ w ∈ u_ws RX4 TX4 7, w ∈ wsX3_replace := fun w h => List.mem_cons_of_mem _ (List.mem_append_right _ h)
  subst hsz
  have hap := vF_ap hap0 s.heap.size
  have hS : va_S (vF ad s.heap.size) s.heap s.heap [] := va_S.rf
  have hP : va_P D vwCl (VW K ad I G A L) s.heap := hP
  have hl := lv_entry ([.ref (ad 14), .int a1]) (n := 2) (Nat.le_of_ble_eq_true rfl)
  rw [lg_entry_eq]
  generalize (lg_sl ([.ref (ad 14), .int a1]) ++ List.replicate (2 - (lg_sl ([.ref (ad 14), .int a1])).length) Slot.unset).toArray = ls at hl ⊢
  have hl : lv_has ls 2 [(0, .ref (ad 14)), (1, .int a1)] := hl
  rw [f_X3_replace] at h
  refine lv_aload_n hx hb dX3_replace_0 rfl (lv_at hl 0 rfl) ?_
  refine vgG hx hb hts hi3 hown hK hP (14) (by decide) (show kd 14 = 3 by decide) (C := RX3) (T := TX3) (N := 6) rfl 0 (by decide) (by decide) (by decide) (by decide) (hts (.fieldLink RX3 30 "CrateHelpers$Solving" "tree" "LCrateHelpers$Tree;") (by decide +kernel)) (fun _ h9 => h9) dX3_replace_1 ?_
  obtain ⟨hk1, h⟩ := gk h
  refine vgS hx hb hts hi5 hown hK hP (G 14 0) (s318 hk1.1) hk1.2 (C := RX5) (T := TX5) (N := 16) rfl 4 (by decide) (by decide) (by decide) (by decide) (G 14 0 + 5) rfl (hts (.fieldLink RX3 90 "CrateHelpers$Tree" "stage" "[B") (by decide +kernel)) (fun _ h9 => h9) dX3_replace_4 ?_
  refine lv_aload_n hx hb dX3_replace_7 rfl (lv_at hl 0 rfl) ?_
  refine vgS hx hb hts hi3 hown hK hP (14) (by decide) (show kd 14 = 3 by decide) (C := RX3) (T := TX3) (N := 6) rfl 4 (by decide) (by decide) (by decide) (by decide) (15) rfl (hts (.fieldLink RX3 18 "CrateHelpers$Solving" "holds" "[I") (by decide +kernel)) (fun _ h9 => h9) dX3_replace_8 ?_
  refine lv_iload_n hx hb dX3_replace_11 rfl (lv_at hl 1 rfl) ?_
  obtain ⟨hn2, h⟩ := gk h
  refine xiald hx hb hK hP (15) (by decide) (show kd 15 = 8 by decide) (by rw [show ln 15 = 5 by decide]; exact hn2) dX3_replace_12 ?_
  refine lv_iconst (v := 0) hx hb dX3_replace_13 (by decide) ?_
  obtain ⟨hk3, h⟩ := gk h
  obtain ⟨hn4, h⟩ := gk h
  refine xbast hx hb hK hP hap hS (G 14 0 + 5) (s318 hk3.1) hk3.2 hn4 dX3_replace_14 (fun H locs hP hS => ?_)
  obtain ⟨A5, eA5, h⟩ := bd_e h
  rw [← eA5] at hP
  have hP : va_P D vwCl (VW K ad I G A5 L) H := hP
  refine lv_aload_n hx hb dX3_replace_15 rfl (lv_at hl 0 rfl) ?_
  refine vgS hx hb hts hi3 hown hK hP (14) (by decide) (show kd 14 = 3 by decide) (C := RX3) (T := TX3) (N := 6) rfl 4 (by decide) (by decide) (by decide) (by decide) (15) rfl (hts (.fieldLink RX3 18 "CrateHelpers$Solving" "holds" "[I") (by decide +kernel)) (fun _ h9 => h9) dX3_replace_16 ?_
  refine lv_iload_n hx hb dX3_replace_19 rfl (lv_at hl 1 rfl) ?_
  refine lv_iconst (v := (-1)) hx hb dX3_replace_20 (by decide) ?_
  refine xiast hx hb hK hP hap hS (15) (by decide) (show kd 15 = 8 by decide) (by rw [show ln 15 = 5 by decide]; exact hn2) dX3_replace_21 (fun H locs hP hS => ?_)
  obtain ⟨A6, eA6, h⟩ := bd_e h
  rw [← eA6] at hP
  have hP : va_P D vwCl (VW K ad I G A6 L) H := hP
  refine lv_aload_n hx hb dX3_replace_22 rfl (lv_at hl 0 rfl) ?_
  refine vgG hx hb hts hi3 hown hK hP (14) (by decide) (show kd 14 = 3 by decide) (C := RX3) (T := TX3) (N := 6) rfl 1 (by decide) (by decide) (by decide) (by decide) (hts (.fieldLink RX3 34 "CrateHelpers$Solving" "team" "LCrateHelpers$Team;") (by decide +kernel)) (fun _ h9 => h9) dX3_replace_23 ?_
  obtain ⟨hk7, h⟩ := gk h
  refine vgS hx hb hts hi4 hown hK hP (G 14 1) (s318 hk7.1) hk7.2 (C := RX4) (T := TX4) (N := 7) rfl 6 (by decide) (by decide) (by decide) (by decide) (G 14 1 + 5) rfl (hts (.fieldLink RX3 93 "CrateHelpers$Team" "replaced" "[I") (by decide +kernel)) (fun _ h9 => h9) dX3_replace_26 ?_
  refine lv_iload_n hx hb dX3_replace_29 rfl (lv_at hl 1 rfl) ?_
  refine lv_dup2_11 hx hb dX3_replace_30 rfl rfl ?_
  obtain ⟨hk8, h⟩ := gk h
  obtain ⟨hn9, h⟩ := gk h
  refine xiald hx hb hK hP (G 14 1 + 5) (s318 hk8.1) hk8.2 hn9 dX3_replace_31 ?_
  refine lv_iconst (v := 1) hx hb dX3_replace_32 (by decide) ?_
  refine lv_iadd hx hb dX3_replace_33 ?_
  refine xiast hx hb hK hP hap hS (G 14 1 + 5) (s318 hk8.1) hk8.2 hn9 dX3_replace_34 (fun H locs hP hS => ?_)
  obtain ⟨A10, eA10, h⟩ := bd_e h
  rw [← eA10] at hP
  have hP : va_P D vwCl (VW K ad I G A10 L) H := hP
  exact W.vret hx hb hr (fun t9 ht9 hW9 => ⟨⟨(I, G, A10, L), rfl, by cases h; rfl, by rw [ht9]; exact hP, va_K.moved hW9.alike hK⟩, hS.F ht9⟩) hS.2.2 dX3_replace_35
