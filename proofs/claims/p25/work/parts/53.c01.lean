set_option maxHeartbeats 4000000 in
set_option maxRecDepth 100000 in
theorem e_X1_setCost (l : Launch) (D : va_G) (K : Nat → ClassId) (ad : Nat → Nat) (hap0 : apart ad (fun _ => True)) (o : Nat) (a1 : Int32) (a2 : Int32) (a3 : Int32) (I : Nat → Nat → Int32) (G : Nat → Nat → Nat) (A : Nat → Nat → Int32) (L : Nat → Nat → Int64) (r0 : Int32) (I0 : Nat → Nat → Int32) (A0 : Nat → Nat → Int32) (h : f_X1_setCost I A o a1 a2 a3 = some (r0, I0, A0)) : Ci l D K ad yX1_setCost wsX1_setCost 1 23 [.ref (ad o), .int a1, .int a2, .int a3] (I, G, A, L) (fun (r : Int32) (u : Mem) => r = r0 ∧ u = (I0, G, A0, L)) := by
  intro sz
  refine Met.ofW (cc := cX1_setCost) (maxL := 5) (ret := (some .int)) (by decide) rfl ?_
  intro p e s m args below meth c s₁ Bd hml hv0
  obtain ⟨rfl, hsz, hP, hK⟩ := hv0
  have hx := Bd.exec
  have hb := Bd.bytes
  have hr := Bd.returns
  have hts := atoms_spec (ws := wsX1_setCost) Bd.pre
  have hown : s.vm.findClass RX1 = some m.cls := findClass_of_methodNamed Bd.named
  have hlocks := Bd.notSynchronized
  have hi1 : ∀ w ∈ u_ws RX1 TX1 9, w ∈ wsX1_setCost := fun w h => List.mem_cons_of_mem _ (List.mem_append_right _ h)
  subst hsz
  have hap := vF_ap hap0 s.heap.size
  have hS : va_S (vF ad s.heap.size) s.heap s.heap [] := va_S.rf
  have hP : va_P D vwCl (VW K ad I G A L) s.heap := hP
  have hl := lv_entry ([.ref (ad o), .int a1, .int a2, .int a3]) (n := 5) (Nat.le_of_ble_eq_true rfl)
  rw [lg_entry_eq]
  generalize (lg_sl ([.ref (ad o), .int a1, .int a2, .int a3]) ++ List.replicate (5 - (lg_sl ([.ref (ad o), .int a1, .int a2, .int a3])).length) Slot.unset).toArray = ls at hl ⊢
  have hl : lv_has ls 5 [(0, .ref (ad o)), (1, .int a1), (2, .int a2), (3, .int a3)] := hl
  rw [f_X1_setCost] at h
  refine lv_aload_n hx hb dX1_setCost_0 rfl (lv_at hl 0 rfl) ?_
  obtain ⟨hk1, h⟩ := gk h
  obtain ⟨I2, hc3, h⟩ := Option.bind_eq_some_iff.mp h
  refine ecVv (As := []) (rest := []) ⟨hx, hb, hml, hown, hts⟩ (e_X1_change l D K ad hap0 o I G A L I2 hc3) (cwV 0 hts gX1_setCost_X1_change rfl rfl rfl (by decide +kernel) ⟨Nat.le_of_ble_eq_true rfl, Nat.le_of_ble_eq_true rfl⟩) hK hP hS (s318 hk1.1) hk1.2 (by decide) rfl rfl rfl hl.1 (Nat.le_of_ble_eq_true rfl) (Nat.le_of_ble_eq_true rfl) (Nat.le_of_ble_eq_true rfl) dX1_setCost_1 (fun H locs hP hS => ?_) rfl
  have hP : va_P D vwCl (VW K ad I2 G A L) H := hP
  refine lv_iload_n hx hb dX1_setCost_4 rfl (lv_at hl 3 rfl) ?_
  refine lv_istore (lv' := [(4, .int a3), (0, .ref (ad o)), (1, .int a1), (2, .int a2), (3, .int a3)]) hx hb dX1_setCost_5 hl (by decide) rfl (fun ls hl => ?_)
  refine lv_aload_n hx hb dX1_setCost_7 rfl (lv_at hl 1 rfl) ?_
  refine vgS hx hb hts hi1 hown hK hP (o) (s318 hk1.1) hk1.2 (C := RX1) (T := TX1) (N := 9) rfl 5 (by decide) (by decide) (by decide) (by decide) (o + 2) rfl (hts (.fieldLink RX1 29 "CrateHelpers$Problem" "kinds" "[I") (by decide +kernel)) (fun _ h9 => h9) dX1_setCost_8 ?_
  refine lv_iload_n hx hb dX1_setCost_11 rfl (lv_at hl 2 rfl) ?_
  obtain ⟨hk4, h⟩ := gk h
  obtain ⟨hn5, h⟩ := gk h
  refine xiald hx hb hK hP (o + 2) (s318 hk4.1) hk4.2 hn5 dX1_setCost_12 ?_
  rcases sw_2 (A (o + 2) a1.toNatClampNeg) with hs6 | hs6 | hs6 | hs6
  · have h := ip hs6 h
    refine W_top hs6 ?_
    refine lv_tableIn (off := 27) (tgt := 40) hx hb dX1_setCost_13 (by decide) (by decide) (by decide) (by decide) ?_
    refine lv_iload_n hx hb dX1_setCost_40 rfl (lv_at hl 4 rfl) ?_
    refine lv_i2b hx hb dX1_setCost_41 rfl ?_
    refine lv_istore (lv' := [(4, .int a3.toInt8.toInt32), (0, .ref (ad o)), (1, .int a1), (2, .int a2), (3, .int a3)]) hx hb dX1_setCost_42 hl (by decide) rfl (fun ls hl => ?_)
    refine lv_goto (tgt := 61) hx hb dX1_setCost_44 (by decide) ?_
    refine lv_aload_n hx hb dX1_setCost_61 rfl (lv_at hl 1 rfl) ?_
    refine vgS hx hb hts hi1 hown hK hP (o) (s318 hk1.1) hk1.2 (C := RX1) (T := TX1) (N := 9) rfl 6 (by decide) (by decide) (by decide) (by decide) (o + 3) rfl (hts (.fieldLink RX1 34 "CrateHelpers$Problem" "prices" "[[I") (by decide +kernel)) (fun _ h9 => h9) dX1_setCost_62 ?_
    refine lv_iload_n hx hb dX1_setCost_65 rfl (lv_at hl 2 rfl) ?_
    obtain ⟨hk7, h⟩ := gk h
    obtain ⟨hn8, h⟩ := gk h
    refine xgald hx hb hK hP (o + 3) (s318 hk7.1) hk7.2 hn8 (o + 4 + a1.toNatClampNeg) (drf15 (hk7.2)) dX1_setCost_66 ?_
    refine lv_iload_n hx hb dX1_setCost_67 rfl (lv_at hl 3 rfl) ?_
    refine lv_iload hx hb dX1_setCost_68 (lv_at hl 0 rfl) ?_
    obtain ⟨hk9, h⟩ := gk h
    obtain ⟨hn10, h⟩ := gk h
    refine xiast hx hb hK hP hap hS (o + 4 + a1.toNatClampNeg) (s318 hk9.1) hk9.2 hn10 dX1_setCost_70 (fun H locs hP hS => ?_)
    obtain ⟨A11, eA11, h⟩ := bd_e h
    rw [← eA11] at hP
    have hP : va_P D vwCl (VW K ad I2 G A11 L) H := hP
    refine lv_iload hx hb dX1_setCost_71 (lv_at hl 0 rfl) ?_
    exact W.iret (v := a3.toInt8.toInt32) hx hb hr (fun t9 ht9 hW9 => ⟨⟨a3.toInt8.toInt32, (I2, G, A11, L), rfl, by cases h; exact ⟨rfl, rfl⟩, by rw [ht9]; exact hP, va_K.moved hW9.alike hK⟩, hS.F ht9⟩) hS.2.2 dX1_setCost_73
  · have h := iN (by rw [hs6]; decide) h
    have h := ip hs6 h
    refine W_top hs6 ?_
    refine lv_tableIn (off := 34) (tgt := 47) hx hb dX1_setCost_13 (by decide) (by decide) (by decide) (by decide) ?_
    refine lv_iload_n hx hb dX1_setCost_47 rfl (lv_at hl 4 rfl) ?_
    refine lv_i2s hx hb dX1_setCost_48 rfl ?_
    refine lv_istore (lv' := [(4, .int a3.toInt16.toInt32), (0, .ref (ad o)), (1, .int a1), (2, .int a2), (3, .int a3)]) hx hb dX1_setCost_49 hl (by decide) rfl (fun ls hl => ?_)
    refine lv_goto (tgt := 61) hx hb dX1_setCost_51 (by decide) ?_
    refine lv_aload_n hx hb dX1_setCost_61 rfl (lv_at hl 1 rfl) ?_
    refine vgS hx hb hts hi1 hown hK hP (o) (s318 hk1.1) hk1.2 (C := RX1) (T := TX1) (N := 9) rfl 6 (by decide) (by decide) (by decide) (by decide) (o + 3) rfl (hts (.fieldLink RX1 34 "CrateHelpers$Problem" "prices" "[[I") (by decide +kernel)) (fun _ h9 => h9) dX1_setCost_62 ?_
    refine lv_iload_n hx hb dX1_setCost_65 rfl (lv_at hl 2 rfl) ?_
    obtain ⟨hk12, h⟩ := gk h
    obtain ⟨hn13, h⟩ := gk h
    refine xgald hx hb hK hP (o + 3) (s318 hk12.1) hk12.2 hn13 (o + 4 + a1.toNatClampNeg) (drf15 (hk12.2)) dX1_setCost_66 ?_
    refine lv_iload_n hx hb dX1_setCost_67 rfl (lv_at hl 3 rfl) ?_
    refine lv_iload hx hb dX1_setCost_68 (lv_at hl 0 rfl) ?_
    obtain ⟨hk14, h⟩ := gk h
    obtain ⟨hn15, h⟩ := gk h
    refine xiast hx hb hK hP hap hS (o + 4 + a1.toNatClampNeg) (s318 hk14.1) hk14.2 hn15 dX1_setCost_70 (fun H locs hP hS => ?_)
    obtain ⟨A16, eA16, h⟩ := bd_e h
    rw [← eA16] at hP
    have hP : va_P D vwCl (VW K ad I2 G A16 L) H := hP
    refine lv_iload hx hb dX1_setCost_71 (lv_at hl 0 rfl) ?_
    exact W.iret (v := a3.toInt16.toInt32) hx hb hr (fun t9 ht9 hW9 => ⟨⟨a3.toInt16.toInt32, (I2, G, A16, L), rfl, by cases h; exact ⟨rfl, rfl⟩, by rw [ht9]; exact hP, va_K.moved hW9.alike hK⟩, hS.F ht9⟩) hS.2.2 dX1_setCost_73
  · have h := iN (by rw [hs6]; decide) h
    have h := iN (by rw [hs6]; decide) h
    have h := ip hs6 h
    refine W_top hs6 ?_
    refine lv_tableIn (off := 41) (tgt := 54) hx hb dX1_setCost_13 (by decide) (by decide) (by decide) (by decide) ?_
    refine lv_iload_n hx hb dX1_setCost_54 rfl (lv_at hl 4 rfl) ?_
    refine lv_i2c hx hb dX1_setCost_55 rfl ?_
    refine lv_istore (lv' := [(4, .int ((a3.toUInt32 % 65536).toInt32)), (0, .ref (ad o)), (1, .int a1), (2, .int a2), (3, .int a3)]) hx hb dX1_setCost_56 hl (by decide) rfl (fun ls hl => ?_)
    refine lv_goto (tgt := 61) hx hb dX1_setCost_58 (by decide) ?_
    refine lv_aload_n hx hb dX1_setCost_61 rfl (lv_at hl 1 rfl) ?_
    refine vgS hx hb hts hi1 hown hK hP (o) (s318 hk1.1) hk1.2 (C := RX1) (T := TX1) (N := 9) rfl 6 (by decide) (by decide) (by decide) (by decide) (o + 3) rfl (hts (.fieldLink RX1 34 "CrateHelpers$Problem" "prices" "[[I") (by decide +kernel)) (fun _ h9 => h9) dX1_setCost_62 ?_
    refine lv_iload_n hx hb dX1_setCost_65 rfl (lv_at hl 2 rfl) ?_
    obtain ⟨hk17, h⟩ := gk h
    obtain ⟨hn18, h⟩ := gk h
    refine xgald hx hb hK hP (o + 3) (s318 hk17.1) hk17.2 hn18 (o + 4 + a1.toNatClampNeg) (drf15 (hk17.2)) dX1_setCost_66 ?_
    refine lv_iload_n hx hb dX1_setCost_67 rfl (lv_at hl 3 rfl) ?_
    refine lv_iload hx hb dX1_setCost_68 (lv_at hl 0 rfl) ?_
    obtain ⟨hk19, h⟩ := gk h
    obtain ⟨hn20, h⟩ := gk h
    refine xiast hx hb hK hP hap hS (o + 4 + a1.toNatClampNeg) (s318 hk19.1) hk19.2 hn20 dX1_setCost_70 (fun H locs hP hS => ?_)
    obtain ⟨A21, eA21, h⟩ := bd_e h
    rw [← eA21] at hP
    have hP : va_P D vwCl (VW K ad I2 G A21 L) H := hP
    refine lv_iload hx hb dX1_setCost_71 (lv_at hl 0 rfl) ?_
    exact W.iret (v := ((a3.toUInt32 % 65536).toInt32)) hx hb hr (fun t9 ht9 hW9 => ⟨⟨((a3.toUInt32 % 65536).toInt32), (I2, G, A21, L), rfl, by cases h; exact ⟨rfl, rfl⟩, by rw [ht9]; exact hP, va_K.moved hW9.alike hK⟩, hS.F ht9⟩) hS.2.2 dX1_setCost_73
  · have h := iN (fun q => by rw [q] at hs6; exact absurd hs6 (by decide)) h
    have h := iN (fun q => by rw [q] at hs6; exact absurd hs6 (by decide)) h
    have h := iN (fun q => by rw [q] at hs6; exact absurd hs6 (by decide)) h
    refine lv_tableOut (tgt := 61) hx hb dX1_setCost_13 hs6 (by decide) ?_
    refine lv_aload_n hx hb dX1_setCost_61 rfl (lv_at hl 1 rfl) ?_
    refine vgS hx hb hts hi1 hown hK hP (o) (s318 hk1.1) hk1.2 (C := RX1) (T := TX1) (N := 9) rfl 6 (by decide) (by decide) (by decide) (by decide) (o + 3) rfl (hts (.fieldLink RX1 34 "CrateHelpers$Problem" "prices" "[[I") (by decide +kernel)) (fun _ h9 => h9) dX1_setCost_62 ?_
    refine lv_iload_n hx hb dX1_setCost_65 rfl (lv_at hl 2 rfl) ?_
    obtain ⟨hk22, h⟩ := gk h
    obtain ⟨hn23, h⟩ := gk h
    refine xgald hx hb hK hP (o + 3) (s318 hk22.1) hk22.2 hn23 (o + 4 + a1.toNatClampNeg) (drf15 (hk22.2)) dX1_setCost_66 ?_
    refine lv_iload_n hx hb dX1_setCost_67 rfl (lv_at hl 3 rfl) ?_
    refine lv_iload hx hb dX1_setCost_68 (lv_at hl 0 rfl) ?_
    obtain ⟨hk24, h⟩ := gk h
    obtain ⟨hn25, h⟩ := gk h
    refine xiast hx hb hK hP hap hS (o + 4 + a1.toNatClampNeg) (s318 hk24.1) hk24.2 hn25 dX1_setCost_70 (fun H locs hP hS => ?_)
    obtain ⟨A26, eA26, h⟩ := bd_e h
    rw [← eA26] at hP
    have hP : va_P D vwCl (VW K ad I2 G A26 L) H := hP
    refine lv_iload hx hb dX1_setCost_71 (lv_at hl 0 rfl) ?_
    exact W.iret (v := a3) hx hb hr (fun t9 ht9 hW9 => ⟨⟨a3, (I2, G, A26, L), rfl, by cases h; exact ⟨rfl, rfl⟩, by rw [ht9]; exact hP, va_K.moved hW9.alike hK⟩, hS.F ht9⟩) hS.2.2 dX1_setCost_73
set_option maxHeartbeats 4000000 in
set_option maxRecDepth 100000 in
theorem e_X6_cost (l : Launch) (D : va_G) (K : Nat → ClassId) (ad : Nat → Nat) (hap0 : apart ad (fun _ => True)) (a1 : Int32) (a2 : Int32) (a3 : Int32) (a4 : Int32) (I : Nat → Nat → Int32) (G : Nat → Nat → Nat) (A : Nat → Nat → Int32) (L : Nat → Nat → Int64) (r0 : Int32) (I0 : Nat → Nat → Int32) (A0 : Nat → Nat → Int32) (h : f_X6_cost I A a1 a2 a3 a4 = some (r0, I0, A0)) : Ci l D K ad yX6_cost wsX6_cost 2 50 [.ref (ad 0), .int a1, .int a2, .int a3, .int a4] (I, G, A, L) (fun (r : Int32) (u : Mem) => r = r0 ∧ u = (I0, G, A0, L)) := by
  intro sz
  refine Met.ofW (cc := cX6_cost) (maxL := 5) (ret := (some .int)) (by decide) rfl ?_
  intro p e s m args below meth c s₁ Bd hml hv0
  obtain ⟨rfl, hsz, hP, hK⟩ := hv0
  have hx := Bd.exec
  have hb := Bd.bytes
  have hr := Bd.returns
  have hts := atoms_spec (ws := wsX6_cost) Bd.pre
  have hown : s.vm.findClass RX6 = some m.cls := findClass_of_methodNamed Bd.named
  have hlocks := Bd.notSynchronized
  have hi6 : ∀ w ∈ u_ws RX6 TX6 18, w ∈ wsX6_cost := fun w h => List.mem_cons_of_mem _ (List.mem_append_left _ (List.mem_append_right _ h))
  have hi1 : ∀ w ∈ u_ws RX1 TX1 9, w ∈ wsX6_cost := fun w h => List.mem_cons_of_mem _ (List.mem_append_right _ h)
  subst hsz
  have hap := vF_ap hap0 s.heap.size
  have hS : va_S (vF ad s.heap.size) s.heap s.heap [] := va_S.rf
  have hP : va_P D vwCl (VW K ad I G A L) s.heap := hP
  have hl := lv_entry ([.ref (ad 0), .int a1, .int a2, .int a3, .int a4]) (n := 5) (Nat.le_of_ble_eq_true rfl)
  rw [lg_entry_eq]
  generalize (lg_sl ([.ref (ad 0), .int a1, .int a2, .int a3, .int a4]) ++ List.replicate (5 - (lg_sl ([.ref (ad 0), .int a1, .int a2, .int a3, .int a4])).length) Slot.unset).toArray = ls at hl ⊢
  have hl : lv_has ls 5 [(0, .ref (ad 0)), (1, .int a1), (2, .int a2), (3, .int a3), (4, .int a4)] := hl
  rw [f_X6_cost] at h
  refine lv_aload_n hx hb dX6_cost_0 rfl (lv_at hl 0 rfl) ?_
  refine lv_iload_n hx hb dX6_cost_1 rfl (lv_at hl 1 rfl) ?_
  obtain ⟨r1, hc2, h⟩ := Option.bind_eq_some_iff.mp h
  refine ecV (As := [.int a1]) (rest := []) ⟨hx, hb, hml, hown, hts⟩ (e_X6_isProblem l D K ad hap0 a1 I G A L r1 hc2) (cwV 1 hts gX6_cost_X6_isProblem rfl rfl rfl (by decide +kernel) ⟨Nat.le_of_ble_eq_true rfl, Nat.le_of_ble_eq_true rfl⟩) hK hP hS (by decide) (show kd 0 = 6 by decide) (by decide) rfl rfl rfl hl.1 (Nat.le_of_ble_eq_true rfl) (Nat.le_of_ble_eq_true rfl) (Nat.le_of_ble_eq_true rfl) dX6_cost_2 (fun H locs hP hS => ?_) rfl
  have hP : va_P D vwCl (VW K ad I G A L) H := hP
  refine lv_if_eq (tgt := 34) hx hb dX6_cost_5 (by decide) (fun c_3 => ?_) (fun c_3 => ?_)
  · have h := ip c_3 h
    refine lv_aload_n hx hb dX6_cost_34 rfl (lv_at hl 0 rfl) ?_
    refine lv_iconst (v := (-1)) hx hb dX6_cost_35 (by decide) ?_
    obtain ⟨⟨r4, I5⟩, hc6, h⟩ := Option.bind_eq_some_iff.mp h
    refine ecV (As := [.int (-1)]) (rest := []) ⟨hx, hb, hml, hown, hts⟩ (e_X6_refuse l D K ad hap0 (-1) I G A L r4 I5 hc6) (cwV 1 hts gX6_cost_X6_refuse rfl rfl rfl (by decide +kernel) ⟨Nat.le_of_ble_eq_true rfl, Nat.le_of_ble_eq_true rfl⟩) hK hP hS (by decide) (show kd 0 = 6 by decide) (by decide) rfl rfl rfl hl.1 (Nat.le_of_ble_eq_true rfl) (Nat.le_of_ble_eq_true rfl) (Nat.le_of_ble_eq_true rfl) dX6_cost_36 (fun H locs hP hS => ?_) rfl
    have hP : va_P D vwCl (VW K ad I5 G A L) H := hP
    exact W.iret (v := r4) hx hb hr (fun t9 ht9 hW9 => ⟨⟨r4, (I5, G, A, L), rfl, by cases h; exact ⟨rfl, rfl⟩, by rw [ht9]; exact hP, va_K.moved hW9.alike hK⟩, hS.F ht9⟩) hS.2.2 dX6_cost_39
  · have h := iN c_3 h
    refine lv_aload_n hx hb dX6_cost_8 rfl (lv_at hl 0 rfl) ?_
    refine vgC hx hb hts hi6 hown hK hP (0) (by decide) (show kd 0 = 6 by decide) (C := RX6) (T := TX6) (N := 18) rfl 0 (by decide) (by decide) (by decide) (by decide) (1) rfl (hts (.fieldLink RX6 11 "CrateHelpers" "problems" "[LCrateHelpers$Problem;") (by decide +kernel)) (fun _ h9 => h9) dX6_cost_9 ?_
    refine lv_iload_n hx hb dX6_cost_12 rfl (lv_at hl 1 rfl) ?_
    obtain ⟨hn7, h⟩ := gk h
    refine xaald hx hb hK hP (1) (by decide) 5 13 (show kd 1 = 13 by decide) (by decide) rfl (by rw [show ln 1 = 5 by decide]; exact hn7) (58 + 52 * a1.toNatClampNeg) (drf13 ((show kd 1 = 13 by decide))) dX6_cost_13 ?_
    refine lv_iload_n hx hb dX6_cost_14 rfl (lv_at hl 2 rfl) ?_
    refine lv_iload_n hx hb dX6_cost_15 rfl (lv_at hl 3 rfl) ?_
    obtain ⟨hk8, h⟩ := gk h
    obtain ⟨r9, hc10, h⟩ := Option.bind_eq_some_iff.mp h
    refine ecV (As := [.int a2, .int a3]) (rest := []) ⟨hx, hb, hml, hown, hts⟩ (e_X1_hasValue l D K ad hap0 (58 + 52 * a1.toNatClampNeg) a2 a3 I G A L r9 hc10) (cwV 2 hts gX6_cost_X1_hasValue rfl rfl rfl (by decide +kernel) ⟨Nat.le_of_ble_eq_true rfl, Nat.le_of_ble_eq_true rfl⟩) hK hP hS (s318 hk8.1) hk8.2 (by decide) rfl rfl rfl hl.1 (Nat.le_of_ble_eq_true rfl) (Nat.le_of_ble_eq_true rfl) (Nat.le_of_ble_eq_true rfl) dX6_cost_16 (fun H locs hP hS => ?_) rfl
    have hP : va_P D vwCl (VW K ad I G A L) H := hP
    refine lv_if_eq (tgt := 34) hx hb dX6_cost_19 (by decide) (fun c_11 => ?_) (fun c_11 => ?_)
    · have h := ip c_11 h
      refine lv_aload_n hx hb dX6_cost_34 rfl (lv_at hl 0 rfl) ?_
      refine lv_iconst (v := (-1)) hx hb dX6_cost_35 (by decide) ?_
      obtain ⟨⟨r12, I13⟩, hc14, h⟩ := Option.bind_eq_some_iff.mp h
      refine ecV (As := [.int (-1)]) (rest := []) ⟨hx, hb, hml, hown, hts⟩ (e_X6_refuse l D K ad hap0 (-1) I G A L r12 I13 hc14) (cwV 1 hts gX6_cost_X6_refuse rfl rfl rfl (by decide +kernel) ⟨Nat.le_of_ble_eq_true rfl, Nat.le_of_ble_eq_true rfl⟩) hK hP hS (by decide) (show kd 0 = 6 by decide) (by decide) rfl rfl rfl hl.1 (Nat.le_of_ble_eq_true rfl) (Nat.le_of_ble_eq_true rfl) (Nat.le_of_ble_eq_true rfl) dX6_cost_36 (fun H locs hP hS => ?_) rfl
      have hP : va_P D vwCl (VW K ad I13 G A L) H := hP
      exact W.iret (v := r12) hx hb hr (fun t9 ht9 hW9 => ⟨⟨r12, (I13, G, A, L), rfl, by cases h; exact ⟨rfl, rfl⟩, by rw [ht9]; exact hP, va_K.moved hW9.alike hK⟩, hS.F ht9⟩) hS.2.2 dX6_cost_39
    · have h := iN c_11 h
      refine lv_iload hx hb dX6_cost_22 (lv_at hl 4 rfl) ?_
      refine lv_ldc (v := (-100000)) hx hb hown (hts (.constant RX6 114 (-100000)) (by decide +kernel)) dX6_cost_24 ?_
      refine lv_ldc (v := 100000) hx hb hown (hts (.constant RX6 115 100000) (by decide +kernel)) dX6_cost_26 ?_
      obtain ⟨r15, hc16, h⟩ := Option.bind_eq_some_iff.mp h
      refine ecS (As := [.int a4, .int (-100000), .int 100000]) (rest := []) ⟨hx, hb, hml, hown, hts⟩ (e_X6_isWithin l D K ad hap0 a4 (-100000) 100000 I G A L r15 hc16) (va_cwS 3 hts gX6_cost_X6_isWithin rfl rfl rfl (by decide +kernel) ⟨Nat.le_of_ble_eq_true rfl, Nat.le_of_ble_eq_true rfl⟩) hK hP hS rfl hl.1 (Nat.le_of_ble_eq_true rfl) (Nat.le_of_ble_eq_true rfl) (Nat.le_of_ble_eq_true rfl) dX6_cost_28 (fun H locs hP hS => ?_) rfl
      have hP : va_P D vwCl (VW K ad I G A L) H := hP
      refine lv_if_ne (tgt := 40) hx hb dX6_cost_31 (by decide) (fun c_17 => ?_) (fun c_17 => ?_)
      · have h := iN c_17 h
        refine lv_aload_n hx hb dX6_cost_40 rfl (lv_at hl 0 rfl) ?_
        refine vgI hx hb hts hi6 hown hK hP (0) (by decide) (show kd 0 = 6 by decide) (C := RX6) (T := TX6) (N := 18) rfl 5 (by decide) (by decide) (by decide) (by decide) (hts (.fieldLink RX6 29 "CrateHelpers" "underWay" "I") (by decide +kernel)) (fun _ h9 => h9) dX6_cost_41 ?_
        refine lv_bipush (v := (-9)) hx hb dX6_cost_44 (by decide) ?_
        refine lv_icmp_eq (tgt := 56) hx hb dX6_cost_46 (by decide) (fun c_18 => ?_) (fun c_18 => ?_)
        · have h := ip c_18 h
          refine lv_aload_n hx hb dX6_cost_56 rfl (lv_at hl 0 rfl) ?_
          refine lv_aload_n hx hb dX6_cost_57 rfl (lv_at hl 0 rfl) ?_
          refine vgC hx hb hts hi6 hown hK hP (0) (by decide) (show kd 0 = 6 by decide) (C := RX6) (T := TX6) (N := 18) rfl 0 (by decide) (by decide) (by decide) (by decide) (1) rfl (hts (.fieldLink RX6 11 "CrateHelpers" "problems" "[LCrateHelpers$Problem;") (by decide +kernel)) (fun _ h9 => h9) dX6_cost_58 ?_
          refine lv_iload_n hx hb dX6_cost_61 rfl (lv_at hl 1 rfl) ?_
          refine xaald hx hb hK hP (1) (by decide) 5 13 (show kd 1 = 13 by decide) (by decide) rfl (by rw [show ln 1 = 5 by decide]; exact hn7) (58 + 52 * a1.toNatClampNeg) (drf13 ((show kd 1 = 13 by decide))) dX6_cost_62 ?_
          refine lv_iload_n hx hb dX6_cost_63 rfl (lv_at hl 2 rfl) ?_
          refine lv_iload_n hx hb dX6_cost_64 rfl (lv_at hl 3 rfl) ?_
          refine lv_iload hx hb dX6_cost_65 (lv_at hl 4 rfl) ?_
          obtain ⟨⟨r19, I20, A21⟩, hc22, h⟩ := Option.bind_eq_some_iff.mp h
          refine ecV (As := [.int a2, .int a3, .int a4]) (rest := [.ref (ad 0)]) ⟨hx, hb, hml, hown, hts⟩ (e_X1_setCost l D K ad hap0 (58 + 52 * a1.toNatClampNeg) a2 a3 a4 I G A L r19 I20 A21 hc22) (cwV 3 hts gX6_cost_X1_setCost rfl rfl rfl (by decide +kernel) ⟨Nat.le_of_ble_eq_true rfl, Nat.le_of_ble_eq_true rfl⟩) hK hP hS (s318 hk8.1) hk8.2 (by decide) rfl rfl rfl hl.1 (Nat.le_of_ble_eq_true rfl) (Nat.le_of_ble_eq_true rfl) (Nat.le_of_ble_eq_true rfl) dX6_cost_67 (fun H locs hP hS => ?_) rfl
          have hP : va_P D vwCl (VW K ad I20 G A21 L) H := hP
          obtain ⟨⟨r23, I24⟩, hc25, h⟩ := Option.bind_eq_some_iff.mp h
          refine ecV (As := [.int r19]) (rest := []) ⟨hx, hb, hml, hown, hts⟩ (e_X6_grant l D K ad hap0 r19 I20 G A21 L r23 I24 hc25) (cwV 1 hts gX6_cost_X6_grant rfl rfl rfl (by decide +kernel) ⟨Nat.le_of_ble_eq_true rfl, Nat.le_of_ble_eq_true rfl⟩) hK hP hS (by decide) (show kd 0 = 6 by decide) (by decide) rfl rfl rfl hl.1 (Nat.le_of_ble_eq_true rfl) (Nat.le_of_ble_eq_true rfl) (Nat.le_of_ble_eq_true rfl) dX6_cost_70 (fun H locs hP hS => ?_) rfl
          have hP : va_P D vwCl (VW K ad I24 G A21 L) H := hP
          exact W.iret (v := r23) hx hb hr (fun t9 ht9 hW9 => ⟨⟨r23, (I24, G, A21, L), rfl, by cases h; exact ⟨rfl, rfl⟩, by rw [ht9]; exact hP, va_K.moved hW9.alike hK⟩, hS.F ht9⟩) hS.2.2 dX6_cost_73
        · have h := iN c_18 h
          refine lv_aload_n hx hb dX6_cost_49 rfl (lv_at hl 0 rfl) ?_
          refine lv_bipush (v := (-2)) hx hb dX6_cost_50 (by decide) ?_
          obtain ⟨⟨r26, I27⟩, hc28, h⟩ := Option.bind_eq_some_iff.mp h
          refine ecV (As := [.int (-2)]) (rest := []) ⟨hx, hb, hml, hown, hts⟩ (e_X6_refuse l D K ad hap0 (-2) I G A L r26 I27 hc28) (cwV 1 hts gX6_cost_X6_refuse rfl rfl rfl (by decide +kernel) ⟨Nat.le_of_ble_eq_true rfl, Nat.le_of_ble_eq_true rfl⟩) hK hP hS (by decide) (show kd 0 = 6 by decide) (by decide) rfl rfl rfl hl.1 (Nat.le_of_ble_eq_true rfl) (Nat.le_of_ble_eq_true rfl) (Nat.le_of_ble_eq_true rfl) dX6_cost_52 (fun H locs hP hS => ?_) rfl
          have hP : va_P D vwCl (VW K ad I27 G A L) H := hP
          exact W.iret (v := r26) hx hb hr (fun t9 ht9 hW9 => ⟨⟨r26, (I27, G, A, L), rfl, by cases h; exact ⟨rfl, rfl⟩, by rw [ht9]; exact hP, va_K.moved hW9.alike hK⟩, hS.F ht9⟩) hS.2.2 dX6_cost_55
      · have h := ip c_17 h
        refine lv_aload_n hx hb dX6_cost_34 rfl (lv_at hl 0 rfl) ?_
        refine lv_iconst (v := (-1)) hx hb dX6_cost_35 (by decide) ?_
        obtain ⟨⟨r29, I30⟩, hc31, h⟩ := Option.bind_eq_some_iff.mp h
        refine ecV (As := [.int (-1)]) (rest := []) ⟨hx, hb, hml, hown, hts⟩ (e_X6_refuse l D K ad hap0 (-1) I G A L r29 I30 hc31) (cwV 1 hts gX6_cost_X6_refuse rfl rfl rfl (by decide +kernel) ⟨Nat.le_of_ble_eq_true rfl, Nat.le_of_ble_eq_true rfl⟩) hK hP hS (by decide) (show kd 0 = 6 by decide) (by decide) rfl rfl rfl hl.1 (Nat.le_of_ble_eq_true rfl) (Nat.le_of_ble_eq_true rfl) (Nat.le_of_ble_eq_true rfl) dX6_cost_36 (fun H locs hP hS => ?_) rfl
        have hP : va_P D vwCl (VW K ad I30 G A L) H := hP
        exact W.iret (v := r29) hx hb hr (fun t9 ht9 hW9 => ⟨⟨r29, (I30, G, A, L), rfl, by cases h; exact ⟨rfl, rfl⟩, by rw [ht9]; exact hP, va_K.moved hW9.alike hK⟩, hS.F ht9⟩) hS.2.2 dX6_cost_39
set_option maxHeartbeats 4000000 in
set_option maxRecDepth 100000 in
theorem e_X6_costs (l : Launch) (D : va_G) (K : Nat → ClassId) (ad : Nat → Nat) (hap0 : apart ad (fun _ => True)) (a1 : Int32) (a2 : Int32) (a3 : Int32) (I : Nat → Nat → Int32) (G : Nat → Nat → Nat) (A : Nat → Nat → Int32) (L : Nat → Nat → Int64) (r0 : Int32) (I0 : Nat → Nat → Int32) (h : f_X6_costs I A a1 a2 a3 = some (r0, I0)) : Ci l D K ad yX6_costs wsX6_costs 2 49 [.ref (ad 0), .int a1, .int a2, .int a3] (I, G, A, L) (fun (r : Int32) (u : Mem) => r = r0 ∧ u = (I0, G, A, L)) := by
  intro sz
  refine Met.ofW (cc := cX6_costs) (maxL := 4) (ret := (some .int)) (by decide) rfl ?_
  intro p e s m args below meth c s₁ Bd hml hv0
  obtain ⟨rfl, hsz, hP, hK⟩ := hv0
  have hx := Bd.exec
  have hb := Bd.bytes
  have hr := Bd.returns
  have hts := atoms_spec (ws := wsX6_costs) Bd.pre
  have hown : s.vm.findClass RX6 = some m.cls := findClass_of_methodNamed Bd.named
  have hlocks := Bd.notSynchronized
  have hi6 : ∀ w ∈ u_ws RX6 TX6 18, w ∈ wsX6_costs := fun w h => List.mem_cons_of_mem _ (List.mem_append_left _ (List.mem_append_right _ h))
  have hi1 : ∀ w ∈ u_ws RX1 TX1 9, w ∈ wsX6_costs := fun w h => List.mem_cons_of_mem _ (List.mem_append_right _ h)
  subst hsz
  have hap := vF_ap hap0 s.heap.size
  have hS : va_S (vF ad s.heap.size) s.heap s.heap [] := va_S.rf
  have hP : va_P D vwCl (VW K ad I G A L) s.heap := hP
  have hl := lv_entry ([.ref (ad 0), .int a1, .int a2, .int a3]) (n := 4) (Nat.le_of_ble_eq_true rfl)
  rw [lg_entry_eq]
  generalize (lg_sl ([.ref (ad 0), .int a1, .int a2, .int a3]) ++ List.replicate (4 - (lg_sl ([.ref (ad 0), .int a1, .int a2, .int a3])).length) Slot.unset).toArray = ls at hl ⊢
  have hl : lv_has ls 4 [(0, .ref (ad 0)), (1, .int a1), (2, .int a2), (3, .int a3)] := hl
  rw [f_X6_costs] at h
  refine lv_aload_n hx hb dX6_costs_0 rfl (lv_at hl 0 rfl) ?_
  refine lv_iload_n hx hb dX6_costs_1 rfl (lv_at hl 1 rfl) ?_
  obtain ⟨r1, hc2, h⟩ := Option.bind_eq_some_iff.mp h
  refine ecV (As := [.int a1]) (rest := []) ⟨hx, hb, hml, hown, hts⟩ (e_X6_isProblem l D K ad hap0 a1 I G A L r1 hc2) (cwV 1 hts gX6_costs_X6_isProblem rfl rfl rfl (by decide +kernel) ⟨Nat.le_of_ble_eq_true rfl, Nat.le_of_ble_eq_true rfl⟩) hK hP hS (by decide) (show kd 0 = 6 by decide) (by decide) rfl rfl rfl hl.1 (Nat.le_of_ble_eq_true rfl) (Nat.le_of_ble_eq_true rfl) (Nat.le_of_ble_eq_true rfl) dX6_costs_2 (fun H locs hP hS => ?_) rfl
  have hP : va_P D vwCl (VW K ad I G A L) H := hP
  refine lv_if_eq (tgt := 22) hx hb dX6_costs_5 (by decide) (fun c_3 => ?_) (fun c_3 => ?_)
  · have h := ip c_3 h
    refine lv_aload_n hx hb dX6_costs_22 rfl (lv_at hl 0 rfl) ?_
    refine lv_iconst (v := (-1)) hx hb dX6_costs_23 (by decide) ?_
    obtain ⟨⟨r4, I5⟩, hc6, h⟩ := Option.bind_eq_some_iff.mp h
    refine ecV (As := [.int (-1)]) (rest := []) ⟨hx, hb, hml, hown, hts⟩ (e_X6_refuse l D K ad hap0 (-1) I G A L r4 I5 hc6) (cwV 1 hts gX6_costs_X6_refuse rfl rfl rfl (by decide +kernel) ⟨Nat.le_of_ble_eq_true rfl, Nat.le_of_ble_eq_true rfl⟩) hK hP hS (by decide) (show kd 0 = 6 by decide) (by decide) rfl rfl rfl hl.1 (Nat.le_of_ble_eq_true rfl) (Nat.le_of_ble_eq_true rfl) (Nat.le_of_ble_eq_true rfl) dX6_costs_24 (fun H locs hP hS => ?_) rfl
    have hP : va_P D vwCl (VW K ad I5 G A L) H := hP
    exact W.iret (v := r4) hx hb hr (fun t9 ht9 hW9 => ⟨⟨r4, (I5, G, A, L), rfl, by cases h; exact ⟨rfl, rfl⟩, by rw [ht9]; exact hP, va_K.moved hW9.alike hK⟩, hS.F ht9⟩) hS.2.2 dX6_costs_27
  · have h := iN c_3 h
    refine lv_aload_n hx hb dX6_costs_8 rfl (lv_at hl 0 rfl) ?_
    refine vgC hx hb hts hi6 hown hK hP (0) (by decide) (show kd 0 = 6 by decide) (C := RX6) (T := TX6) (N := 18) rfl 0 (by decide) (by decide) (by decide) (by decide) (1) rfl (hts (.fieldLink RX6 11 "CrateHelpers" "problems" "[LCrateHelpers$Problem;") (by decide +kernel)) (fun _ h9 => h9) dX6_costs_9 ?_
    refine lv_iload_n hx hb dX6_costs_12 rfl (lv_at hl 1 rfl) ?_
    obtain ⟨hn7, h⟩ := gk h
    refine xaald hx hb hK hP (1) (by decide) 5 13 (show kd 1 = 13 by decide) (by decide) rfl (by rw [show ln 1 = 5 by decide]; exact hn7) (58 + 52 * a1.toNatClampNeg) (drf13 ((show kd 1 = 13 by decide))) dX6_costs_13 ?_
    refine lv_iload_n hx hb dX6_costs_14 rfl (lv_at hl 2 rfl) ?_
    refine lv_iload_n hx hb dX6_costs_15 rfl (lv_at hl 3 rfl) ?_
    obtain ⟨hk8, h⟩ := gk h
    obtain ⟨r9, hc10, h⟩ := Option.bind_eq_some_iff.mp h
    refine ecV (As := [.int a2, .int a3]) (rest := []) ⟨hx, hb, hml, hown, hts⟩ (e_X1_hasValue l D K ad hap0 (58 + 52 * a1.toNatClampNeg) a2 a3 I G A L r9 hc10) (cwV 2 hts gX6_costs_X1_hasValue rfl rfl rfl (by decide +kernel) ⟨Nat.le_of_ble_eq_true rfl, Nat.le_of_ble_eq_true rfl⟩) hK hP hS (s318 hk8.1) hk8.2 (by decide) rfl rfl rfl hl.1 (Nat.le_of_ble_eq_true rfl) (Nat.le_of_ble_eq_true rfl) (Nat.le_of_ble_eq_true rfl) dX6_costs_16 (fun H locs hP hS => ?_) rfl
    have hP : va_P D vwCl (VW K ad I G A L) H := hP
    refine lv_if_ne (tgt := 28) hx hb dX6_costs_19 (by decide) (fun c_11 => ?_) (fun c_11 => ?_)
    · have h := iN c_11 h
      refine lv_aload_n hx hb dX6_costs_28 rfl (lv_at hl 0 rfl) ?_
      refine lv_aload_n hx hb dX6_costs_29 rfl (lv_at hl 0 rfl) ?_
      refine vgC hx hb hts hi6 hown hK hP (0) (by decide) (show kd 0 = 6 by decide) (C := RX6) (T := TX6) (N := 18) rfl 0 (by decide) (by decide) (by decide) (by decide) (1) rfl (hts (.fieldLink RX6 11 "CrateHelpers" "problems" "[LCrateHelpers$Problem;") (by decide +kernel)) (fun _ h9 => h9) dX6_costs_30 ?_
      refine lv_iload_n hx hb dX6_costs_33 rfl (lv_at hl 1 rfl) ?_
      refine xaald hx hb hK hP (1) (by decide) 5 13 (show kd 1 = 13 by decide) (by decide) rfl (by rw [show ln 1 = 5 by decide]; exact hn7) (58 + 52 * a1.toNatClampNeg) (drf13 ((show kd 1 = 13 by decide))) dX6_costs_34 ?_
      refine vgS hx hb hts hi1 hown hK hP (58 + 52 * a1.toNatClampNeg) (s318 hk8.1) hk8.2 (C := RX1) (T := TX1) (N := 9) rfl 6 (by decide) (by decide) (by decide) (by decide) (58 + 52 * a1.toNatClampNeg + 3) rfl (hts (.fieldLink RX6 308 "CrateHelpers$Problem" "prices" "[[I") (by decide +kernel)) (fun _ h9 => h9) dX6_costs_35 ?_
      refine lv_iload_n hx hb dX6_costs_38 rfl (lv_at hl 2 rfl) ?_
      obtain ⟨hk12, h⟩ := gk h
      obtain ⟨hn13, h⟩ := gk h
      refine xgald hx hb hK hP (58 + 52 * a1.toNatClampNeg + 3) (s318 hk12.1) hk12.2 hn13 (58 + 52 * a1.toNatClampNeg + 4 + a2.toNatClampNeg) (drf15 (hk12.2)) dX6_costs_39 ?_
      refine lv_iload_n hx hb dX6_costs_40 rfl (lv_at hl 3 rfl) ?_
      obtain ⟨hk14, h⟩ := gk h
      obtain ⟨hn15, h⟩ := gk h
      refine xiald hx hb hK hP (58 + 52 * a1.toNatClampNeg + 4 + a2.toNatClampNeg) (s318 hk14.1) hk14.2 hn15 dX6_costs_41 ?_
      obtain ⟨⟨r16, I17⟩, hc18, h⟩ := Option.bind_eq_some_iff.mp h
      refine ecV (As := [.int (A (58 + 52 * a1.toNatClampNeg + 4 + a2.toNatClampNeg) a3.toNatClampNeg)]) (rest := []) ⟨hx, hb, hml, hown, hts⟩ (e_X6_grant l D K ad hap0 (A (58 + 52 * a1.toNatClampNeg + 4 + a2.toNatClampNeg) a3.toNatClampNeg) I G A L r16 I17 hc18) (cwV 1 hts gX6_costs_X6_grant rfl rfl rfl (by decide +kernel) ⟨Nat.le_of_ble_eq_true rfl, Nat.le_of_ble_eq_true rfl⟩) hK hP hS (by decide) (show kd 0 = 6 by decide) (by decide) rfl rfl rfl hl.1 (Nat.le_of_ble_eq_true rfl) (Nat.le_of_ble_eq_true rfl) (Nat.le_of_ble_eq_true rfl) dX6_costs_42 (fun H locs hP hS => ?_) rfl
      have hP : va_P D vwCl (VW K ad I17 G A L) H := hP
      exact W.iret (v := r16) hx hb hr (fun t9 ht9 hW9 => ⟨⟨r16, (I17, G, A, L), rfl, by cases h; exact ⟨rfl, rfl⟩, by rw [ht9]; exact hP, va_K.moved hW9.alike hK⟩, hS.F ht9⟩) hS.2.2 dX6_costs_45
    · have h := ip c_11 h
      refine lv_aload_n hx hb dX6_costs_22 rfl (lv_at hl 0 rfl) ?_
      refine lv_iconst (v := (-1)) hx hb dX6_costs_23 (by decide) ?_
      obtain ⟨⟨r19, I20⟩, hc21, h⟩ := Option.bind_eq_some_iff.mp h
      refine ecV (As := [.int (-1)]) (rest := []) ⟨hx, hb, hml, hown, hts⟩ (e_X6_refuse l D K ad hap0 (-1) I G A L r19 I20 hc21) (cwV 1 hts gX6_costs_X6_refuse rfl rfl rfl (by decide +kernel) ⟨Nat.le_of_ble_eq_true rfl, Nat.le_of_ble_eq_true rfl⟩) hK hP hS (by decide) (show kd 0 = 6 by decide) (by decide) rfl rfl rfl hl.1 (Nat.le_of_ble_eq_true rfl) (Nat.le_of_ble_eq_true rfl) (Nat.le_of_ble_eq_true rfl) dX6_costs_24 (fun H locs hP hS => ?_) rfl
      have hP : va_P D vwCl (VW K ad I20 G A L) H := hP
      exact W.iret (v := r19) hx hb hr (fun t9 ht9 hW9 => ⟨⟨r19, (I20, G, A, L), rfl, by cases h; exact ⟨rfl, rfl⟩, by rw [ht9]; exact hP, va_K.moved hW9.alike hK⟩, hS.F ht9⟩) hS.2.2 dX6_costs_27
set_option maxHeartbeats 4000000 in
set_option maxRecDepth 100000 in
theorem e_X6_count (l : Launch) (D : va_G) (K : Nat → ClassId) (ad : Nat → Nat) (hap0 : apart ad (fun _ => True)) (a1 : Int32) (I : Nat → Nat → Int32) (G : Nat → Nat → Nat) (A : Nat → Nat → Int32) (L : Nat → Nat → Int64) (r0 : Int32) (h : f_X6_count I G a1 = some r0) : Ci l D K ad yX6_count wsX6_count 0 0 [.ref (ad 0), .int a1] (I, G, A, L) (fun (r : Int32) (u : Mem) => r = r0 ∧ u = (I, G, A, L)) := by
  intro sz
  refine Met.ofW (cc := cX6_count) (maxL := 3) (ret := (some .int)) (by decide) rfl ?_
  intro p e s m args below meth c s₁ Bd hml hv0
  obtain ⟨rfl, hsz, hP, hK⟩ := hv0
  have hx := Bd.exec
  have hb := Bd.bytes
  have hr := Bd.returns
  have hts := atoms_spec (ws := wsX6_count) Bd.pre
  have hown : s.vm.findClass RX6 = some m.cls := findClass_of_methodNamed Bd.named
  have hlocks := Bd.notSynchronized
  have hi6 : ∀ w ∈ u_ws RX6 TX6 18, w ∈ wsX6_count := fun w h => List.mem_cons_of_mem _ (List.mem_append_left _ (List.mem_append_left _ (List.mem_append_left _ (List.mem_append_right _ h))))
  have hi4 : ∀ w ∈ u_ws RX4 TX4 7, w ∈ wsX6_count := fun w h => List.mem_cons_of_mem _ (List.mem_append_left _ (List.mem_append_left _ (List.mem_append_right _ h)))
  have hi3 : ∀ w ∈ u_ws RX3 TX3 6, w ∈ wsX6_count := fun w h => List.mem_cons_of_mem _ (List.mem_append_left _ (List.mem_append_right _ h))
  have hi5 : ∀ w ∈ u_ws RX5 TX5 16, w ∈ wsX6_count := fun w h => List.mem_cons_of_mem _ (List.mem_append_right _ h)
  subst hsz
  have hap := vF_ap hap0 s.heap.size
  have hS : va_S (vF ad s.heap.size) s.heap s.heap [] := va_S.rf
  have hP : va_P D vwCl (VW K ad I G A L) s.heap := hP
  have hl := lv_entry ([.ref (ad 0), .int a1]) (n := 3) (Nat.le_of_ble_eq_true rfl)
  rw [lg_entry_eq]
  generalize (lg_sl ([.ref (ad 0), .int a1]) ++ List.replicate (3 - (lg_sl ([.ref (ad 0), .int a1])).length) Slot.unset).toArray = ls at hl ⊢
  have hl : lv_has ls 3 [(0, .ref (ad 0)), (1, .int a1)] := hl
  rw [f_X6_count] at h
  refine lv_aload_n hx hb dX6_count_0 rfl (lv_at hl 0 rfl) ?_
  refine vgI hx hb hts hi6 hown hK hP (0) (by decide) (show kd 0 = 6 by decide) (C := RX6) (T := TX6) (N := 18) rfl 5 (by decide) (by decide) (by decide) (by decide) (hts (.fieldLink RX6 29 "CrateHelpers" "underWay" "I") (by decide +kernel)) (fun _ h9 => h9) dX6_count_1 ?_
  refine lv_bipush (v := (-9)) hx hb dX6_count_4 (by decide) ?_
  obtain ⟨j2, ej2, h⟩ := bd_e h
  have kj2 : ∀ (z1 : Int32), j2 z1 = some r0 → ∀ (H : Heap) (locs : List Loc), va_P D vwCl (VW K ad I G A L) H → va_S (vF ad s.heap.size) s.heap H locs → ∀ (ls : Array Slot), lv_has ls 3 [(0, .ref (ad 0)), (1, .int a1)] → W p l e ({ frames := 0, cells := 0, slots := 0, locals := 0 }) s m ([.ref (ad 0), .int a1] : List Value).toArray below meth c H locs 0 0 (MQ below (va_Qi (fun (r : Int32) (u : Mem) => r = r0 ∧ u = (I, G, A, L)) (vB D K ad) (vF ad s.heap.size)) ([.ref (ad 0), .int a1] : List Value).toArray s 0 0 (vF ad s.heap.size)) (F0 m 14 ls [.int z1]) := by
    intro z1 h H locs hP hS ls hl
    subst ej2
    refine lv_istore_n (lv' := [(2, .int z1), (0, .ref (ad 0)), (1, .int a1)]) hx hb dX6_count_14 rfl hl (by decide) rfl (fun ls hl => ?_)
    refine lv_iload_n hx hb dX6_count_15 rfl (lv_at hl 2 rfl) ?_
    rcases sw_7 a1 with hs3 | hs3 | hs3 | hs3 | hs3 | hs3 | hs3 | hs3 | hs3
    · have h := ip hs3 h
      refine W_top hs3 ?_
      refine lv_tableIn (off := 48) (tgt := 64) hx hb dX6_count_16 (by decide) (by decide) (by decide) (by decide) ?_
      refine lv_aload_n hx hb dX6_count_64 rfl (lv_at hl 1 rfl) ?_
      refine vgI hx hb hts hi6 hown hK hP (0) (by decide) (show kd 0 = 6 by decide) (C := RX6) (T := TX6) (N := 18) rfl 1 (by decide) (by decide) (by decide) (by decide) (hts (.fieldLink RX6 15 "CrateHelpers" "problemCount" "I") (by decide +kernel)) (fun _ h9 => h9) dX6_count_65 ?_
      exact W.iret (v := (I 0 1)) hx hb hr (fun t9 ht9 hW9 => ⟨⟨(I 0 1), (I, G, A, L), rfl, by cases h; exact ⟨rfl, rfl⟩, by rw [ht9]; exact hP, va_K.moved hW9.alike hK⟩, hS.F ht9⟩) hS.2.2 dX6_count_68
    · have h := iN (by rw [hs3]; decide) h
      have h := ip hs3 h
      refine W_top hs3 ?_
      refine lv_tableIn (off := 53) (tgt := 69) hx hb dX6_count_16 (by decide) (by decide) (by decide) (by decide) ?_
      refine lv_aload_n hx hb dX6_count_69 rfl (lv_at hl 1 rfl) ?_
      refine vgI hx hb hts hi6 hown hK hP (0) (by decide) (show kd 0 = 6 by decide) (C := RX6) (T := TX6) (N := 18) rfl 3 (by decide) (by decide) (by decide) (by decide) (hts (.fieldLink RX6 26 "CrateHelpers" "nodeLimit" "I") (by decide +kernel)) (fun _ h9 => h9) dX6_count_70 ?_
      exact W.iret (v := (I 0 3)) hx hb hr (fun t9 ht9 hW9 => ⟨⟨(I 0 3), (I, G, A, L), rfl, by cases h; exact ⟨rfl, rfl⟩, by rw [ht9]; exact hP, va_K.moved hW9.alike hK⟩, hS.F ht9⟩) hS.2.2 dX6_count_73
    · have h := iN (by rw [hs3]; decide) h
      have h := iN (by rw [hs3]; decide) h
      have h := ip hs3 h
      refine W_top hs3 ?_
      refine lv_tableIn (off := 58) (tgt := 74) hx hb dX6_count_16 (by decide) (by decide) (by decide) (by decide) ?_
      refine lv_aload_n hx hb dX6_count_74 rfl (lv_at hl 1 rfl) ?_
      refine vgC hx hb hts hi6 hown hK hP (0) (by decide) (show kd 0 = 6 by decide) (C := RX6) (T := TX6) (N := 18) rfl 2 (by decide) (by decide) (by decide) (by decide) (2) rfl (hts (.fieldLink RX6 22 "CrateHelpers" "team" "LCrateHelpers$Team;") (by decide +kernel)) (fun _ h9 => h9) dX6_count_75 ?_
      refine vgI hx hb hts hi4 hown hK hP (2) (by decide) (show kd 2 = 4 by decide) (C := RX4) (T := TX4) (N := 7) rfl 0 (by decide) (by decide) (by decide) (by decide) (hts (.fieldLink RX6 158 "CrateHelpers$Team" "size" "I") (by decide +kernel)) (fun _ h9 => h9) dX6_count_78 ?_
      exact W.iret (v := (I 2 0)) hx hb hr (fun t9 ht9 hW9 => ⟨⟨(I 2 0), (I, G, A, L), rfl, by cases h; exact ⟨rfl, rfl⟩, by rw [ht9]; exact hP, va_K.moved hW9.alike hK⟩, hS.F ht9⟩) hS.2.2 dX6_count_81
    · have h := iN (by rw [hs3]; decide) h
      have h := iN (by rw [hs3]; decide) h
      have h := iN (by rw [hs3]; decide) h
      have h := ip hs3 h
      refine W_top hs3 ?_
      refine lv_tableIn (off := 66) (tgt := 82) hx hb dX6_count_16 (by decide) (by decide) (by decide) (by decide) ?_
      refine lv_aload_n hx hb dX6_count_82 rfl (lv_at hl 1 rfl) ?_
      refine vgC hx hb hts hi6 hown hK hP (0) (by decide) (show kd 0 = 6 by decide) (C := RX6) (T := TX6) (N := 18) rfl 2 (by decide) (by decide) (by decide) (by decide) (2) rfl (hts (.fieldLink RX6 22 "CrateHelpers" "team" "LCrateHelpers$Team;") (by decide +kernel)) (fun _ h9 => h9) dX6_count_83 ?_
      refine vgI hx hb hts hi4 hown hK hP (2) (by decide) (show kd 2 = 4 by decide) (C := RX4) (T := TX4) (N := 7) rfl 1 (by decide) (by decide) (by decide) (by decide) (hts (.fieldLink RX6 168 "CrateHelpers$Team" "scheduled" "I") (by decide +kernel)) (fun _ h9 => h9) dX6_count_86 ?_
      exact W.iret (v := (I 2 1)) hx hb hr (fun t9 ht9 hW9 => ⟨⟨(I 2 1), (I, G, A, L), rfl, by cases h; exact ⟨rfl, rfl⟩, by rw [ht9]; exact hP, va_K.moved hW9.alike hK⟩, hS.F ht9⟩) hS.2.2 dX6_count_89
    · have h := iN (by rw [hs3]; decide) h
      have h := iN (by rw [hs3]; decide) h
      have h := iN (by rw [hs3]; decide) h
      have h := iN (by rw [hs3]; decide) h
      have h := ip hs3 h
      refine W_top hs3 ?_
      refine lv_tableIn (off := 74) (tgt := 90) hx hb dX6_count_16 (by decide) (by decide) (by decide) (by decide) ?_
      refine lv_aload_n hx hb dX6_count_90 rfl (lv_at hl 1 rfl) ?_
      refine vgI hx hb hts hi6 hown hK hP (0) (by decide) (show kd 0 = 6 by decide) (C := RX6) (T := TX6) (N := 18) rfl 5 (by decide) (by decide) (by decide) (by decide) (hts (.fieldLink RX6 29 "CrateHelpers" "underWay" "I") (by decide +kernel)) (fun _ h9 => h9) dX6_count_91 ?_
      exact W.iret (v := (I 0 5)) hx hb hr (fun t9 ht9 hW9 => ⟨⟨(I 0 5), (I, G, A, L), rfl, by cases h; exact ⟨rfl, rfl⟩, by rw [ht9]; exact hP, va_K.moved hW9.alike hK⟩, hS.F ht9⟩) hS.2.2 dX6_count_94
    · have h := iN (by rw [hs3]; decide) h
      have h := iN (by rw [hs3]; decide) h
      have h := iN (by rw [hs3]; decide) h
      have h := iN (by rw [hs3]; decide) h
      have h := iN (by rw [hs3]; decide) h
      have h := ip hs3 h
      refine W_top hs3 ?_
      refine lv_tableIn (off := 79) (tgt := 95) hx hb dX6_count_16 (by decide) (by decide) (by decide) (by decide) ?_
      refine lv_iload_n hx hb dX6_count_95 rfl (lv_at hl 0 rfl) ?_
      refine lv_if_eq (tgt := 112) hx hb dX6_count_96 (by decide) (fun c_4 => ?_) (fun c_4 => ?_)
      · have h := ip c_4 h
        refine lv_iconst (v := 0) hx hb dX6_count_112 (by decide) ?_
        exact W.iret (v := 0) hx hb hr (fun t9 ht9 hW9 => ⟨⟨0, (I, G, A, L), rfl, by cases h; exact ⟨rfl, rfl⟩, by rw [ht9]; exact hP, va_K.moved hW9.alike hK⟩, hS.F ht9⟩) hS.2.2 dX6_count_113
      · have h := iN c_4 h
        refine lv_aload_n hx hb dX6_count_99 rfl (lv_at hl 1 rfl) ?_
        refine vgC hx hb hts hi6 hown hK hP (0) (by decide) (show kd 0 = 6 by decide) (C := RX6) (T := TX6) (N := 18) rfl 4 (by decide) (by decide) (by decide) (by decide) (14) rfl (hts (.fieldLink RX6 73 "CrateHelpers" "solving" "LCrateHelpers$Solving;") (by decide +kernel)) (fun _ h9 => h9) dX6_count_100 ?_
        refine vgG hx hb hts hi3 hown hK hP (14) (by decide) (show kd 14 = 3 by decide) (C := RX3) (T := TX3) (N := 6) rfl 0 (by decide) (by decide) (by decide) (by decide) (hts (.fieldLink RX6 294 "CrateHelpers$Solving" "tree" "LCrateHelpers$Tree;") (by decide +kernel)) (fun _ h9 => h9) dX6_count_103 ?_
        obtain ⟨hk5, h⟩ := gk h
        refine vgI hx hb hts hi5 hown hK hP (G 14 0) (s318 hk5.1) hk5.2 (C := RX5) (T := TX5) (N := 16) rfl 9 (by decide) (by decide) (by decide) (by decide) (hts (.fieldLink RX6 297 "CrateHelpers$Tree" "known" "I") (by decide +kernel)) (fun _ h9 => h9) dX6_count_106 ?_
        refine lv_goto (tgt := 113) hx hb dX6_count_109 (by decide) ?_
        exact W.iret (v := (I (G 14 0) 9)) hx hb hr (fun t9 ht9 hW9 => ⟨⟨(I (G 14 0) 9), (I, G, A, L), rfl, by cases h; exact ⟨rfl, rfl⟩, by rw [ht9]; exact hP, va_K.moved hW9.alike hK⟩, hS.F ht9⟩) hS.2.2 dX6_count_113
    · have h := iN (by rw [hs3]; decide) h
      have h := iN (by rw [hs3]; decide) h
      have h := iN (by rw [hs3]; decide) h
      have h := iN (by rw [hs3]; decide) h
      have h := iN (by rw [hs3]; decide) h
      have h := iN (by rw [hs3]; decide) h
      have h := ip hs3 h
      refine W_top hs3 ?_
      refine lv_tableIn (off := 98) (tgt := 114) hx hb dX6_count_16 (by decide) (by decide) (by decide) (by decide) ?_
      refine lv_iload_n hx hb dX6_count_114 rfl (lv_at hl 0 rfl) ?_
      refine lv_if_eq (tgt := 131) hx hb dX6_count_115 (by decide) (fun c_6 => ?_) (fun c_6 => ?_)
      · have h := ip c_6 h
        refine lv_iconst (v := 0) hx hb dX6_count_131 (by decide) ?_
        exact W.iret (v := 0) hx hb hr (fun t9 ht9 hW9 => ⟨⟨0, (I, G, A, L), rfl, by cases h; exact ⟨rfl, rfl⟩, by rw [ht9]; exact hP, va_K.moved hW9.alike hK⟩, hS.F ht9⟩) hS.2.2 dX6_count_132
      · have h := iN c_6 h
        refine lv_aload_n hx hb dX6_count_118 rfl (lv_at hl 1 rfl) ?_
        refine vgC hx hb hts hi6 hown hK hP (0) (by decide) (show kd 0 = 6 by decide) (C := RX6) (T := TX6) (N := 18) rfl 4 (by decide) (by decide) (by decide) (by decide) (14) rfl (hts (.fieldLink RX6 73 "CrateHelpers" "solving" "LCrateHelpers$Solving;") (by decide +kernel)) (fun _ h9 => h9) dX6_count_119 ?_
        refine vgG hx hb hts hi3 hown hK hP (14) (by decide) (show kd 14 = 3 by decide) (C := RX3) (T := TX3) (N := 6) rfl 0 (by decide) (by decide) (by decide) (by decide) (hts (.fieldLink RX6 294 "CrateHelpers$Solving" "tree" "LCrateHelpers$Tree;") (by decide +kernel)) (fun _ h9 => h9) dX6_count_122 ?_
        obtain ⟨hk7, h⟩ := gk h
        refine vgI hx hb hts hi5 hown hK hP (G 14 0) (s318 hk7.1) hk7.2 (C := RX5) (T := TX5) (N := 16) rfl 10 (by decide) (by decide) (by decide) (by decide) (hts (.fieldLink RX6 300 "CrateHelpers$Tree" "done" "I") (by decide +kernel)) (fun _ h9 => h9) dX6_count_125 ?_
        refine lv_goto (tgt := 132) hx hb dX6_count_128 (by decide) ?_
        exact W.iret (v := (I (G 14 0) 10)) hx hb hr (fun t9 ht9 hW9 => ⟨⟨(I (G 14 0) 10), (I, G, A, L), rfl, by cases h; exact ⟨rfl, rfl⟩, by rw [ht9]; exact hP, va_K.moved hW9.alike hK⟩, hS.F ht9⟩) hS.2.2 dX6_count_132
    · have h := iN (by rw [hs3]; decide) h
      have h := iN (by rw [hs3]; decide) h
      have h := iN (by rw [hs3]; decide) h
      have h := iN (by rw [hs3]; decide) h
      have h := iN (by rw [hs3]; decide) h
      have h := iN (by rw [hs3]; decide) h
      have h := iN (by rw [hs3]; decide) h
      have h := ip hs3 h
      refine W_top hs3 ?_
      refine lv_tableIn (off := 117) (tgt := 133) hx hb dX6_count_16 (by decide) (by decide) (by decide) (by decide) ?_
      refine lv_iload_n hx hb dX6_count_133 rfl (lv_at hl 0 rfl) ?_
      refine lv_if_eq (tgt := 150) hx hb dX6_count_134 (by decide) (fun c_8 => ?_) (fun c_8 => ?_)
      · have h := ip c_8 h
        refine lv_iconst (v := 0) hx hb dX6_count_150 (by decide) ?_
        exact W.iret (v := 0) hx hb hr (fun t9 ht9 hW9 => ⟨⟨0, (I, G, A, L), rfl, by cases h; exact ⟨rfl, rfl⟩, by rw [ht9]; exact hP, va_K.moved hW9.alike hK⟩, hS.F ht9⟩) hS.2.2 dX6_count_151
      · have h := iN c_8 h
        refine lv_aload_n hx hb dX6_count_137 rfl (lv_at hl 1 rfl) ?_
        refine vgC hx hb hts hi6 hown hK hP (0) (by decide) (show kd 0 = 6 by decide) (C := RX6) (T := TX6) (N := 18) rfl 4 (by decide) (by decide) (by decide) (by decide) (14) rfl (hts (.fieldLink RX6 73 "CrateHelpers" "solving" "LCrateHelpers$Solving;") (by decide +kernel)) (fun _ h9 => h9) dX6_count_138 ?_
        refine vgG hx hb hts hi3 hown hK hP (14) (by decide) (show kd 14 = 3 by decide) (C := RX3) (T := TX3) (N := 6) rfl 0 (by decide) (by decide) (by decide) (by decide) (hts (.fieldLink RX6 294 "CrateHelpers$Solving" "tree" "LCrateHelpers$Tree;") (by decide +kernel)) (fun _ h9 => h9) dX6_count_141 ?_
        obtain ⟨hk9, h⟩ := gk h
        refine vgI hx hb hts hi5 hown hK hP (G 14 0) (s318 hk9.1) hk9.2 (C := RX5) (T := TX5) (N := 16) rfl 11 (by decide) (by decide) (by decide) (by decide) (hts (.fieldLink RX6 192 "CrateHelpers$Tree" "taken" "I") (by decide +kernel)) (fun _ h9 => h9) dX6_count_144 ?_
        refine lv_goto (tgt := 151) hx hb dX6_count_147 (by decide) ?_
        exact W.iret (v := (I (G 14 0) 11)) hx hb hr (fun t9 ht9 hW9 => ⟨⟨(I (G 14 0) 11), (I, G, A, L), rfl, by cases h; exact ⟨rfl, rfl⟩, by rw [ht9]; exact hP, va_K.moved hW9.alike hK⟩, hS.F ht9⟩) hS.2.2 dX6_count_151
    · have h := iN (fun q => by rw [q] at hs3; exact absurd hs3 (by decide)) h
      have h := iN (fun q => by rw [q] at hs3; exact absurd hs3 (by decide)) h
      have h := iN (fun q => by rw [q] at hs3; exact absurd hs3 (by decide)) h
      have h := iN (fun q => by rw [q] at hs3; exact absurd hs3 (by decide)) h
      have h := iN (fun q => by rw [q] at hs3; exact absurd hs3 (by decide)) h
      have h := iN (fun q => by rw [q] at hs3; exact absurd hs3 (by decide)) h
      have h := iN (fun q => by rw [q] at hs3; exact absurd hs3 (by decide)) h
      have h := iN (fun q => by rw [q] at hs3; exact absurd hs3 (by decide)) h
      refine lv_tableOut (tgt := 152) hx hb dX6_count_16 hs3 (by decide) ?_
      refine lv_iconst (v := (-1)) hx hb dX6_count_152 (by decide) ?_
      exact W.iret (v := (-1)) hx hb hr (fun t9 ht9 hW9 => ⟨⟨(-1), (I, G, A, L), rfl, by cases h; exact ⟨rfl, rfl⟩, by rw [ht9]; exact hP, va_K.moved hW9.alike hK⟩, hS.F ht9⟩) hS.2.2 dX6_count_153
  refine lv_icmp_eq (tgt := 13) hx hb dX6_count_6 (by decide) (fun c_10 => ?_) (fun c_10 => ?_)
  · have h := ip c_10 h
    refine lv_iconst (v := 0) hx hb dX6_count_13 (by decide) ?_
    exact kj2 0 h _ _ hP hS ls (lv_sub hl [0, 1] rfl)
  · have h := iN c_10 h
    refine lv_iconst (v := 1) hx hb dX6_count_9 (by decide) ?_
    refine lv_goto (tgt := 14) hx hb dX6_count_10 (by decide) ?_
    exact kj2 1 h _ _ hP hS ls (lv_sub hl [0, 1] rfl)
set_option maxHeartbeats 4000000 in
set_option maxRecDepth 100000 in
theorem e_X5_boundOf (l : Launch) (D : va_G) (K : Nat → ClassId) (ad : Nat → Nat) (hap0 : apart ad (fun _ => True)) (o : Nat) (a1 : Int32) (I : Nat → Nat → Int32) (G : Nat → Nat → Nat) (A : Nat → Nat → Int32) (L : Nat → Nat → Int64) (r0 : Int32) (h : f_X5_boundOf L o a1 = some r0) : Ci l D K ad yX5_boundOf wsX5_boundOf 0 0 [.ref (ad o), .int a1] (I, G, A, L) (fun (r : Int32) (u : Mem) => r = r0 ∧ u = (I, G, A, L)) := by
  intro sz
  refine Met.ofW (cc := cX5_boundOf) (maxL := 2) (ret := (some .int)) (by decide) rfl ?_
  intro p e s m args below meth c s₁ Bd hml hv0
  obtain ⟨rfl, hsz, hP, hK⟩ := hv0
  have hx := Bd.exec
  have hb := Bd.bytes
  have hr := Bd.returns
  have hts := atoms_spec (ws := wsX5_boundOf) Bd.pre
  have hown : s.vm.findClass RX5 = some m.cls := findClass_of_methodNamed Bd.named
  have hlocks := Bd.notSynchronized
  have hi5 : ∀ w ∈ u_ws RX5 TX5 16, w ∈ wsX5_boundOf := fun w h => List.mem_cons_of_mem _ (List.mem_append_right _ h)
  subst hsz
  have hap := vF_ap hap0 s.heap.size
  have hS : va_S (vF ad s.heap.size) s.heap s.heap [] := va_S.rf
  have hP : va_P D vwCl (VW K ad I G A L) s.heap := hP
  have hl := lv_entry ([.ref (ad o), .int a1]) (n := 2) (Nat.le_of_ble_eq_true rfl)
  rw [lg_entry_eq]
  generalize (lg_sl ([.ref (ad o), .int a1]) ++ List.replicate (2 - (lg_sl ([.ref (ad o), .int a1])).length) Slot.unset).toArray = ls at hl ⊢
  have hl : lv_has ls 2 [(0, .ref (ad o)), (1, .int a1)] := hl
  rw [f_X5_boundOf] at h
  refine lv_aload_n hx hb dX5_boundOf_0 rfl (lv_at hl 0 rfl) ?_
  obtain ⟨hk1, h⟩ := gk h
  refine vgS hx hb hts hi5 hown hK hP (o) (s318 hk1.1) hk1.2 (C := RX5) (T := TX5) (N := 16) rfl 0 (by decide) (by decide) (by decide) (by decide) (o + 1) rfl (hts (.fieldLink RX5 49 "CrateHelpers$Tree" "place" "[J") (by decide +kernel)) (fun _ h9 => h9) dX5_boundOf_1 ?_
  refine lv_iload_n hx hb dX5_boundOf_4 rfl (lv_at hl 1 rfl) ?_
  obtain ⟨hk2, h⟩ := gk h
  obtain ⟨hn3, h⟩ := gk h
  refine xlald hx hb hK hP (o + 1) (s318 hk2.1) hk2.2 hn3 dX5_boundOf_5 ?_
  refine lv_bipush (v := 18) hx hb dX5_boundOf_6 (by decide) ?_
  refine lv_lshr hx hb dX5_boundOf_8 rfl ?_
  refine lv_l2i hx hb dX5_boundOf_9 rfl ?_
  exact W.iret (v := (((L (o + 1) a1.toNatClampNeg) >>> ((18 : Int32).toInt64 &&& 63)).toInt32)) hx hb hr (fun t9 ht9 hW9 => ⟨⟨(((L (o + 1) a1.toNatClampNeg) >>> ((18 : Int32).toInt64 &&& 63)).toInt32), (I, G, A, L), rfl, by cases h; exact ⟨rfl, rfl⟩, by rw [ht9]; exact hP, va_K.moved hW9.alike hK⟩, hS.F ht9⟩) hS.2.2 dX5_boundOf_10
set_option maxHeartbeats 4000000 in
set_option maxRecDepth 100000 in
theorem e_X3_sumUp (l : Launch) (D : va_G) (K : Nat → ClassId) (ad : Nat → Nat) (hap0 : apart ad (fun _ => True)) (a1 : Int32) (s2 : Nat) (I : Nat → Nat → Int32) (G : Nat → Nat → Nat) (A : Nat → Nat → Int32) (L : Nat → Nat → Int64) (A0 : Nat → Nat → Int32) (h : f_X3_sumUp I G A L a1 s2 = some A0) : Cv l D K ad yX3_sumUp wsX3_sumUp 3 107 [.ref (ad 14), .int a1, .ref (ad s2)] (I, G, A, L) (fun (u : Mem) => u = (I, G, A0, L)) := by
  intro sz
  refine Met.ofW (cc := cX3_sumUp) (maxL := 6) (ret := none) (by decide) rfl ?_
  intro p e s m args below meth c s₁ Bd hml hv0
  obtain ⟨rfl, hsz, hP, hK⟩ := hv0
  have hx := Bd.exec
  have hb := Bd.bytes
  have hr := Bd.returns
  have hts := atoms_spec (ws := wsX3_sumUp) Bd.pre
  have hown : s.vm.findClass RX3 = some m.cls := findClass_of_methodNamed Bd.named
  have hlocks := Bd.notSynchronized
  have hi3 : ∀ w ∈ u_ws RX3 TX3 6, w ∈ wsX3_sumUp := fun w h => List.mem_cons_of_mem _ (List.mem_append_left _ (List.mem_append_right _ h))
  have hi5 : ∀ w ∈ u_ws RX5 TX5 16, w ∈ wsX3_sumUp := fun w h => List.mem_cons_of_mem _ (List.mem_append_right _ h)
  subst hsz
  have hap := vF_ap hap0 s.heap.size
  have hS : va_S (vF ad s.heap.size) s.heap s.heap [] := va_S.rf
  have hP : va_P D vwCl (VW K ad I G A L) s.heap := hP
  have hl := lv_entry ([.ref (ad 14), .int a1, .ref (ad s2)]) (n := 6) (Nat.le_of_ble_eq_true rfl)
  rw [lg_entry_eq]
  generalize (lg_sl ([.ref (ad 14), .int a1, .ref (ad s2)]) ++ List.replicate (6 - (lg_sl ([.ref (ad 14), .int a1, .ref (ad s2)])).length) Slot.unset).toArray = ls at hl ⊢
  have hl : lv_has ls 6 [(0, .ref (ad 14)), (1, .int a1), (2, .ref (ad s2))] := hl
  rw [f_X3_sumUp] at h
  refine lv_iload_n hx hb dX3_sumUp_0 rfl (lv_at hl 1 rfl) ?_
  refine lv_iconst (v := 1) hx hb dX3_sumUp_1 (by decide) ?_
  obtain ⟨j4, ej4, h⟩ := bd_e h
  have kj4 : ∀ (z3 : Int32), j4 z3 = some A0 → ∀ (H : Heap) (locs : List Loc), va_P D vwCl (VW K ad I G A L) H → va_S (vF ad s.heap.size) s.heap H locs → ∀ (ls : Array Slot), lv_has ls 6 [(0, .ref (ad 14)), (1, .int a1), (2, .ref (ad s2))] → W p l e ({ frames := 3, cells := 0, slots := 0, locals := 107 }) s m ([.ref (ad 14), .int a1, .ref (ad s2)] : List Value).toArray below meth c H locs 0 0 (MQ below (va_Qv (fun (u : Mem) => u = (I, G, A0, L)) (vB D K ad) (vF ad s.heap.size)) ([.ref (ad 14), .int a1, .ref (ad s2)] : List Value).toArray s 0 0 (vF ad s.heap.size)) (F0 m 20 ls [.int z3]) := by
    intro z3 h H locs hP hS ls hl
    subst ej4
    refine lv_istore_n (lv' := [(3, .int z3), (0, .ref (ad 14)), (1, .int a1), (2, .ref (ad s2))]) hx hb dX3_sumUp_20 rfl hl (by decide) rfl (fun ls hl => ?_)
    refine lv_iload_n hx hb dX3_sumUp_21 rfl (lv_at hl 0 rfl) ?_
    obtain ⟨j12, ej12, h⟩ := bd_e h
    have kj12 : ∀ (z11 : Int32), j12 z11 = some A0 → ∀ (H : Heap) (locs : List Loc), va_P D vwCl (VW K ad I G A L) H → va_S (vF ad s.heap.size) s.heap H locs → ∀ (ls : Array Slot), lv_has ls 6 [(3, .int z3), (0, .ref (ad 14)), (1, .int a1), (2, .ref (ad s2))] → W p l e ({ frames := 3, cells := 0, slots := 0, locals := 107 }) s m ([.ref (ad 14), .int a1, .ref (ad s2)] : List Value).toArray below meth c H locs 0 0 (MQ below (va_Qv (fun (u : Mem) => u = (I, G, A0, L)) (vB D K ad) (vF ad s.heap.size)) ([.ref (ad 14), .int a1, .ref (ad s2)] : List Value).toArray s 0 0 (vF ad s.heap.size)) (F0 m 52 ls [.int z11]) := by
      intro z11 h H locs hP hS ls hl
      subst ej12
      refine lv_istore (lv' := [(4, .int z11), (3, .int z3), (0, .ref (ad 14)), (1, .int a1), (2, .ref (ad s2))]) hx hb dX3_sumUp_52 hl (by decide) rfl (fun ls hl => ?_)
      refine lv_iload hx hb dX3_sumUp_54 (lv_at hl 0 rfl) ?_
      refine lv_iconst (v := (-1)) hx hb dX3_sumUp_56 (by decide) ?_
      obtain ⟨j17, ej17, h⟩ := bd_e h
      have kj17 : ∀ (z16 : Int32), j17 z16 = some A0 → ∀ (H : Heap) (locs : List Loc), va_P D vwCl (VW K ad I G A L) H → va_S (vF ad s.heap.size) s.heap H locs → ∀ (ls : Array Slot), lv_has ls 6 [(4, .int z11), (3, .int z3), (0, .ref (ad 14)), (1, .int a1), (2, .ref (ad s2))] → W p l e ({ frames := 3, cells := 0, slots := 0, locals := 107 }) s m ([.ref (ad 14), .int a1, .ref (ad s2)] : List Value).toArray below meth c H locs 0 0 (MQ below (va_Qv (fun (u : Mem) => u = (I, G, A0, L)) (vB D K ad) (vF ad s.heap.size)) ([.ref (ad 14), .int a1, .ref (ad s2)] : List Value).toArray s 0 0 (vF ad s.heap.size)) (F0 m 74 ls [.int z16]) := by
        intro z16 h H locs hP hS ls hl
        subst ej17
        refine lv_istore (lv' := [(5, .int z16), (4, .int z11), (3, .int z3), (0, .ref (ad 14)), (1, .int a1), (2, .ref (ad s2))]) hx hb dX3_sumUp_74 hl (by decide) rfl (fun ls hl => ?_)
        refine lv_aload_n hx hb dX3_sumUp_76 rfl (lv_at hl 5 rfl) ?_
        refine lv_bipush (v := (-9)) hx hb dX3_sumUp_77 (by decide) ?_
        obtain ⟨A18, hc19, h⟩ := Option.bind_eq_some_iff.mp h
        refine ecSv (As := [.ref (ad s2), .int (-9)]) (rest := []) ⟨hx, hb, hml, hown, hts⟩ (e_J7_fill_53178 l D K ad hap0 s2 (-9) I G A L A18 hc19) (va_cwS 2 hts gX3_sumUp_J7_fill_53178 rfl rfl rfl (by decide +kernel) ⟨Nat.le_of_ble_eq_true rfl, Nat.le_of_ble_eq_true rfl⟩) hK hP hS rfl hl.1 (Nat.le_of_ble_eq_true rfl) (Nat.le_of_ble_eq_true rfl) (Nat.le_of_ble_eq_true rfl) dX3_sumUp_79 (fun H locs hP hS => ?_) rfl
        have hP : va_P D vwCl (VW K ad I G A18 L) H := hP
        refine lv_aload_n hx hb dX3_sumUp_82 rfl (lv_at hl 5 rfl) ?_
        refine lv_iconst (v := 0) hx hb dX3_sumUp_83 (by decide) ?_
        refine lv_iload_n hx hb dX3_sumUp_84 rfl (lv_at hl 4 rfl) ?_
        obtain ⟨hk20, h⟩ := gk h
        obtain ⟨hn21, h⟩ := gk h
        refine xiast hx hb hK hP hap hS (s2) (s318 hk20.1) hk20.2 hn21 dX3_sumUp_85 (fun H locs hP hS => ?_)
        rw [show (0 : Int32).toNatClampNeg = 0 by decide] at hP
        obtain ⟨A22, eA22, h⟩ := bd_e h
        rw [← eA22] at hP
        have hP : va_P D vwCl (VW K ad I G A22 L) H := hP
        refine lv_aload_n hx hb dX3_sumUp_86 rfl (lv_at hl 5 rfl) ?_
        refine lv_iconst (v := 1) hx hb dX3_sumUp_87 (by decide) ?_
        refine lv_aload_n hx hb dX3_sumUp_88 rfl (lv_at hl 3 rfl) ?_
        refine vgG hx hb hts hi3 hown hK hP (14) (by decide) (show kd 14 = 3 by decide) (C := RX3) (T := TX3) (N := 6) rfl 0 (by decide) (by decide) (by decide) (by decide) (hts (.fieldLink RX3 30 "CrateHelpers$Solving" "tree" "LCrateHelpers$Tree;") (by decide +kernel)) (fun _ h9 => h9) dX3_sumUp_89 ?_
        obtain ⟨hk23, h⟩ := gk h
        refine vgI hx hb hts hi5 hown hK hP (G 14 0) (s318 hk23.1) hk23.2 (C := RX5) (T := TX5) (N := 16) rfl 11 (by decide) (by decide) (by decide) (by decide) (hts (.fieldLink RX3 81 "CrateHelpers$Tree" "taken" "I") (by decide +kernel)) (fun _ h9 => h9) dX3_sumUp_92 ?_
        obtain ⟨hn24, h⟩ := gk h
        refine xiast hx hb hK hP hap hS (s2) (s318 hk20.1) hk20.2 hn24 dX3_sumUp_95 (fun H locs hP hS => ?_)
        rw [show (1 : Int32).toNatClampNeg = 1 by decide] at hP
        obtain ⟨A25, eA25, h⟩ := bd_e h
        rw [← eA25] at hP
        have hP : va_P D vwCl (VW K ad I G A25 L) H := hP
        refine lv_aload_n hx hb dX3_sumUp_96 rfl (lv_at hl 5 rfl) ?_
        refine lv_iconst (v := 2) hx hb dX3_sumUp_97 (by decide) ?_
        refine lv_aload_n hx hb dX3_sumUp_98 rfl (lv_at hl 3 rfl) ?_
        refine vgG hx hb hts hi3 hown hK hP (14) (by decide) (show kd 14 = 3 by decide) (C := RX3) (T := TX3) (N := 6) rfl 0 (by decide) (by decide) (by decide) (by decide) (hts (.fieldLink RX3 30 "CrateHelpers$Solving" "tree" "LCrateHelpers$Tree;") (by decide +kernel)) (fun _ h9 => h9) dX3_sumUp_99 ?_
        refine vgI hx hb hts hi5 hown hK hP (G 14 0) (s318 hk23.1) hk23.2 (C := RX5) (T := TX5) (N := 16) rfl 10 (by decide) (by decide) (by decide) (by decide) (hts (.fieldLink RX3 79 "CrateHelpers$Tree" "done" "I") (by decide +kernel)) (fun _ h9 => h9) dX3_sumUp_102 ?_
        obtain ⟨hn26, h⟩ := gk h
        refine xiast hx hb hK hP hap hS (s2) (s318 hk20.1) hk20.2 hn26 dX3_sumUp_105 (fun H locs hP hS => ?_)
        rw [show (2 : Int32).toNatClampNeg = 2 by decide] at hP
        obtain ⟨A27, eA27, h⟩ := bd_e h
        rw [← eA27] at hP
        have hP : va_P D vwCl (VW K ad I G A27 L) H := hP
        refine lv_aload_n hx hb dX3_sumUp_106 rfl (lv_at hl 5 rfl) ?_
        refine lv_iconst (v := 3) hx hb dX3_sumUp_107 (by decide) ?_
        refine lv_aload_n hx hb dX3_sumUp_108 rfl (lv_at hl 3 rfl) ?_
        refine vgI hx hb hts hi3 hown hK hP (14) (by decide) (show kd 14 = 3 by decide) (C := RX3) (T := TX3) (N := 6) rfl 3 (by decide) (by decide) (by decide) (by decide) (hts (.fieldLink RX3 15 "CrateHelpers$Solving" "turns" "I") (by decide +kernel)) (fun _ h9 => h9) dX3_sumUp_109 ?_
        obtain ⟨hn28, h⟩ := gk h
        refine xiast hx hb hK hP hap hS (s2) (s318 hk20.1) hk20.2 hn28 dX3_sumUp_112 (fun H locs hP hS => ?_)
        rw [show (3 : Int32).toNatClampNeg = 3 by decide] at hP
        obtain ⟨A29, eA29, h⟩ := bd_e h
        rw [← eA29] at hP
        have hP : va_P D vwCl (VW K ad I G A29 L) H := hP
        refine lv_aload_n hx hb dX3_sumUp_113 rfl (lv_at hl 5 rfl) ?_
        refine lv_iconst (v := 4) hx hb dX3_sumUp_114 (by decide) ?_
        refine lv_iload_n hx hb dX3_sumUp_115 rfl (lv_at hl 2 rfl) ?_
        refine lv_if_eq (tgt := 124) hx hb dX3_sumUp_116 (by decide) (fun c_30 => ?_) (fun c_30 => ?_)
        · have h := ip c_30 h
          refine lv_ldc (v := (-1000000)) hx hb hown (hts (.constant RX3 109 (-1000000)) (by decide +kernel)) dX3_sumUp_124 ?_
          obtain ⟨hn31, h⟩ := gk h
          refine xiast hx hb hK hP hap hS (s2) (s318 hk20.1) hk20.2 hn31 dX3_sumUp_126 (fun H locs hP hS => ?_)
          rw [show (4 : Int32).toNatClampNeg = 4 by decide] at hP
          obtain ⟨A32, eA32, h⟩ := bd_e h
          rw [← eA32] at hP
          have hP : va_P D vwCl (VW K ad I G A32 L) H := hP
          refine lv_aload_n hx hb dX3_sumUp_127 rfl (lv_at hl 5 rfl) ?_
          refine lv_iconst (v := 5) hx hb dX3_sumUp_128 (by decide) ?_
          refine lv_iload hx hb dX3_sumUp_129 (lv_at hl 0 rfl) ?_
          obtain ⟨hn33, h⟩ := gk h
          refine xiast hx hb hK hP hap hS (s2) (s318 hk20.1) hk20.2 hn33 dX3_sumUp_131 (fun H locs hP hS => ?_)
          rw [show (5 : Int32).toNatClampNeg = 5 by decide] at hP
          obtain ⟨A34, eA34, h⟩ := bd_e h
          rw [← eA34] at hP
          have hP : va_P D vwCl (VW K ad I G A34 L) H := hP
          refine lv_iload_n hx hb dX3_sumUp_132 rfl (lv_at hl 2 rfl) ?_
          refine lv_if_eq (tgt := 148) hx hb dX3_sumUp_133 (by decide) (fun c_35 => ?_) (fun c_35 => ?_)
          · have h := ip c_35 h
            exact W.vret hx hb hr (fun t9 ht9 hW9 => ⟨⟨(I, G, A34, L), rfl, by cases h; rfl, by rw [ht9]; exact hP, va_K.moved hW9.alike hK⟩, hS.F ht9⟩) hS.2.2 dX3_sumUp_148
          · have h := iN c_35 h
            refine lv_aload_n hx hb dX3_sumUp_136 rfl (lv_at hl 3 rfl) ?_
            refine vgG hx hb hts hi3 hown hK hP (14) (by decide) (show kd 14 = 3 by decide) (C := RX3) (T := TX3) (N := 6) rfl 0 (by decide) (by decide) (by decide) (by decide) (hts (.fieldLink RX3 30 "CrateHelpers$Solving" "tree" "LCrateHelpers$Tree;") (by decide +kernel)) (fun _ h9 => h9) dX3_sumUp_137 ?_
            refine lv_iload hx hb dX3_sumUp_140 (lv_at hl 1 rfl) ?_
            refine lv_aload_n hx hb dX3_sumUp_142 rfl (lv_at hl 5 rfl) ?_
            refine lv_bipush (v := 6) hx hb dX3_sumUp_143 (by decide) ?_
            obtain ⟨A36, hc37, h⟩ := Option.bind_eq_some_iff.mp h
            refine ecVv (As := [.int z11, .ref (ad s2), .int 6]) (rest := []) ⟨hx, hb, hml, hown, hts⟩ (e_X5_copyValues l D K ad hap0 (G 14 0) z11 s2 6 I G A34 L A36 hc37) (cwV 3 hts gX3_sumUp_X5_copyValues rfl rfl rfl (by decide +kernel) ⟨Nat.le_of_ble_eq_true rfl, Nat.le_of_ble_eq_true rfl⟩) hK hP hS (s318 hk23.1) hk23.2 (by decide) rfl rfl rfl hl.1 (Nat.le_of_ble_eq_true rfl) (Nat.le_of_ble_eq_true rfl) (Nat.le_of_ble_eq_true rfl) dX3_sumUp_145 (fun H locs hP hS => ?_) rfl
            have hP : va_P D vwCl (VW K ad I G A36 L) H := hP
            exact W.vret hx hb hr (fun t9 ht9 hW9 => ⟨⟨(I, G, A36, L), rfl, by cases h; rfl, by rw [ht9]; exact hP, va_K.moved hW9.alike hK⟩, hS.F ht9⟩) hS.2.2 dX3_sumUp_148
        · have h := iN c_30 h
          refine lv_iload hx hb dX3_sumUp_119 (lv_at hl 0 rfl) ?_
          refine lv_goto (tgt := 126) hx hb dX3_sumUp_121 (by decide) ?_
          obtain ⟨hn38, h⟩ := gk h
          refine xiast hx hb hK hP hap hS (s2) (s318 hk20.1) hk20.2 hn38 dX3_sumUp_126 (fun H locs hP hS => ?_)
          rw [show (4 : Int32).toNatClampNeg = 4 by decide] at hP
          obtain ⟨A39, eA39, h⟩ := bd_e h
          rw [← eA39] at hP
          have hP : va_P D vwCl (VW K ad I G A39 L) H := hP
          refine lv_aload_n hx hb dX3_sumUp_127 rfl (lv_at hl 5 rfl) ?_
          refine lv_iconst (v := 5) hx hb dX3_sumUp_128 (by decide) ?_
          refine lv_iload hx hb dX3_sumUp_129 (lv_at hl 0 rfl) ?_
          obtain ⟨hn40, h⟩ := gk h
          refine xiast hx hb hK hP hap hS (s2) (s318 hk20.1) hk20.2 hn40 dX3_sumUp_131 (fun H locs hP hS => ?_)
          rw [show (5 : Int32).toNatClampNeg = 5 by decide] at hP
          obtain ⟨A41, eA41, h⟩ := bd_e h
          rw [← eA41] at hP
          have hP : va_P D vwCl (VW K ad I G A41 L) H := hP
          refine lv_iload_n hx hb dX3_sumUp_132 rfl (lv_at hl 2 rfl) ?_
          refine lv_if_eq (tgt := 148) hx hb dX3_sumUp_133 (by decide) (fun c_42 => ?_) (fun c_42 => ?_)
          · have h := ip c_42 h
            exact W.vret hx hb hr (fun t9 ht9 hW9 => ⟨⟨(I, G, A41, L), rfl, by cases h; rfl, by rw [ht9]; exact hP, va_K.moved hW9.alike hK⟩, hS.F ht9⟩) hS.2.2 dX3_sumUp_148
          · have h := iN c_42 h
            refine lv_aload_n hx hb dX3_sumUp_136 rfl (lv_at hl 3 rfl) ?_
            refine vgG hx hb hts hi3 hown hK hP (14) (by decide) (show kd 14 = 3 by decide) (C := RX3) (T := TX3) (N := 6) rfl 0 (by decide) (by decide) (by decide) (by decide) (hts (.fieldLink RX3 30 "CrateHelpers$Solving" "tree" "LCrateHelpers$Tree;") (by decide +kernel)) (fun _ h9 => h9) dX3_sumUp_137 ?_
            refine lv_iload hx hb dX3_sumUp_140 (lv_at hl 1 rfl) ?_
            refine lv_aload_n hx hb dX3_sumUp_142 rfl (lv_at hl 5 rfl) ?_
            refine lv_bipush (v := 6) hx hb dX3_sumUp_143 (by decide) ?_
            obtain ⟨A43, hc44, h⟩ := Option.bind_eq_some_iff.mp h
            refine ecVv (As := [.int z11, .ref (ad s2), .int 6]) (rest := []) ⟨hx, hb, hml, hown, hts⟩ (e_X5_copyValues l D K ad hap0 (G 14 0) z11 s2 6 I G A41 L A43 hc44) (cwV 3 hts gX3_sumUp_X5_copyValues rfl rfl rfl (by decide +kernel) ⟨Nat.le_of_ble_eq_true rfl, Nat.le_of_ble_eq_true rfl⟩) hK hP hS (s318 hk23.1) hk23.2 (by decide) rfl rfl rfl hl.1 (Nat.le_of_ble_eq_true rfl) (Nat.le_of_ble_eq_true rfl) (Nat.le_of_ble_eq_true rfl) dX3_sumUp_145 (fun H locs hP hS => ?_) rfl
            have hP : va_P D vwCl (VW K ad I G A43 L) H := hP
            exact W.vret hx hb hr (fun t9 ht9 hW9 => ⟨⟨(I, G, A43, L), rfl, by cases h; rfl, by rw [ht9]; exact hP, va_K.moved hW9.alike hK⟩, hS.F ht9⟩) hS.2.2 dX3_sumUp_148
      refine lv_icmp_ne (tgt := 65) hx hb dX3_sumUp_57 (by decide) (fun c_45 => ?_) (fun c_45 => ?_)
      · have h := iN c_45 h
        refine lv_aload_n hx hb dX3_sumUp_65 rfl (lv_at hl 2 rfl) ?_
        refine vgG hx hb hts hi3 hown hK hP (14) (by decide) (show kd 14 = 3 by decide) (C := RX3) (T := TX3) (N := 6) rfl 0 (by decide) (by decide) (by decide) (by decide) (hts (.fieldLink RX3 30 "CrateHelpers$Solving" "tree" "LCrateHelpers$Tree;") (by decide +kernel)) (fun _ h9 => h9) dX3_sumUp_66 ?_
        refine lv_iload hx hb dX3_sumUp_69 (lv_at hl 0 rfl) ?_
        obtain ⟨hk46, h⟩ := gk h
        obtain ⟨r47, hc48, h⟩ := Option.bind_eq_some_iff.mp h
        refine ecV (As := [.int z11]) (rest := []) ⟨hx, hb, hml, hown, hts⟩ (e_X5_boundOf l D K ad hap0 (G 14 0) z11 I G A L r47 hc48) (cwV 1 hts gX3_sumUp_X5_boundOf rfl rfl rfl (by decide +kernel) ⟨Nat.le_of_ble_eq_true rfl, Nat.le_of_ble_eq_true rfl⟩) hK hP hS (s318 hk46.1) hk46.2 (by decide) rfl rfl rfl hl.1 (Nat.le_of_ble_eq_true rfl) (Nat.le_of_ble_eq_true rfl) (Nat.le_of_ble_eq_true rfl) dX3_sumUp_71 (fun H locs hP hS => ?_) rfl
        have hP : va_P D vwCl (VW K ad I G A L) H := hP
        exact kj17 r47 h _ _ hP hS ls (lv_sub hl [0, 1, 2, 3, 4] rfl)
      · have h := ip c_45 h
        refine lv_ldc (v := (-1000000)) hx hb hown (hts (.constant RX3 109 (-1000000)) (by decide +kernel)) dX3_sumUp_60 ?_
        refine lv_goto (tgt := 74) hx hb dX3_sumUp_62 (by decide) ?_
        exact kj17 (-1000000) h _ _ hP hS ls (lv_sub hl [0, 1, 2, 3, 4] rfl)
    refine lv_if_eq (tgt := 45) hx hb dX3_sumUp_22 (by decide) (fun c_49 => ?_) (fun c_49 => ?_)
    · have h := ip c_49 h
      refine lv_aload_n hx hb dX3_sumUp_45 rfl (lv_at hl 1 rfl) ?_
      refine vgG hx hb hts hi3 hown hK hP (14) (by decide) (show kd 14 = 3 by decide) (C := RX3) (T := TX3) (N := 6) rfl 0 (by decide) (by decide) (by decide) (by decide) (hts (.fieldLink RX3 30 "CrateHelpers$Solving" "tree" "LCrateHelpers$Tree;") (by decide +kernel)) (fun _ h9 => h9) dX3_sumUp_46 ?_
      obtain ⟨hk50, h⟩ := gk h
      obtain ⟨r51, hc52, h⟩ := Option.bind_eq_some_iff.mp h
      refine ecV (As := []) (rest := []) ⟨hx, hb, hml, hown, hts⟩ (e_X5_nextOfWalk l D K ad hap0 (G 14 0) I G A L r51 hc52) (cwV 0 hts gX3_sumUp_X5_nextOfWalk rfl rfl rfl (by decide +kernel) ⟨Nat.le_of_ble_eq_true rfl, Nat.le_of_ble_eq_true rfl⟩) hK hP hS (s318 hk50.1) hk50.2 (by decide) rfl rfl rfl hl.1 (Nat.le_of_ble_eq_true rfl) (Nat.le_of_ble_eq_true rfl) (Nat.le_of_ble_eq_true rfl) dX3_sumUp_49 (fun H locs hP hS => ?_) rfl
      have hP : va_P D vwCl (VW K ad I G A L) H := hP
      exact kj12 r51 h _ _ hP hS ls (lv_sub hl [0, 1, 2, 3] rfl)
    · have h := iN c_49 h
      refine lv_aload_n hx hb dX3_sumUp_25 rfl (lv_at hl 1 rfl) ?_
      refine vgG hx hb hts hi3 hown hK hP (14) (by decide) (show kd 14 = 3 by decide) (C := RX3) (T := TX3) (N := 6) rfl 0 (by decide) (by decide) (by decide) (by decide) (hts (.fieldLink RX3 30 "CrateHelpers$Solving" "tree" "LCrateHelpers$Tree;") (by decide +kernel)) (fun _ h9 => h9) dX3_sumUp_26 ?_
      obtain ⟨hk53, h⟩ := gk h
      refine vgS hx hb hts hi5 hown hK hP (G 14 0) (s318 hk53.1) hk53.2 (C := RX5) (T := TX5) (N := 16) rfl 8 (by decide) (by decide) (by decide) (by decide) (G 14 0 + 9) rfl (hts (.fieldLink RX3 106 "CrateHelpers$Tree" "walk" "[I") (by decide +kernel)) (fun _ h9 => h9) dX3_sumUp_29 ?_
      refine lv_aload_n hx hb dX3_sumUp_32 rfl (lv_at hl 1 rfl) ?_
      refine vgG hx hb hts hi3 hown hK hP (14) (by decide) (show kd 14 = 3 by decide) (C := RX3) (T := TX3) (N := 6) rfl 0 (by decide) (by decide) (by decide) (by decide) (hts (.fieldLink RX3 30 "CrateHelpers$Solving" "tree" "LCrateHelpers$Tree;") (by decide +kernel)) (fun _ h9 => h9) dX3_sumUp_33 ?_
      refine vgI hx hb hts hi5 hown hK hP (G 14 0) (s318 hk53.1) hk53.2 (C := RX5) (T := TX5) (N := 16) rfl 11 (by decide) (by decide) (by decide) (by decide) (hts (.fieldLink RX3 81 "CrateHelpers$Tree" "taken" "I") (by decide +kernel)) (fun _ h9 => h9) dX3_sumUp_36 ?_
      refine lv_iconst (v := 1) hx hb dX3_sumUp_39 (by decide) ?_
      refine lv_isub hx hb dX3_sumUp_40 ?_
      obtain ⟨hk54, h⟩ := gk h
      obtain ⟨hn55, h⟩ := gk h
      refine xiald hx hb hK hP (G 14 0 + 9) (s318 hk54.1) hk54.2 hn55 dX3_sumUp_41 ?_
      refine lv_goto (tgt := 52) hx hb dX3_sumUp_42 (by decide) ?_
      exact kj12 (A (G 14 0 + 9) (((I (G 14 0) 11) - 1).toNatClampNeg)) h _ _ hP hS ls (lv_sub hl [0, 1, 2, 3] rfl)
  refine lv_icmp_ne (tgt := 19) hx hb dX3_sumUp_2 (by decide) (fun c_56 => ?_) (fun c_56 => ?_)
  · have h := iN c_56 h
    refine lv_iconst (v := 0) hx hb dX3_sumUp_19 (by decide) ?_
    exact kj4 0 h _ _ hP hS ls (lv_sub hl [0, 1, 2] rfl)
  · have h := ip c_56 h
    refine lv_aload_n hx hb dX3_sumUp_5 rfl (lv_at hl 0 rfl) ?_
    refine vgG hx hb hts hi3 hown hK hP (14) (by decide) (show kd 14 = 3 by decide) (C := RX3) (T := TX3) (N := 6) rfl 0 (by decide) (by decide) (by decide) (by decide) (hts (.fieldLink RX3 30 "CrateHelpers$Solving" "tree" "LCrateHelpers$Tree;") (by decide +kernel)) (fun _ h9 => h9) dX3_sumUp_6 ?_
    obtain ⟨hk57, h⟩ := gk h
    refine vgI hx hb hts hi5 hown hK hP (G 14 0) (s318 hk57.1) hk57.2 (C := RX5) (T := TX5) (N := 16) rfl 11 (by decide) (by decide) (by decide) (by decide) (hts (.fieldLink RX3 81 "CrateHelpers$Tree" "taken" "I") (by decide +kernel)) (fun _ h9 => h9) dX3_sumUp_9 ?_
    refine lv_if_le (tgt := 19) hx hb dX3_sumUp_12 (by decide) (fun c_58 => ?_) (fun c_58 => ?_)
    · have h := iN (Int32.not_lt.mpr c_58) h
      refine lv_iconst (v := 0) hx hb dX3_sumUp_19 (by decide) ?_
      exact kj4 0 h _ _ hP hS ls (lv_sub hl [0, 1, 2] rfl)
    · have h := ip (Int32.not_le.mp c_58) h
      refine lv_iconst (v := 1) hx hb dX3_sumUp_15 (by decide) ?_
      refine lv_goto (tgt := 20) hx hb dX3_sumUp_16 (by decide) ?_
      exact kj4 1 h _ _ hP hS ls (lv_sub hl [0, 1, 2] rfl)
set_option maxHeartbeats 4000000 in
set_option maxRecDepth 100000 in
theorem e_X6_endSolving (l : Launch) (D : va_G) (K : Nat → ClassId) (ad : Nat → Nat) (hap0 : apart ad (fun _ => True)) (a1 : Int32) (I : Nat → Nat → Int32) (G : Nat → Nat → Nat) (A : Nat → Nat → Int32) (L : Nat → Nat → Int64) (I0 : Nat → Nat → Int32) (G0 : Nat → Nat → Nat) (A0 : Nat → Nat → Int32) (h : f_X6_endSolving I G A L a1 = some (I0, G0, A0)) : Cv l D K ad yX6_endSolving wsX6_endSolving 4 135 [.ref (ad 0), .int a1] (I, G, A, L) (fun (u : Mem) => u = (I0, G0, A0, L)) := by
  intro sz
  refine Met.ofW (cc := cX6_endSolving) (maxL := 4) (ret := none) (by decide) rfl ?_
  intro p e s m args below meth c s₁ Bd hml hv0
  obtain ⟨rfl, hsz, hP, hK⟩ := hv0
  have hx := Bd.exec
  have hb := Bd.bytes
  have hr := Bd.returns
  have hts := atoms_spec (ws := wsX6_endSolving) Bd.pre
  have hown : s.vm.findClass RX6 = some m.cls := findClass_of_methodNamed Bd.named
  have hlocks := Bd.notSynchronized
  have hi6 : ∀ w ∈ u_ws RX6 TX6 18, w ∈ wsX6_endSolving := fun w h => List.mem_cons_of_mem _ (List.mem_append_left _ (List.mem_append_left _ (List.mem_append_left _ (List.mem_append_right _ h))))
  have hi1 : ∀ w ∈ u_ws RX1 TX1 9, w ∈ wsX6_endSolving := fun w h => List.mem_cons_of_mem _ (List.mem_append_left _ (List.mem_append_left _ (List.mem_append_right _ h)))
  have hi3 : ∀ w ∈ u_ws RX3 TX3 6, w ∈ wsX6_endSolving := fun w h => List.mem_cons_of_mem _ (List.mem_append_left _ (List.mem_append_right _ h))
  have hi5 : ∀ w ∈ u_ws RX5 TX5 16, w ∈ wsX6_endSolving := fun w h => List.mem_cons_of_mem _ (List.mem_append_right _ h)
  subst hsz
  have hap := vF_ap hap0 s.heap.size
  have hS : va_S (vF ad s.heap.size) s.heap s.heap [] := va_S.rf
  have hP : va_P D vwCl (VW K ad I G A L) s.heap := hP
  have hl := lv_entry ([.ref (ad 0), .int a1]) (n := 4) (Nat.le_of_ble_eq_true rfl)
  rw [lg_entry_eq]
  generalize (lg_sl ([.ref (ad 0), .int a1]) ++ List.replicate (4 - (lg_sl ([.ref (ad 0), .int a1])).length) Slot.unset).toArray = ls at hl ⊢
  have hl : lv_has ls 4 [(0, .ref (ad 0)), (1, .int a1)] := hl
  rw [f_X6_endSolving] at h
  refine lv_aload_n hx hb dX6_endSolving_0 rfl (lv_at hl 0 rfl) ?_
  refine lv_aload_n hx hb dX6_endSolving_1 rfl (lv_at hl 0 rfl) ?_
  refine vgI hx hb hts hi6 hown hK hP (0) (by decide) (show kd 0 = 6 by decide) (C := RX6) (T := TX6) (N := 18) rfl 5 (by decide) (by decide) (by decide) (by decide) (hts (.fieldLink RX6 29 "CrateHelpers" "underWay" "I") (by decide +kernel)) (fun _ h9 => h9) dX6_endSolving_2 ?_
  obtain ⟨r1, hc2, h⟩ := Option.bind_eq_some_iff.mp h
  refine ecV (As := [.int (I 0 5)]) (rest := []) ⟨hx, hb, hml, hown, hts⟩ (e_X6_isProblem l D K ad hap0 (I 0 5) I G A L r1 hc2) (cwV 1 hts gX6_endSolving_X6_isProblem rfl rfl rfl (by decide +kernel) ⟨Nat.le_of_ble_eq_true rfl, Nat.le_of_ble_eq_true rfl⟩) hK hP hS (by decide) (show kd 0 = 6 by decide) (by decide) rfl rfl rfl hl.1 (Nat.le_of_ble_eq_true rfl) (Nat.le_of_ble_eq_true rfl) (Nat.le_of_ble_eq_true rfl) dX6_endSolving_5 (fun H locs hP hS => ?_) rfl
  have hP : va_P D vwCl (VW K ad I G A L) H := hP
  refine lv_if_ne (tgt := 12) hx hb dX6_endSolving_8 (by decide) (fun c_3 => ?_) (fun c_3 => ?_)
  · have h := iN c_3 h
    refine lv_aload_n hx hb dX6_endSolving_12 rfl (lv_at hl 0 rfl) ?_
    refine vgC hx hb hts hi6 hown hK hP (0) (by decide) (show kd 0 = 6 by decide) (C := RX6) (T := TX6) (N := 18) rfl 0 (by decide) (by decide) (by decide) (by decide) (1) rfl (hts (.fieldLink RX6 11 "CrateHelpers" "problems" "[LCrateHelpers$Problem;") (by decide +kernel)) (fun _ h9 => h9) dX6_endSolving_13 ?_
    refine lv_aload_n hx hb dX6_endSolving_16 rfl (lv_at hl 0 rfl) ?_
    refine vgI hx hb hts hi6 hown hK hP (0) (by decide) (show kd 0 = 6 by decide) (C := RX6) (T := TX6) (N := 18) rfl 5 (by decide) (by decide) (by decide) (by decide) (hts (.fieldLink RX6 29 "CrateHelpers" "underWay" "I") (by decide +kernel)) (fun _ h9 => h9) dX6_endSolving_17 ?_
    obtain ⟨hn4, h⟩ := gk h
    refine xaald hx hb hK hP (1) (by decide) 5 13 (show kd 1 = 13 by decide) (by decide) rfl (by rw [show ln 1 = 5 by decide]; exact hn4) (58 + 52 * ((I 0 5).toNatClampNeg)) (drf13 ((show kd 1 = 13 by decide))) dX6_endSolving_20 ?_
    refine lv_astore_n (lv' := [(2, .ref (ad (58 + 52 * ((I 0 5).toNatClampNeg)))), (0, .ref (ad 0)), (1, .int a1)]) hx hb dX6_endSolving_21 rfl hl (by decide) rfl (fun ls hl => ?_)
    refine lv_aload_n hx hb dX6_endSolving_22 rfl (lv_at hl 1 rfl) ?_
    refine vgC hx hb hts hi6 hown hK hP (0) (by decide) (show kd 0 = 6 by decide) (C := RX6) (T := TX6) (N := 18) rfl 4 (by decide) (by decide) (by decide) (by decide) (14) rfl (hts (.fieldLink RX6 73 "CrateHelpers" "solving" "LCrateHelpers$Solving;") (by decide +kernel)) (fun _ h9 => h9) dX6_endSolving_23 ?_
    refine lv_iload_n hx hb dX6_endSolving_26 rfl (lv_at hl 2 rfl) ?_
    refine lv_aload_n hx hb dX6_endSolving_27 rfl (lv_at hl 0 rfl) ?_
    obtain ⟨hk5, h⟩ := gk h
    refine vgS hx hb hts hi1 hown hK hP (58 + 52 * ((I 0 5).toNatClampNeg)) (s318 hk5.1) hk5.2 (C := RX1) (T := TX1) (N := 9) rfl 8 (by decide) (by decide) (by decide) (by decide) (58 + 52 * ((I 0 5).toNatClampNeg) + 11) rfl (hts (.fieldLink RX6 189 "CrateHelpers$Problem" "outcome" "[I") (by decide +kernel)) (fun _ h9 => h9) dX6_endSolving_28 ?_
    obtain ⟨A6, hc7, h⟩ := Option.bind_eq_some_iff.mp h
    refine ecVv (As := [.int a1, .ref (ad (58 + 52 * ((I 0 5).toNatClampNeg) + 11))]) (rest := []) ⟨hx, hb, hml, hown, hts⟩ (e_X3_sumUp l D K ad hap0 a1 (58 + 52 * ((I 0 5).toNatClampNeg) + 11) I G A L A6 hc7) (cwV 2 hts gX6_endSolving_X3_sumUp rfl rfl rfl (by decide +kernel) ⟨Nat.le_of_ble_eq_true rfl, Nat.le_of_ble_eq_true rfl⟩) hK hP hS (by decide) (show kd 14 = 3 by decide) (by decide) rfl rfl rfl hl.1 (Nat.le_of_ble_eq_true rfl) (Nat.le_of_ble_eq_true rfl) (Nat.le_of_ble_eq_true rfl) dX6_endSolving_31 (fun H locs hP hS => ?_) rfl
    have hP : va_P D vwCl (VW K ad I G A6 L) H := hP
    refine lv_aload_n hx hb dX6_endSolving_34 rfl (lv_at hl 0 rfl) ?_
    refine lv_iconst (v := 1) hx hb dX6_endSolving_35 (by decide) ?_
    refine vpI (v := 1) (ty := .boolean) hx hb hts hi1 tyX1 tyX1_ok nmX1 hown hK hP hap hS (58 + 52 * ((I 0 5).toNatClampNeg)) (s318 hk5.1) hk5.2 (C := RX1) (T := TX1) (N := 9) rfl 3 (by decide) (by decide) (by decide) (by decide) (hts (.fieldLink RX6 185 "CrateHelpers$Problem" "hasEnded" "Z") (by decide +kernel)) (fun _ h9 => h9) rfl (by decide +kernel) rfl rfl dX6_endSolving_36 (fun H locs hP hS => ?_)
    obtain ⟨I8, eI8, h⟩ := bd_e h
    rw [← eI8] at hP
    have hP : va_P D vwCl (VW K ad I8 G A6 L) H := hP
    refine lv_aload_n hx hb dX6_endSolving_39 rfl (lv_at hl 1 rfl) ?_
    refine vgG hx hb hts hi6 hown hK hP (0) (by decide) (show kd 0 = 6 by decide) (C := RX6) (T := TX6) (N := 18) rfl 6 (by decide) (by decide) (by decide) (by decide) (hts (.fieldLink RX6 82 "CrateHelpers" "lastEnded" "LCrateHelpers$Tree;") (by decide +kernel)) (fun _ h9 => h9) dX6_endSolving_40 ?_
    refine lv_astore_n (lv' := [(3, .ref (ad (G 0 6))), (2, .ref (ad (58 + 52 * ((I 0 5).toNatClampNeg)))), (0, .ref (ad 0)), (1, .int a1)]) hx hb dX6_endSolving_43 rfl hl (by decide) rfl (fun ls hl => ?_)
    refine lv_aload_n hx hb dX6_endSolving_44 rfl (lv_at hl 2 rfl) ?_
    refine lv_aload_n hx hb dX6_endSolving_45 rfl (lv_at hl 2 rfl) ?_
    refine vgC hx hb hts hi6 hown hK hP (0) (by decide) (show kd 0 = 6 by decide) (C := RX6) (T := TX6) (N := 18) rfl 4 (by decide) (by decide) (by decide) (by decide) (14) rfl (hts (.fieldLink RX6 73 "CrateHelpers" "solving" "LCrateHelpers$Solving;") (by decide +kernel)) (fun _ h9 => h9) dX6_endSolving_46 ?_
    refine vgG hx hb hts hi3 hown hK hP (14) (by decide) (show kd 14 = 3 by decide) (C := RX3) (T := TX3) (N := 6) rfl 0 (by decide) (by decide) (by decide) (by decide) (hts (.fieldLink RX6 294 "CrateHelpers$Solving" "tree" "LCrateHelpers$Tree;") (by decide +kernel)) (fun _ h9 => h9) dX6_endSolving_49 ?_
    refine vpG (q := (G 14 0)) (ty := .object "CrateHelpers$Tree") hx hb hts hi6 tyX6 tyX6_ok nmX6 hown hK hP hap hS (0) (by decide) (show kd 0 = 6 by decide) (C := RX6) (T := TX6) (N := 18) rfl 6 (by decide) (by decide) (by decide) (by decide) (hts (.fieldLink RX6 82 "CrateHelpers" "lastEnded" "LCrateHelpers$Tree;") (by decide +kernel)) (fun _ h9 => h9) rfl (by decide +kernel) rfl rfl dX6_endSolving_52 (fun H locs hP hS => ?_)
    obtain ⟨G9, eG9, h⟩ := bd_e h
    rw [← eG9] at hP
    have hP : va_P D vwCl (VW K ad I8 G9 A6 L) H := hP
    refine lv_aload_n hx hb dX6_endSolving_55 rfl (lv_at hl 2 rfl) ?_
    refine vgC hx hb hts hi6 hown hK hP (0) (by decide) (show kd 0 = 6 by decide) (C := RX6) (T := TX6) (N := 18) rfl 4 (by decide) (by decide) (by decide) (by decide) (14) rfl (hts (.fieldLink RX6 73 "CrateHelpers" "solving" "LCrateHelpers$Solving;") (by decide +kernel)) (fun _ h9 => h9) dX6_endSolving_56 ?_
    refine lv_aload_n hx hb dX6_endSolving_59 rfl (lv_at hl 0 rfl) ?_
    refine vpG (q := (G 0 6)) (ty := .object "CrateHelpers$Tree") hx hb hts hi3 tyX3 tyX3_ok nmX3 hown hK hP hap hS (14) (by decide) (show kd 14 = 3 by decide) (C := RX3) (T := TX3) (N := 6) rfl 0 (by decide) (by decide) (by decide) (by decide) (hts (.fieldLink RX6 294 "CrateHelpers$Solving" "tree" "LCrateHelpers$Tree;") (by decide +kernel)) (fun _ h9 => h9) rfl (by decide +kernel) rfl rfl dX6_endSolving_60 (fun H locs hP hS => ?_)
    obtain ⟨G10, eG10, h⟩ := bd_e h
    rw [← eG10] at hP
    have hP : va_P D vwCl (VW K ad I8 G10 A6 L) H := hP
    refine lv_aload_n hx hb dX6_endSolving_63 rfl (lv_at hl 2 rfl) ?_
    refine lv_bipush (v := (-9)) hx hb dX6_endSolving_64 (by decide) ?_
    refine vpI (v := (-9)) (ty := .int) hx hb hts hi6 tyX6 tyX6_ok nmX6 hown hK hP hap hS (0) (by decide) (show kd 0 = 6 by decide) (C := RX6) (T := TX6) (N := 18) rfl 5 (by decide) (by decide) (by decide) (by decide) (hts (.fieldLink RX6 29 "CrateHelpers" "underWay" "I") (by decide +kernel)) (fun _ h9 => h9) rfl (by decide +kernel) rfl rfl dX6_endSolving_66 (fun H locs hP hS => ?_)
    obtain ⟨I11, eI11, h⟩ := bd_e h
    rw [← eI11] at hP
    have hP : va_P D vwCl (VW K ad I11 G10 A6 L) H := hP
    exact W.vret hx hb hr (fun t9 ht9 hW9 => ⟨⟨(I11, G10, A6, L), rfl, by cases h; rfl, by rw [ht9]; exact hP, va_K.moved hW9.alike hK⟩, hS.F ht9⟩) hS.2.2 dX6_endSolving_69
  · have h := ip c_3 h
    exact W.vret hx hb hr (fun t9 ht9 hW9 => ⟨⟨(I, G, A, L), rfl, by cases h; rfl, by rw [ht9]; exact hP, va_K.moved hW9.alike hK⟩, hS.F ht9⟩) hS.2.2 dX6_endSolving_11
set_option maxHeartbeats 4000000 in
set_option maxRecDepth 100000 in
theorem e_X6_fail (l : Launch) (D : va_G) (K : Nat → ClassId) (ad : Nat → Nat) (hap0 : apart ad (fun _ => True)) (a1 : Int32) (a2 : Int32) (I : Nat → Nat → Int32) (G : Nat → Nat → Nat) (A : Nat → Nat → Int32) (L : Nat → Nat → Int64) (r0 : Int32) (A0 : Nat → Nat → Int32) (h : f_X6_fail I A a1 a2 = some (r0, A0)) : Ci l D K ad yX6_fail wsX6_fail 1 25 [.ref (ad 0), .int a1, .int a2] (I, G, A, L) (fun (r : Int32) (u : Mem) => r = r0 ∧ u = (I, G, A0, L)) := by
  intro sz
  refine Met.ofW (cc := cX6_fail) (maxL := 3) (ret := (some .int)) (by decide) rfl ?_
  intro p e s m args below meth c s₁ Bd hml hv0
  obtain ⟨rfl, hsz, hP, hK⟩ := hv0
  have hx := Bd.exec
  have hb := Bd.bytes
  have hr := Bd.returns
  have hts := atoms_spec (ws := wsX6_fail) Bd.pre
  have hown : s.vm.findClass RX6 = some m.cls := findClass_of_methodNamed Bd.named
  have hlocks := Bd.notSynchronized
  have hi6 : ∀ w ∈ u_ws RX6 TX6 18, w ∈ wsX6_fail := fun w h => List.mem_cons_of_mem _ (List.mem_append_left _ (List.mem_append_right _ h))
  have hi4 : ∀ w ∈ u_ws RX4 TX4 7, w ∈ wsX6_fail := fun w h => List.mem_cons_of_mem _ (List.mem_append_right _ h)
  subst hsz
  have hap := vF_ap hap0 s.heap.size
  have hS : va_S (vF ad s.heap.size) s.heap s.heap [] := va_S.rf
  have hP : va_P D vwCl (VW K ad I G A L) s.heap := hP
  have hl := lv_entry ([.ref (ad 0), .int a1, .int a2]) (n := 3) (Nat.le_of_ble_eq_true rfl)
  rw [lg_entry_eq]
  generalize (lg_sl ([.ref (ad 0), .int a1, .int a2]) ++ List.replicate (3 - (lg_sl ([.ref (ad 0), .int a1, .int a2])).length) Slot.unset).toArray = ls at hl ⊢
  have hl : lv_has ls 3 [(0, .ref (ad 0)), (1, .int a1), (2, .int a2)] := hl
  rw [f_X6_fail] at h
  refine lv_iload_n hx hb dX6_fail_0 rfl (lv_at hl 1 rfl) ?_
  refine lv_iconst (v := 0) hx hb dX6_fail_1 (by decide) ?_
  refine lv_aload_n hx hb dX6_fail_2 rfl (lv_at hl 0 rfl) ?_
  refine vgC hx hb hts hi6 hown hK hP (0) (by decide) (show kd 0 = 6 by decide) (C := RX6) (T := TX6) (N := 18) rfl 2 (by decide) (by decide) (by decide) (by decide) (2) rfl (hts (.fieldLink RX6 22 "CrateHelpers" "team" "LCrateHelpers$Team;") (by decide +kernel)) (fun _ h9 => h9) dX6_fail_3 ?_
  refine vgI hx hb hts hi4 hown hK hP (2) (by decide) (show kd 2 = 4 by decide) (C := RX4) (T := TX4) (N := 7) rfl 0 (by decide) (by decide) (by decide) (by decide) (hts (.fieldLink RX6 158 "CrateHelpers$Team" "size" "I") (by decide +kernel)) (fun _ h9 => h9) dX6_fail_6 ?_
  refine lv_iconst (v := 1) hx hb dX6_fail_9 (by decide) ?_
  refine lv_isub hx hb dX6_fail_10 ?_
  obtain ⟨r1, hc2, h⟩ := Option.bind_eq_some_iff.mp h
  refine ecS (As := [.int a1, .int 0, .int ((I 2 0) - 1)]) (rest := []) ⟨hx, hb, hml, hown, hts⟩ (e_X6_isWithin l D K ad hap0 a1 0 ((I 2 0) - 1) I G A L r1 hc2) (va_cwS 3 hts gX6_fail_X6_isWithin rfl rfl rfl (by decide +kernel) ⟨Nat.le_of_ble_eq_true rfl, Nat.le_of_ble_eq_true rfl⟩) hK hP hS rfl hl.1 (Nat.le_of_ble_eq_true rfl) (Nat.le_of_ble_eq_true rfl) (Nat.le_of_ble_eq_true rfl) dX6_fail_11 (fun H locs hP hS => ?_) rfl
  have hP : va_P D vwCl (VW K ad I G A L) H := hP
  refine lv_if_eq (tgt := 28) hx hb dX6_fail_14 (by decide) (fun c_3 => ?_) (fun c_3 => ?_)
  · have h := ip c_3 h
    refine lv_iconst (v := (-1)) hx hb dX6_fail_28 (by decide) ?_
    exact W.iret (v := (-1)) hx hb hr (fun t9 ht9 hW9 => ⟨⟨(-1), (I, G, A, L), rfl, by cases h; exact ⟨rfl, rfl⟩, by rw [ht9]; exact hP, va_K.moved hW9.alike hK⟩, hS.F ht9⟩) hS.2.2 dX6_fail_29
  · have h := iN c_3 h
    refine lv_iload_n hx hb dX6_fail_17 rfl (lv_at hl 2 rfl) ?_
    refine lv_iconst (v := 0) hx hb dX6_fail_18 (by decide) ?_
    refine lv_sipush (v := 200) hx hb dX6_fail_19 (by decide) ?_
    obtain ⟨r4, hc5, h⟩ := Option.bind_eq_some_iff.mp h
    refine ecS (As := [.int a2, .int 0, .int 200]) (rest := []) ⟨hx, hb, hml, hown, hts⟩ (e_X6_isWithin l D K ad hap0 a2 0 200 I G A L r4 hc5) (va_cwS 3 hts gX6_fail_X6_isWithin rfl rfl rfl (by decide +kernel) ⟨Nat.le_of_ble_eq_true rfl, Nat.le_of_ble_eq_true rfl⟩) hK hP hS rfl hl.1 (Nat.le_of_ble_eq_true rfl) (Nat.le_of_ble_eq_true rfl) (Nat.le_of_ble_eq_true rfl) dX6_fail_22 (fun H locs hP hS => ?_) rfl
    have hP : va_P D vwCl (VW K ad I G A L) H := hP
    refine lv_if_ne (tgt := 30) hx hb dX6_fail_25 (by decide) (fun c_6 => ?_) (fun c_6 => ?_)
    · have h := iN c_6 h
      refine lv_aload_n hx hb dX6_fail_30 rfl (lv_at hl 0 rfl) ?_
      refine vgI hx hb hts hi6 hown hK hP (0) (by decide) (show kd 0 = 6 by decide) (C := RX6) (T := TX6) (N := 18) rfl 5 (by decide) (by decide) (by decide) (by decide) (hts (.fieldLink RX6 29 "CrateHelpers" "underWay" "I") (by decide +kernel)) (fun _ h9 => h9) dX6_fail_31 ?_
      refine lv_bipush (v := (-9)) hx hb dX6_fail_34 (by decide) ?_
      refine lv_icmp_eq (tgt := 42) hx hb dX6_fail_36 (by decide) (fun c_7 => ?_) (fun c_7 => ?_)
      · have h := ip c_7 h
        refine lv_aload_n hx hb dX6_fail_42 rfl (lv_at hl 0 rfl) ?_
        refine vgC hx hb hts hi6 hown hK hP (0) (by decide) (show kd 0 = 6 by decide) (C := RX6) (T := TX6) (N := 18) rfl 2 (by decide) (by decide) (by decide) (by decide) (2) rfl (hts (.fieldLink RX6 22 "CrateHelpers" "team" "LCrateHelpers$Team;") (by decide +kernel)) (fun _ h9 => h9) dX6_fail_43 ?_
        refine vgS hx hb hts hi4 hown hK hP (2) (by decide) (show kd 2 = 4 by decide) (C := RX4) (T := TX4) (N := 7) rfl 2 (by decide) (by decide) (by decide) (by decide) (3) rfl (hts (.fieldLink RX6 165 "CrateHelpers$Team" "failAt" "[I") (by decide +kernel)) (fun _ h9 => h9) dX6_fail_46 ?_
        refine lv_iload_n hx hb dX6_fail_49 rfl (lv_at hl 1 rfl) ?_
        refine lv_iload_n hx hb dX6_fail_50 rfl (lv_at hl 2 rfl) ?_
        obtain ⟨hn8, h⟩ := gk h
        refine xiast hx hb hK hP hap hS (3) (by decide) (show kd 3 = 8 by decide) (by rw [show ln 3 = 5 by decide]; exact hn8) dX6_fail_51 (fun H locs hP hS => ?_)
        obtain ⟨A9, eA9, h⟩ := bd_e h
        rw [← eA9] at hP
        have hP : va_P D vwCl (VW K ad I G A9 L) H := hP
        refine lv_iconst (v := 1) hx hb dX6_fail_52 (by decide) ?_
        exact W.iret (v := 1) hx hb hr (fun t9 ht9 hW9 => ⟨⟨1, (I, G, A9, L), rfl, by cases h; exact ⟨rfl, rfl⟩, by rw [ht9]; exact hP, va_K.moved hW9.alike hK⟩, hS.F ht9⟩) hS.2.2 dX6_fail_53
      · have h := iN c_7 h
        refine lv_bipush (v := (-2)) hx hb dX6_fail_39 (by decide) ?_
        exact W.iret (v := (-2)) hx hb hr (fun t9 ht9 hW9 => ⟨⟨(-2), (I, G, A, L), rfl, by cases h; exact ⟨rfl, rfl⟩, by rw [ht9]; exact hP, va_K.moved hW9.alike hK⟩, hS.F ht9⟩) hS.2.2 dX6_fail_41
    · have h := ip c_6 h
      refine lv_iconst (v := (-1)) hx hb dX6_fail_28 (by decide) ?_
      exact W.iret (v := (-1)) hx hb hr (fun t9 ht9 hW9 => ⟨⟨(-1), (I, G, A, L), rfl, by cases h; exact ⟨rfl, rfl⟩, by rw [ht9]; exact hP, va_K.moved hW9.alike hK⟩, hS.F ht9⟩) hS.2.2 dX6_fail_29
