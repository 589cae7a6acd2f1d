set_option maxHeartbeats 4000000 in
set_option maxRecDepth 100000 in
theorem e_X6_giveUp (l : Launch) (D : va_G) (K : Nat → ClassId) (ad : Nat → Nat) (hap0 : apart ad (fun _ => True)) (I : Nat → Nat → Int32) (G : Nat → Nat → Nat) (A : Nat → Nat → Int32) (L : Nat → Nat → Int64) (r0 : Int32) (I0 : Nat → Nat → Int32) (h : f_X6_giveUp I = some (r0, I0)) : Ci l D K ad yX6_giveUp wsX6_giveUp 0 0 [.ref (ad 0)] (I, G, A, L) (fun (r : Int32) (u : Mem) => r = r0 ∧ u = (I0, G, A, L)) := by
  intro sz
  refine Met.ofW (cc := cX6_giveUp) (maxL := 2) (ret := (some .int)) (by decide) rfl ?_
  intro p e s m args below meth c s₁ Bd hml hv0
  obtain ⟨rfl, hsz, hP, hK⟩ := hv0
  have hx := Bd.exec
  have hb := Bd.bytes
  have hr := Bd.returns
  have hts := atoms_spec (ws := wsX6_giveUp) Bd.pre
  have hown : s.vm.findClass RX6 = some m.cls := findClass_of_methodNamed Bd.named
  have hlocks := Bd.notSynchronized
  have hi6 : ∀ w ∈ u_ws RX6 TX6 18, w ∈ wsX6_giveUp := fun w h => List.mem_cons_of_mem _ (List.mem_append_right _ h)
  subst hsz
  have hap := vF_ap hap0 s.heap.size
  have hS : va_S (vF ad s.heap.size) s.heap s.heap [] := va_S.rf
  have hP : va_P D vwCl (VW K ad I G A L) s.heap := hP
  have hl := lv_entry ([.ref (ad 0)]) (n := 2) (Nat.le_of_ble_eq_true rfl)
  rw [lg_entry_eq]
  generalize (lg_sl ([.ref (ad 0)]) ++ List.replicate (2 - (lg_sl ([.ref (ad 0)])).length) Slot.unset).toArray = ls at hl ⊢
  have hl : lv_has ls 2 [(0, .ref (ad 0))] := hl
  rw [f_X6_giveUp] at h
  refine lv_aload_n hx hb dX6_giveUp_0 rfl (lv_at hl 0 rfl) ?_
  refine vgI hx hb hts hi6 hown hK hP (0) (by decide) (show kd 0 = 6 by decide) (C := RX6) (T := TX6) (N := 18) rfl 5 (by decide) (by decide) (by decide) (by decide) (hts (.fieldLink RX6 29 "CrateHelpers" "underWay" "I") (by decide +kernel)) (fun _ h9 => h9) dX6_giveUp_1 ?_
  refine lv_bipush (v := (-9)) hx hb dX6_giveUp_4 (by decide) ?_
  refine lv_icmp_ne (tgt := 12) hx hb dX6_giveUp_6 (by decide) (fun c_1 => ?_) (fun c_1 => ?_)
  · have h := iN c_1 h
    refine lv_aload_n hx hb dX6_giveUp_12 rfl (lv_at hl 0 rfl) ?_
    refine vgI hx hb hts hi6 hown hK hP (0) (by decide) (show kd 0 = 6 by decide) (C := RX6) (T := TX6) (N := 18) rfl 5 (by decide) (by decide) (by decide) (by decide) (hts (.fieldLink RX6 29 "CrateHelpers" "underWay" "I") (by decide +kernel)) (fun _ h9 => h9) dX6_giveUp_13 ?_
    refine lv_istore_n (lv' := [(1, .int (I 0 5)), (0, .ref (ad 0))]) hx hb dX6_giveUp_16 rfl hl (by decide) rfl (fun ls hl => ?_)
    refine lv_aload_n hx hb dX6_giveUp_17 rfl (lv_at hl 1 rfl) ?_
    refine lv_bipush (v := (-9)) hx hb dX6_giveUp_18 (by decide) ?_
    refine vpI (v := (-9)) (ty := .int) hx hb hts hi6 tyX6 tyX6_ok nmX6 hown hK hP hap hS (0) (by decide) (show kd 0 = 6 by decide) (C := RX6) (T := TX6) (N := 18) rfl 5 (by decide) (by decide) (by decide) (by decide) (hts (.fieldLink RX6 29 "CrateHelpers" "underWay" "I") (by decide +kernel)) (fun _ h9 => h9) rfl (by decide +kernel) rfl rfl dX6_giveUp_20 (fun H locs hP hS => ?_)
    obtain ⟨I2, eI2, h⟩ := bd_e h
    rw [← eI2] at hP
    have hP : va_P D vwCl (VW K ad I2 G A L) H := hP
    refine lv_iload_n hx hb dX6_giveUp_23 rfl (lv_at hl 0 rfl) ?_
    exact W.iret (v := (I 0 5)) hx hb hr (fun t9 ht9 hW9 => ⟨⟨(I 0 5), (I2, G, A, L), rfl, by cases h; exact ⟨rfl, rfl⟩, by rw [ht9]; exact hP, va_K.moved hW9.alike hK⟩, hS.F ht9⟩) hS.2.2 dX6_giveUp_24
  · have h := ip c_1 h
    refine lv_bipush (v := (-2)) hx hb dX6_giveUp_9 (by decide) ?_
    exact W.iret (v := (-2)) hx hb hr (fun t9 ht9 hW9 => ⟨⟨(-2), (I, G, A, L), rfl, by cases h; exact ⟨rfl, rfl⟩, by rw [ht9]; exact hP, va_K.moved hW9.alike hK⟩, hS.F ht9⟩) hS.2.2 dX6_giveUp_11
set_option maxHeartbeats 4000000 in
set_option maxRecDepth 100000 in
theorem e_X6_helper (l : Launch) (D : va_G) (K : Nat → ClassId) (ad : Nat → Nat) (hap0 : apart ad (fun _ => True)) (a1 : Int32) (a2 : Int32) (I : Nat → Nat → Int32) (G : Nat → Nat → Nat) (A : Nat → Nat → Int32) (L : Nat → Nat → Int64) (r0 : Int32) (h : f_X6_helper A a1 a2 = some r0) : Ci l D K ad yX6_helper wsX6_helper 1 25 [.ref (ad 0), .int a1, .int a2] (I, G, A, L) (fun (r : Int32) (u : Mem) => r = r0 ∧ u = (I, G, A, L)) := by
  intro sz
  refine Met.ofW (cc := cX6_helper) (maxL := 3) (ret := (some .int)) (by decide) rfl ?_
  intro p e s m args below meth c s₁ Bd hml hv0
  obtain ⟨rfl, hsz, hP, hK⟩ := hv0
  have hx := Bd.exec
  have hb := Bd.bytes
  have hr := Bd.returns
  have hts := atoms_spec (ws := wsX6_helper) Bd.pre
  have hown : s.vm.findClass RX6 = some m.cls := findClass_of_methodNamed Bd.named
  have hlocks := Bd.notSynchronized
  have hi6 : ∀ w ∈ u_ws RX6 TX6 18, w ∈ wsX6_helper := fun w h => List.mem_cons_of_mem _ (List.mem_append_left _ (List.mem_append_right _ h))
  have hi4 : ∀ w ∈ u_ws RX4 TX4 7, w ∈ wsX6_helper := fun w h => List.mem_cons_of_mem _ (List.mem_append_right _ h)
  subst hsz
  have hap := vF_ap hap0 s.heap.size
  have hS : va_S (vF ad s.heap.size) s.heap s.heap [] := va_S.rf
  have hP : va_P D vwCl (VW K ad I G A L) s.heap := hP
  have hl := lv_entry ([.ref (ad 0), .int a1, .int a2]) (n := 3) (Nat.le_of_ble_eq_true rfl)
  rw [lg_entry_eq]
  generalize (lg_sl ([.ref (ad 0), .int a1, .int a2]) ++ List.replicate (3 - (lg_sl ([.ref (ad 0), .int a1, .int a2])).length) Slot.unset).toArray = ls at hl ⊢
  have hl : lv_has ls 3 [(0, .ref (ad 0)), (1, .int a1), (2, .int a2)] := hl
  rw [f_X6_helper] at h
  refine lv_iload_n hx hb dX6_helper_0 rfl (lv_at hl 1 rfl) ?_
  refine lv_iconst (v := 0) hx hb dX6_helper_1 (by decide) ?_
  refine lv_iconst (v := 4) hx hb dX6_helper_2 (by decide) ?_
  obtain ⟨r1, hc2, h⟩ := Option.bind_eq_some_iff.mp h
  refine ecS (As := [.int a1, .int 0, .int 4]) (rest := []) ⟨hx, hb, hml, hown, hts⟩ (e_X6_isWithin l D K ad hap0 a1 0 4 I G A L r1 hc2) (va_cwS 3 hts gX6_helper_X6_isWithin rfl rfl rfl (by decide +kernel) ⟨Nat.le_of_ble_eq_true rfl, Nat.le_of_ble_eq_true rfl⟩) hK hP hS rfl hl.1 (Nat.le_of_ble_eq_true rfl) (Nat.le_of_ble_eq_true rfl) (Nat.le_of_ble_eq_true rfl) dX6_helper_3 (fun H locs hP hS => ?_) rfl
  have hP : va_P D vwCl (VW K ad I G A L) H := hP
  refine lv_if_ne (tgt := 11) hx hb dX6_helper_6 (by decide) (fun c_3 => ?_) (fun c_3 => ?_)
  · have h := iN c_3 h
    refine lv_iload_n hx hb dX6_helper_11 rfl (lv_at hl 2 rfl) ?_
    rcases sw_2 a2 with hs4 | hs4 | hs4 | hs4
    · have h := ip hs4 h
      refine W_top hs4 ?_
      refine lv_tableIn (off := 28) (tgt := 40) hx hb dX6_helper_12 (by decide) (by decide) (by decide) (by decide) ?_
      refine lv_aload_n hx hb dX6_helper_40 rfl (lv_at hl 0 rfl) ?_
      refine vgC hx hb hts hi6 hown hK hP (0) (by decide) (show kd 0 = 6 by decide) (C := RX6) (T := TX6) (N := 18) rfl 2 (by decide) (by decide) (by decide) (by decide) (2) rfl (hts (.fieldLink RX6 22 "CrateHelpers" "team" "LCrateHelpers$Team;") (by decide +kernel)) (fun _ h9 => h9) dX6_helper_41 ?_
      refine vgS hx hb hts hi4 hown hK hP (2) (by decide) (show kd 2 = 4 by decide) (C := RX4) (T := TX4) (N := 7) rfl 4 (by decide) (by decide) (by decide) (by decide) (5) rfl (hts (.fieldLink RX6 223 "CrateHelpers$Team" "done" "[I") (by decide +kernel)) (fun _ h9 => h9) dX6_helper_44 ?_
      refine lv_iload_n hx hb dX6_helper_47 rfl (lv_at hl 1 rfl) ?_
      obtain ⟨hn5, h⟩ := gk h
      refine xiald hx hb hK hP (5) (by decide) (show kd 5 = 8 by decide) (by rw [show ln 5 = 5 by decide]; exact hn5) dX6_helper_48 ?_
      exact W.iret (v := (A 5 a1.toNatClampNeg)) hx hb hr (fun t9 ht9 hW9 => ⟨⟨(A 5 a1.toNatClampNeg), (I, G, A, L), rfl, by cases h; exact ⟨rfl, rfl⟩, by rw [ht9]; exact hP, va_K.moved hW9.alike hK⟩, hS.F ht9⟩) hS.2.2 dX6_helper_49
    · have h := iN (by rw [hs4]; decide) h
      have h := ip hs4 h
      refine W_top hs4 ?_
      refine lv_tableIn (off := 38) (tgt := 50) hx hb dX6_helper_12 (by decide) (by decide) (by decide) (by decide) ?_
      refine lv_aload_n hx hb dX6_helper_50 rfl (lv_at hl 0 rfl) ?_
      refine vgC hx hb hts hi6 hown hK hP (0) (by decide) (show kd 0 = 6 by decide) (C := RX6) (T := TX6) (N := 18) rfl 2 (by decide) (by decide) (by decide) (by decide) (2) rfl (hts (.fieldLink RX6 22 "CrateHelpers" "team" "LCrateHelpers$Team;") (by decide +kernel)) (fun _ h9 => h9) dX6_helper_51 ?_
      refine vgS hx hb hts hi4 hown hK hP (2) (by decide) (show kd 2 = 4 by decide) (C := RX4) (T := TX4) (N := 7) rfl 5 (by decide) (by decide) (by decide) (by decide) (6) rfl (hts (.fieldLink RX6 226 "CrateHelpers$Team" "idle" "[I") (by decide +kernel)) (fun _ h9 => h9) dX6_helper_54 ?_
      refine lv_iload_n hx hb dX6_helper_57 rfl (lv_at hl 1 rfl) ?_
      obtain ⟨hn6, h⟩ := gk h
      refine xiald hx hb hK hP (6) (by decide) (show kd 6 = 8 by decide) (by rw [show ln 6 = 5 by decide]; exact hn6) dX6_helper_58 ?_
      exact W.iret (v := (A 6 a1.toNatClampNeg)) hx hb hr (fun t9 ht9 hW9 => ⟨⟨(A 6 a1.toNatClampNeg), (I, G, A, L), rfl, by cases h; exact ⟨rfl, rfl⟩, by rw [ht9]; exact hP, va_K.moved hW9.alike hK⟩, hS.F ht9⟩) hS.2.2 dX6_helper_59
    · have h := iN (by rw [hs4]; decide) h
      have h := iN (by rw [hs4]; decide) h
      have h := ip hs4 h
      refine W_top hs4 ?_
      refine lv_tableIn (off := 48) (tgt := 60) hx hb dX6_helper_12 (by decide) (by decide) (by decide) (by decide) ?_
      refine lv_aload_n hx hb dX6_helper_60 rfl (lv_at hl 0 rfl) ?_
      refine vgC hx hb hts hi6 hown hK hP (0) (by decide) (show kd 0 = 6 by decide) (C := RX6) (T := TX6) (N := 18) rfl 2 (by decide) (by decide) (by decide) (by decide) (2) rfl (hts (.fieldLink RX6 22 "CrateHelpers" "team" "LCrateHelpers$Team;") (by decide +kernel)) (fun _ h9 => h9) dX6_helper_61 ?_
      refine vgS hx hb hts hi4 hown hK hP (2) (by decide) (show kd 2 = 4 by decide) (C := RX4) (T := TX4) (N := 7) rfl 6 (by decide) (by decide) (by decide) (by decide) (7) rfl (hts (.fieldLink RX6 229 "CrateHelpers$Team" "replaced" "[I") (by decide +kernel)) (fun _ h9 => h9) dX6_helper_64 ?_
      refine lv_iload_n hx hb dX6_helper_67 rfl (lv_at hl 1 rfl) ?_
      obtain ⟨hn7, h⟩ := gk h
      refine xiald hx hb hK hP (7) (by decide) (show kd 7 = 8 by decide) (by rw [show ln 7 = 5 by decide]; exact hn7) dX6_helper_68 ?_
      exact W.iret (v := (A 7 a1.toNatClampNeg)) hx hb hr (fun t9 ht9 hW9 => ⟨⟨(A 7 a1.toNatClampNeg), (I, G, A, L), rfl, by cases h; exact ⟨rfl, rfl⟩, by rw [ht9]; exact hP, va_K.moved hW9.alike hK⟩, hS.F ht9⟩) hS.2.2 dX6_helper_69
    · have h := iN (fun q => by rw [q] at hs4; exact absurd hs4 (by decide)) h
      have h := iN (fun q => by rw [q] at hs4; exact absurd hs4 (by decide)) h
      have h := iN (fun q => by rw [q] at hs4; exact absurd hs4 (by decide)) h
      refine lv_tableOut (tgt := 70) hx hb dX6_helper_12 hs4 (by decide) ?_
      refine lv_iconst (v := (-1)) hx hb dX6_helper_70 (by decide) ?_
      exact W.iret (v := (-1)) hx hb hr (fun t9 ht9 hW9 => ⟨⟨(-1), (I, G, A, L), rfl, by cases h; exact ⟨rfl, rfl⟩, by rw [ht9]; exact hP, va_K.moved hW9.alike hK⟩, hS.F ht9⟩) hS.2.2 dX6_helper_71
  · have h := ip c_3 h
    refine lv_iconst (v := (-1)) hx hb dX6_helper_9 (by decide) ?_
    exact W.iret (v := (-1)) hx hb hr (fun t9 ht9 hW9 => ⟨⟨(-1), (I, G, A, L), rfl, by cases h; exact ⟨rfl, rfl⟩, by rw [ht9]; exact hP, va_K.moved hW9.alike hK⟩, hS.F ht9⟩) hS.2.2 dX6_helper_10
set_option maxHeartbeats 4000000 in
set_option maxRecDepth 100000 in
theorem e_X4_become (l : Launch) (D : va_G) (K : Nat → ClassId) (ad : Nat → Nat) (hap0 : apart ad (fun _ => True)) (o : Nat) (a1 : Int32) (I : Nat → Nat → Int32) (G : Nat → Nat → Nat) (A : Nat → Nat → Int32) (L : Nat → Nat → Int64) (I0 : Nat → Nat → Int32) (A0 : Nat → Nat → Int32) (h : f_X4_become I A o a1 = some (I0, A0)) : Cv l D K ad yX4_become wsX4_become 1 26 [.ref (ad o), .int a1] (I, G, A, L) (fun (u : Mem) => u = (I0, G, A0, L)) := by
  intro sz
  refine Met.ofW (cc := cX4_become) (maxL := 2) (ret := none) (by decide) rfl ?_
  intro p e s m args below meth c s₁ Bd hml hv0
  obtain ⟨rfl, hsz, hP, hK⟩ := hv0
  have hx := Bd.exec
  have hb := Bd.bytes
  have hr := Bd.returns
  have hts := atoms_spec (ws := wsX4_become) Bd.pre
  have hown : s.vm.findClass RX4 = some m.cls := findClass_of_methodNamed Bd.named
  have hlocks := Bd.notSynchronized
  have hi4 : ∀ w ∈ u_ws RX4 TX4 7, w ∈ wsX4_become := fun w h => List.mem_cons_of_mem _ (List.mem_append_right _ h)
  subst hsz
  have hap := vF_ap hap0 s.heap.size
  have hS : va_S (vF ad s.heap.size) s.heap s.heap [] := va_S.rf
  have hP : va_P D vwCl (VW K ad I G A L) s.heap := hP
  have hl := lv_entry ([.ref (ad o), .int a1]) (n := 2) (Nat.le_of_ble_eq_true rfl)
  rw [lg_entry_eq]
  generalize (lg_sl ([.ref (ad o), .int a1]) ++ List.replicate (2 - (lg_sl ([.ref (ad o), .int a1])).length) Slot.unset).toArray = ls at hl ⊢
  have hl : lv_has ls 2 [(0, .ref (ad o)), (1, .int a1)] := hl
  rw [f_X4_become] at h
  refine lv_aload_n hx hb dX4_become_0 rfl (lv_at hl 0 rfl) ?_
  refine lv_iload_n hx hb dX4_become_1 rfl (lv_at hl 1 rfl) ?_
  obtain ⟨hk1, h⟩ := gk h
  refine vpI (v := a1) (ty := .int) hx hb hts hi4 tyX4 tyX4_ok nmX4 hown hK hP hap hS (o) (s318 hk1.1) hk1.2 (C := RX4) (T := TX4) (N := 7) rfl 0 (by decide) (by decide) (by decide) (by decide) (hts (.fieldLink RX4 9 "CrateHelpers$Team" "size" "I") (by decide +kernel)) (fun _ h9 => h9) rfl (by decide +kernel) rfl rfl dX4_become_2 (fun H locs hP hS => ?_)
  obtain ⟨I2, eI2, h⟩ := bd_e h
  rw [← eI2] at hP
  have hP : va_P D vwCl (VW K ad I2 G A L) H := hP
  refine lv_aload_n hx hb dX4_become_5 rfl (lv_at hl 0 rfl) ?_
  refine vgS hx hb hts hi4 hown hK hP (o) (s318 hk1.1) hk1.2 (C := RX4) (T := TX4) (N := 7) rfl 2 (by decide) (by decide) (by decide) (by decide) (o + 1) rfl (hts (.fieldLink RX4 18 "CrateHelpers$Team" "failAt" "[I") (by decide +kernel)) (fun _ h9 => h9) dX4_become_6 ?_
  refine lv_iconst (v := 0) hx hb dX4_become_9 (by decide) ?_
  obtain ⟨A3, hc4, h⟩ := Option.bind_eq_some_iff.mp h
  refine ecSv (As := [.ref (ad (o + 1)), .int 0]) (rest := []) ⟨hx, hb, hml, hown, hts⟩ (e_J7_fill_53178 l D K ad hap0 (o + 1) 0 I2 G A L A3 hc4) (va_cwS 2 hts gX4_become_J7_fill_53178 rfl rfl rfl (by decide +kernel) ⟨Nat.le_of_ble_eq_true rfl, Nat.le_of_ble_eq_true rfl⟩) hK hP hS rfl hl.1 (Nat.le_of_ble_eq_true rfl) (Nat.le_of_ble_eq_true rfl) (Nat.le_of_ble_eq_true rfl) dX4_become_10 (fun H locs hP hS => ?_) rfl
  have hP : va_P D vwCl (VW K ad I2 G A3 L) H := hP
  exact W.vret hx hb hr (fun t9 ht9 hW9 => ⟨⟨(I2, G, A3, L), rfl, by cases h; rfl, by rw [ht9]; exact hP, va_K.moved hW9.alike hK⟩, hS.F ht9⟩) hS.2.2 dX4_become_13
set_option maxHeartbeats 4000000 in
set_option maxRecDepth 100000 in
theorem e_X6_helpers (l : Launch) (D : va_G) (K : Nat → ClassId) (ad : Nat → Nat) (hap0 : apart ad (fun _ => True)) (a1 : Int32) (I : Nat → Nat → Int32) (G : Nat → Nat → Nat) (A : Nat → Nat → Int32) (L : Nat → Nat → Int64) (r0 : Int32) (I0 : Nat → Nat → Int32) (A0 : Nat → Nat → Int32) (h : f_X6_helpers I A a1 = some (r0, I0, A0)) : Ci l D K ad yX6_helpers wsX6_helpers 2 50 [.ref (ad 0), .int a1] (I, G, A, L) (fun (r : Int32) (u : Mem) => r = r0 ∧ u = (I0, G, A0, L)) := by
  intro sz
  refine Met.ofW (cc := cX6_helpers) (maxL := 3) (ret := (some .int)) (by decide) rfl ?_
  intro p e s m args below meth c s₁ Bd hml hv0
  obtain ⟨rfl, hsz, hP, hK⟩ := hv0
  have hx := Bd.exec
  have hb := Bd.bytes
  have hr := Bd.returns
  have hts := atoms_spec (ws := wsX6_helpers) Bd.pre
  have hown : s.vm.findClass RX6 = some m.cls := findClass_of_methodNamed Bd.named
  have hlocks := Bd.notSynchronized
  have hi6 : ∀ w ∈ u_ws RX6 TX6 18, w ∈ wsX6_helpers := fun w h => List.mem_cons_of_mem _ (List.mem_append_left _ (List.mem_append_right _ h))
  have hi4 : ∀ w ∈ u_ws RX4 TX4 7, w ∈ wsX6_helpers := fun w h => List.mem_cons_of_mem _ (List.mem_append_right _ h)
  subst hsz
  have hap := vF_ap hap0 s.heap.size
  have hS : va_S (vF ad s.heap.size) s.heap s.heap [] := va_S.rf
  have hP : va_P D vwCl (VW K ad I G A L) s.heap := hP
  have hl := lv_entry ([.ref (ad 0), .int a1]) (n := 3) (Nat.le_of_ble_eq_true rfl)
  rw [lg_entry_eq]
  generalize (lg_sl ([.ref (ad 0), .int a1]) ++ List.replicate (3 - (lg_sl ([.ref (ad 0), .int a1])).length) Slot.unset).toArray = ls at hl ⊢
  have hl : lv_has ls 3 [(0, .ref (ad 0)), (1, .int a1)] := hl
  rw [f_X6_helpers] at h
  refine lv_iload_n hx hb dX6_helpers_0 rfl (lv_at hl 1 rfl) ?_
  refine lv_iconst (v := 1) hx hb dX6_helpers_1 (by decide) ?_
  refine lv_iconst (v := 5) hx hb dX6_helpers_2 (by decide) ?_
  obtain ⟨r1, hc2, h⟩ := Option.bind_eq_some_iff.mp h
  refine ecS (As := [.int a1, .int 1, .int 5]) (rest := []) ⟨hx, hb, hml, hown, hts⟩ (e_X6_isWithin l D K ad hap0 a1 1 5 I G A L r1 hc2) (va_cwS 3 hts gX6_helpers_X6_isWithin rfl rfl rfl (by decide +kernel) ⟨Nat.le_of_ble_eq_true rfl, Nat.le_of_ble_eq_true rfl⟩) hK hP hS rfl hl.1 (Nat.le_of_ble_eq_true rfl) (Nat.le_of_ble_eq_true rfl) (Nat.le_of_ble_eq_true rfl) dX6_helpers_3 (fun H locs hP hS => ?_) rfl
  have hP : va_P D vwCl (VW K ad I G A L) H := hP
  refine lv_if_ne (tgt := 11) hx hb dX6_helpers_6 (by decide) (fun c_3 => ?_) (fun c_3 => ?_)
  · have h := iN c_3 h
    refine lv_aload_n hx hb dX6_helpers_11 rfl (lv_at hl 0 rfl) ?_
    refine vgI hx hb hts hi6 hown hK hP (0) (by decide) (show kd 0 = 6 by decide) (C := RX6) (T := TX6) (N := 18) rfl 5 (by decide) (by decide) (by decide) (by decide) (hts (.fieldLink RX6 29 "CrateHelpers" "underWay" "I") (by decide +kernel)) (fun _ h9 => h9) dX6_helpers_12 ?_
    refine lv_bipush (v := (-9)) hx hb dX6_helpers_15 (by decide) ?_
    refine lv_icmp_eq (tgt := 23) hx hb dX6_helpers_17 (by decide) (fun c_4 => ?_) (fun c_4 => ?_)
    · have h := ip c_4 h
      refine lv_aload_n hx hb dX6_helpers_23 rfl (lv_at hl 0 rfl) ?_
      refine vgC hx hb hts hi6 hown hK hP (0) (by decide) (show kd 0 = 6 by decide) (C := RX6) (T := TX6) (N := 18) rfl 2 (by decide) (by decide) (by decide) (by decide) (2) rfl (hts (.fieldLink RX6 22 "CrateHelpers" "team" "LCrateHelpers$Team;") (by decide +kernel)) (fun _ h9 => h9) dX6_helpers_24 ?_
      refine vgI hx hb hts hi4 hown hK hP (2) (by decide) (show kd 2 = 4 by decide) (C := RX4) (T := TX4) (N := 7) rfl 0 (by decide) (by decide) (by decide) (by decide) (hts (.fieldLink RX6 158 "CrateHelpers$Team" "size" "I") (by decide +kernel)) (fun _ h9 => h9) dX6_helpers_27 ?_
      refine lv_istore_n (lv' := [(2, .int (I 2 0)), (0, .ref (ad 0)), (1, .int a1)]) hx hb dX6_helpers_30 rfl hl (by decide) rfl (fun ls hl => ?_)
      refine lv_aload_n hx hb dX6_helpers_31 rfl (lv_at hl 1 rfl) ?_
      refine vgC hx hb hts hi6 hown hK hP (0) (by decide) (show kd 0 = 6 by decide) (C := RX6) (T := TX6) (N := 18) rfl 2 (by decide) (by decide) (by decide) (by decide) (2) rfl (hts (.fieldLink RX6 22 "CrateHelpers" "team" "LCrateHelpers$Team;") (by decide +kernel)) (fun _ h9 => h9) dX6_helpers_32 ?_
      refine lv_iload_n hx hb dX6_helpers_35 rfl (lv_at hl 2 rfl) ?_
      obtain ⟨⟨I5, A6⟩, hc7, h⟩ := Option.bind_eq_some_iff.mp h
      refine ecVv (As := [.int a1]) (rest := []) ⟨hx, hb, hml, hown, hts⟩ (e_X4_become l D K ad hap0 2 a1 I G A L I5 A6 hc7) (cwV 1 hts gX6_helpers_X4_become rfl rfl rfl (by decide +kernel) ⟨Nat.le_of_ble_eq_true rfl, Nat.le_of_ble_eq_true rfl⟩) hK hP hS (by decide) (show kd 2 = 4 by decide) (by decide) rfl rfl rfl hl.1 (Nat.le_of_ble_eq_true rfl) (Nat.le_of_ble_eq_true rfl) (Nat.le_of_ble_eq_true rfl) dX6_helpers_36 (fun H locs hP hS => ?_) rfl
      have hP : va_P D vwCl (VW K ad I5 G A6 L) H := hP
      refine lv_iload_n hx hb dX6_helpers_39 rfl (lv_at hl 0 rfl) ?_
      exact W.iret (v := (I 2 0)) hx hb hr (fun t9 ht9 hW9 => ⟨⟨(I 2 0), (I5, G, A6, L), rfl, by cases h; exact ⟨rfl, rfl⟩, by rw [ht9]; exact hP, va_K.moved hW9.alike hK⟩, hS.F ht9⟩) hS.2.2 dX6_helpers_40
    · have h := iN c_4 h
      refine lv_bipush (v := (-2)) hx hb dX6_helpers_20 (by decide) ?_
      exact W.iret (v := (-2)) hx hb hr (fun t9 ht9 hW9 => ⟨⟨(-2), (I, G, A, L), rfl, by cases h; exact ⟨rfl, rfl⟩, by rw [ht9]; exact hP, va_K.moved hW9.alike hK⟩, hS.F ht9⟩) hS.2.2 dX6_helpers_22
  · have h := ip c_3 h
    refine lv_iconst (v := (-1)) hx hb dX6_helpers_9 (by decide) ?_
    exact W.iret (v := (-1)) hx hb hr (fun t9 ht9 hW9 => ⟨⟨(-1), (I, G, A, L), rfl, by cases h; exact ⟨rfl, rfl⟩, by rw [ht9]; exact hP, va_K.moved hW9.alike hK⟩, hS.F ht9⟩) hS.2.2 dX6_helpers_10
set_option maxHeartbeats 4000000 in
set_option maxRecDepth 100000 in
theorem e_X6_isRuleNumber (l : Launch) (D : va_G) (K : Nat → ClassId) (ad : Nat → Nat) (hap0 : apart ad (fun _ => True)) (a0 : Int32) (I : Nat → Nat → Int32) (G : Nat → Nat → Nat) (A : Nat → Nat → Int32) (L : Nat → Nat → Int64) (r0 : Int32) (h : f_X6_isRuleNumber a0 = some r0) : Ci l D K ad yX6_isRuleNumber wsX6_isRuleNumber 1 25 [.int a0] (I, G, A, L) (fun (r : Int32) (u : Mem) => r = r0 ∧ u = (I, G, A, L)) := by
  intro sz
  refine Met.ofW (cc := cX6_isRuleNumber) (maxL := 1) (ret := (some .boolean)) (by decide) rfl ?_
  intro p e s m args below meth c s₁ Bd hml hv0
  obtain ⟨rfl, hsz, hP, hK⟩ := hv0
  have hx := Bd.exec
  have hb := Bd.bytes
  have hr := Bd.returns
  have hts := atoms_spec (ws := wsX6_isRuleNumber) Bd.pre
  have hown : s.vm.findClass RX6 = some m.cls := findClass_of_methodNamed Bd.named
  have hlocks := Bd.notSynchronized
  subst hsz
  have hap := vF_ap hap0 s.heap.size
  have hS : va_S (vF ad s.heap.size) s.heap s.heap [] := va_S.rf
  have hP : va_P D vwCl (VW K ad I G A L) s.heap := hP
  have hl := lv_entry ([.int a0]) (n := 1) (Nat.le_of_ble_eq_true rfl)
  rw [lg_entry_eq]
  generalize (lg_sl ([.int a0]) ++ List.replicate (1 - (lg_sl ([.int a0])).length) Slot.unset).toArray = ls at hl ⊢
  have hl : lv_has ls 1 [(0, .int a0)] := hl
  rw [f_X6_isRuleNumber] at h
  refine lv_iload_n hx hb dX6_isRuleNumber_0 rfl (lv_at hl 0 rfl) ?_
  refine lv_sipush (v := (-1000)) hx hb dX6_isRuleNumber_1 (by decide) ?_
  refine lv_sipush (v := 1000) hx hb dX6_isRuleNumber_4 (by decide) ?_
  obtain ⟨r1, hc2, h⟩ := Option.bind_eq_some_iff.mp h
  refine ecS (As := [.int a0, .int (-1000), .int 1000]) (rest := []) ⟨hx, hb, hml, hown, hts⟩ (e_X6_isWithin l D K ad hap0 a0 (-1000) 1000 I G A L r1 hc2) (va_cwS 3 hts gX6_isRuleNumber_X6_isWithin rfl rfl rfl (by decide +kernel) ⟨Nat.le_of_ble_eq_true rfl, Nat.le_of_ble_eq_true rfl⟩) hK hP hS rfl hl.1 (Nat.le_of_ble_eq_true rfl) (Nat.le_of_ble_eq_true rfl) (Nat.le_of_ble_eq_true rfl) dX6_isRuleNumber_7 (fun H locs hP hS => ?_) rfl
  have hP : va_P D vwCl (VW K ad I G A L) H := hP
  obtain ⟨hz3, h⟩ := gk h
  exact W.zret (v := r1) hx hb hr (nar01 hz3) (fun t9 ht9 hW9 => ⟨⟨r1, (I, G, A, L), rfl, by cases h; exact ⟨rfl, rfl⟩, by rw [ht9]; exact hP, va_K.moved hW9.alike hK⟩, hS.F ht9⟩) hS.2.2 dX6_isRuleNumber_10
set_option maxHeartbeats 4000000 in
set_option maxRecDepth 100000 in
theorem e_X6_isSameOutcome (l : Launch) (D : va_G) (K : Nat → ClassId) (ad : Nat → Nat) (hap0 : apart ad (fun _ => True)) (I : Nat → Nat → Int32) (G : Nat → Nat → Nat) (A : Nat → Nat → Int32) (L : Nat → Nat → Int64) (r0 : Int32) (h : f_X6_isSameOutcome A = some r0) : Ci l D K ad yX6_isSameOutcome wsX6_isSameOutcome 0 0 [.ref (ad 0)] (I, G, A, L) (fun (r : Int32) (u : Mem) => r = r0 ∧ u = (I, G, A, L)) := by
  intro sz
  refine Met.ofW (cc := cX6_isSameOutcome) (maxL := 4) (ret := (some .boolean)) (by decide) rfl ?_
  intro p e s m args below meth c s₁ Bd hml hv0
  obtain ⟨rfl, hsz, hP, hK⟩ := hv0
  have hx := Bd.exec
  have hb := Bd.bytes
  have hr := Bd.returns
  have hts := atoms_spec (ws := wsX6_isSameOutcome) Bd.pre
  have hown : s.vm.findClass RX6 = some m.cls := findClass_of_methodNamed Bd.named
  have hlocks := Bd.notSynchronized
  have hi6 : ∀ w ∈ u_ws RX6 TX6 18, w ∈ wsX6_isSameOutcome := fun w h => List.mem_cons_of_mem _ (List.mem_append_right _ h)
  subst hsz
  have hap := vF_ap hap0 s.heap.size
  have hS : va_S (vF ad s.heap.size) s.heap s.heap [] := va_S.rf
  have hP : va_P D vwCl (VW K ad I G A L) s.heap := hP
  have hl := lv_entry ([.ref (ad 0)]) (n := 4) (Nat.le_of_ble_eq_true rfl)
  rw [lg_entry_eq]
  generalize (lg_sl ([.ref (ad 0)]) ++ List.replicate (4 - (lg_sl ([.ref (ad 0)])).length) Slot.unset).toArray = ls at hl ⊢
  have hl : lv_has ls 4 [(0, .ref (ad 0))] := hl
  rw [f_X6_isSameOutcome] at h
  refine lv_iconst (v := 1) hx hb dX6_isSameOutcome_0 (by decide) ?_
  refine lv_istore_n (lv' := [(1, .int 1), (0, .ref (ad 0))]) hx hb dX6_isSameOutcome_1 rfl hl (by decide) rfl (fun ls hl => ?_)
  refine lv_iconst (v := 0) hx hb dX6_isSameOutcome_2 (by decide) ?_
  refine lv_istore_n (lv' := [(2, .int 0), (1, .int 1), (0, .ref (ad 0))]) hx hb dX6_isSameOutcome_3 rfl hl (by decide) rfl (fun ls hl => ?_)
  obtain ⟨k4, ek4, h⟩ := bd_e h
  have kk4 : ∀ (v5 : Int32), k4 v5 = some r0 → ∀ (H : Heap) (locs : List Loc), va_P D vwCl (VW K ad I G A L) H → va_S (vF ad s.heap.size) s.heap H locs → ∀ (ls : Array Slot), lv_has ls 4 [(1, .int v5)] → W p l e ({ frames := 0, cells := 0, slots := 0, locals := 0 }) s m ([.ref (ad 0)] : List Value).toArray below meth c H locs 0 0 (MQ below (va_Qi (fun (r : Int32) (u : Mem) => r = r0 ∧ u = (I, G, A, L)) (vB D K ad) (vF ad s.heap.size)) ([.ref (ad 0)] : List Value).toArray s 0 0 (vF ad s.heap.size)) (F0 m 61 ls []) := by
    intro v5 h H locs hP hS ls hl
    subst ek4
    refine lv_iload_n hx hb dX6_isSameOutcome_61 rfl (lv_at hl 0 rfl) ?_
    obtain ⟨hz6, h⟩ := gk h
    exact W.zret (v := v5) hx hb hr (nar01 hz6) (fun t9 ht9 hW9 => ⟨⟨v5, (I, G, A, L), rfl, by cases h; exact ⟨rfl, rfl⟩, by rw [ht9]; exact hP, va_K.moved hW9.alike hK⟩, hS.F ht9⟩) hS.2.2 dX6_isSameOutcome_62
  have lp1 : ∀ (n : Nat) (v2 : Int32) (v3 : Int32), f_X6_isSameOutcome_L4 A k4 n v2 v3 = some r0 → ∀ (H : Heap) (locs : List Loc), va_P D vwCl (VW K ad I G A L) H → va_S (vF ad s.heap.size) s.heap H locs → ∀ (ls : Array Slot), lv_has ls 4 [(2, .int v2), (1, .int v3), (0, .ref (ad 0))] → W p l e ({ frames := 0, cells := 0, slots := 0, locals := 0 }) s m ([.ref (ad 0)] : List Value).toArray below meth c H locs 0 0 (MQ below (va_Qi (fun (r : Int32) (u : Mem) => r = r0 ∧ u = (I, G, A, L)) (vB D K ad) (vF ad s.heap.size)) ([.ref (ad 0)] : List Value).toArray s 0 0 (vF ad s.heap.size)) (F0 m 4 ls []) := by
    intro n
    induction n with
    | zero => intro v2 v3 h; exact absurd h (by rw [f_X6_isSameOutcome_L4]; exact nofun)
    | succ n ih1 =>
      intro v2 v3 h H locs hP hS ls hl
      rw [f_X6_isSameOutcome_L4] at h
      refine lv_iload_n hx hb dX6_isSameOutcome_4 rfl (lv_at hl 0 rfl) ?_
      refine lv_bipush (v := 12) hx hb dX6_isSameOutcome_5 (by decide) ?_
      refine lv_icmp_ge (tgt := 61) hx hb dX6_isSameOutcome_7 (by decide) (fun c_7 => ?_) (fun c_7 => ?_)
      · have h := iN (Int32.not_lt.mpr c_7) h
        exact kk4 v3 h _ _ hP hS ls (lv_sub hl [1] rfl)
      · have h := ip (Int32.not_le.mp c_7) h
        refine lv_iload_n hx hb dX6_isSameOutcome_10 rfl (lv_at hl 0 rfl) ?_
        refine lv_iconst (v := 2) hx hb dX6_isSameOutcome_11 (by decide) ?_
        obtain ⟨j10, ej10, h⟩ := bd_e h
        have kj10 : ∀ (z9 : Int32), j10 z9 = some r0 → ∀ (H : Heap) (locs : List Loc), va_P D vwCl (VW K ad I G A L) H → va_S (vF ad s.heap.size) s.heap H locs → ∀ (ls : Array Slot), lv_has ls 4 [(2, .int v2), (1, .int v3), (0, .ref (ad 0))] → W p l e ({ frames := 0, cells := 0, slots := 0, locals := 0 }) s m ([.ref (ad 0)] : List Value).toArray below meth c H locs 0 0 (MQ below (va_Qi (fun (r : Int32) (u : Mem) => r = r0 ∧ u = (I, G, A, L)) (vB D K ad) (vF ad s.heap.size)) ([.ref (ad 0)] : List Value).toArray s 0 0 (vF ad s.heap.size)) (F0 m 25 ls [.int z9]) := by
          intro z9 h H locs hP hS ls hl
          subst ej10
          refine lv_istore_n (lv' := [(3, .int z9), (2, .int v2), (1, .int v3), (0, .ref (ad 0))]) hx hb dX6_isSameOutcome_25 rfl hl (by decide) rfl (fun ls hl => ?_)
          refine lv_iload_n hx hb dX6_isSameOutcome_26 rfl (lv_at hl 2 rfl) ?_
          refine lv_if_eq (tgt := 53) hx hb dX6_isSameOutcome_27 (by decide) (fun c_11 => ?_) (fun c_11 => ?_)
          · have h := ip c_11 h
            refine lv_iconst (v := 0) hx hb dX6_isSameOutcome_53 (by decide) ?_
            refine lv_istore_n (lv' := [(1, .int 0), (3, .int z9), (2, .int v2), (0, .ref (ad 0))]) hx hb dX6_isSameOutcome_54 rfl hl (by decide) rfl (fun ls hl => ?_)
            refine lv_iinc (v := (v2 + 1)) (lv' := [(2, .int (v2 + 1)), (1, .int 0), (3, .int z9), (0, .ref (ad 0))]) hx hb dX6_isSameOutcome_55 hl (k := 2) rfl rfl (by decide) rfl (fun ls hl => ?_)
            refine lv_goto (tgt := 4) hx hb dX6_isSameOutcome_58 (by decide) ?_
            exact ih1 (v2 + 1) 0 h _ _ hP hS ls (lv_sub hl [0, 1, 3] rfl)
          · have h := iN c_11 h
            refine lv_iload_n hx hb dX6_isSameOutcome_30 rfl (lv_at hl 0 rfl) ?_
            refine lv_if_ne (tgt := 49) hx hb dX6_isSameOutcome_31 (by decide) (fun c_12 => ?_) (fun c_12 => ?_)
            · have h := iN c_12 h
              refine lv_iconst (v := 1) hx hb dX6_isSameOutcome_49 (by decide) ?_
              refine lv_goto (tgt := 54) hx hb dX6_isSameOutcome_50 (by decide) ?_
              refine lv_istore_n (lv' := [(1, .int 1), (3, .int z9), (2, .int v2), (0, .ref (ad 0))]) hx hb dX6_isSameOutcome_54 rfl hl (by decide) rfl (fun ls hl => ?_)
              refine lv_iinc (v := (v2 + 1)) (lv' := [(2, .int (v2 + 1)), (1, .int 1), (3, .int z9), (0, .ref (ad 0))]) hx hb dX6_isSameOutcome_55 hl (k := 2) rfl rfl (by decide) rfl (fun ls hl => ?_)
              refine lv_goto (tgt := 4) hx hb dX6_isSameOutcome_58 (by decide) ?_
              exact ih1 (v2 + 1) 1 h _ _ hP hS ls (lv_sub hl [0, 1, 3] rfl)
            · have h := ip c_12 h
              refine lv_aload_n hx hb dX6_isSameOutcome_34 rfl (lv_at hl 3 rfl) ?_
              refine vgC hx hb hts hi6 hown hK hP (0) (by decide) (show kd 0 = 6 by decide) (C := RX6) (T := TX6) (N := 18) rfl 15 (by decide) (by decide) (by decide) (by decide) (20) rfl (hts (.fieldLink RX6 58 "CrateHelpers" "alone" "[I") (by decide +kernel)) (fun _ h9 => h9) dX6_isSameOutcome_35 ?_
              refine lv_iload_n hx hb dX6_isSameOutcome_38 rfl (lv_at hl 1 rfl) ?_
              obtain ⟨hn13, h⟩ := gk h
              refine xiald hx hb hK hP (20) (by decide) (show kd 20 = 8 by decide) (by rw [show ln 20 = 12 by decide]; exact hn13) dX6_isSameOutcome_39 ?_
              refine lv_aload_n hx hb dX6_isSameOutcome_40 rfl (lv_at hl 3 rfl) ?_
              refine vgC hx hb hts hi6 hown hK hP (0) (by decide) (show kd 0 = 6 by decide) (C := RX6) (T := TX6) (N := 18) rfl 16 (by decide) (by decide) (by decide) (by decide) (21) rfl (hts (.fieldLink RX6 61 "CrateHelpers" "together" "[I") (by decide +kernel)) (fun _ h9 => h9) dX6_isSameOutcome_41 ?_
              refine lv_iload_n hx hb dX6_isSameOutcome_44 rfl (lv_at hl 1 rfl) ?_
              refine xiald hx hb hK hP (21) (by decide) (show kd 21 = 8 by decide) (by rw [show ln 21 = 12 by decide]; exact hn13) dX6_isSameOutcome_45 ?_
              refine lv_icmp_ne (tgt := 53) hx hb dX6_isSameOutcome_46 (by decide) (fun c_14 => ?_) (fun c_14 => ?_)
              · have h := iN c_14 h
                refine lv_iconst (v := 0) hx hb dX6_isSameOutcome_53 (by decide) ?_
                refine lv_istore_n (lv' := [(1, .int 0), (3, .int z9), (2, .int v2), (0, .ref (ad 0))]) hx hb dX6_isSameOutcome_54 rfl hl (by decide) rfl (fun ls hl => ?_)
                refine lv_iinc (v := (v2 + 1)) (lv' := [(2, .int (v2 + 1)), (1, .int 0), (3, .int z9), (0, .ref (ad 0))]) hx hb dX6_isSameOutcome_55 hl (k := 2) rfl rfl (by decide) rfl (fun ls hl => ?_)
                refine lv_goto (tgt := 4) hx hb dX6_isSameOutcome_58 (by decide) ?_
                exact ih1 (v2 + 1) 0 h _ _ hP hS ls (lv_sub hl [0, 1, 3] rfl)
              · have h := ip c_14 h
                refine lv_iconst (v := 1) hx hb dX6_isSameOutcome_49 (by decide) ?_
                refine lv_goto (tgt := 54) hx hb dX6_isSameOutcome_50 (by decide) ?_
                refine lv_istore_n (lv' := [(1, .int 1), (3, .int z9), (2, .int v2), (0, .ref (ad 0))]) hx hb dX6_isSameOutcome_54 rfl hl (by decide) rfl (fun ls hl => ?_)
                refine lv_iinc (v := (v2 + 1)) (lv' := [(2, .int (v2 + 1)), (1, .int 1), (3, .int z9), (0, .ref (ad 0))]) hx hb dX6_isSameOutcome_55 hl (k := 2) rfl rfl (by decide) rfl (fun ls hl => ?_)
                refine lv_goto (tgt := 4) hx hb dX6_isSameOutcome_58 (by decide) ?_
                exact ih1 (v2 + 1) 1 h _ _ hP hS ls (lv_sub hl [0, 1, 3] rfl)
        refine lv_icmp_eq (tgt := 20) hx hb dX6_isSameOutcome_12 (by decide) (fun c_15 => ?_) (fun c_15 => ?_)
        · have h := ip c_15 h
          refine lv_iconst (v := 1) hx hb dX6_isSameOutcome_20 (by decide) ?_
          refine lv_goto (tgt := 25) hx hb dX6_isSameOutcome_21 (by decide) ?_
          exact kj10 1 h _ _ hP hS ls (lv_sub hl [0, 1, 2] rfl)
        · have h := iN c_15 h
          refine lv_iload_n hx hb dX6_isSameOutcome_15 rfl (lv_at hl 0 rfl) ?_
          refine lv_iconst (v := 3) hx hb dX6_isSameOutcome_16 (by decide) ?_
          refine lv_icmp_ne (tgt := 24) hx hb dX6_isSameOutcome_17 (by decide) (fun c_16 => ?_) (fun c_16 => ?_)
          · have h := iN c_16 h
            refine lv_iconst (v := 0) hx hb dX6_isSameOutcome_24 (by decide) ?_
            exact kj10 0 h _ _ hP hS ls (lv_sub hl [0, 1, 2] rfl)
          · have h := ip c_16 h
            refine lv_iconst (v := 1) hx hb dX6_isSameOutcome_20 (by decide) ?_
            refine lv_goto (tgt := 25) hx hb dX6_isSameOutcome_21 (by decide) ?_
            exact kj10 1 h _ _ hP hS ls (lv_sub hl [0, 1, 2] rfl)
  exact lp1 FU 0 1 h _ _ hP hS ls (lv_sub hl [0, 1, 2] rfl)
set_option maxHeartbeats 4000000 in
set_option maxRecDepth 100000 in
theorem e_X6_limit (l : Launch) (D : va_G) (K : Nat → ClassId) (ad : Nat → Nat) (hap0 : apart ad (fun _ => True)) (a1 : Int32) (I : Nat → Nat → Int32) (G : Nat → Nat → Nat) (A : Nat → Nat → Int32) (L : Nat → Nat → Int64) (r0 : Int32) (I0 : Nat → Nat → Int32) (h : f_X6_limit I a1 = some (r0, I0)) : Ci l D K ad yX6_limit wsX6_limit 1 25 [.ref (ad 0), .int a1] (I, G, A, L) (fun (r : Int32) (u : Mem) => r = r0 ∧ u = (I0, G, A, L)) := by
  intro sz
  refine Met.ofW (cc := cX6_limit) (maxL := 3) (ret := (some .int)) (by decide) rfl ?_
  intro p e s m args below meth c s₁ Bd hml hv0
  obtain ⟨rfl, hsz, hP, hK⟩ := hv0
  have hx := Bd.exec
  have hb := Bd.bytes
  have hr := Bd.returns
  have hts := atoms_spec (ws := wsX6_limit) Bd.pre
  have hown : s.vm.findClass RX6 = some m.cls := findClass_of_methodNamed Bd.named
  have hlocks := Bd.notSynchronized
  have hi6 : ∀ w ∈ u_ws RX6 TX6 18, w ∈ wsX6_limit := fun w h => List.mem_cons_of_mem _ (List.mem_append_right _ h)
  subst hsz
  have hap := vF_ap hap0 s.heap.size
  have hS : va_S (vF ad s.heap.size) s.heap s.heap [] := va_S.rf
  have hP : va_P D vwCl (VW K ad I G A L) s.heap := hP
  have hl := lv_entry ([.ref (ad 0), .int a1]) (n := 3) (Nat.le_of_ble_eq_true rfl)
  rw [lg_entry_eq]
  generalize (lg_sl ([.ref (ad 0), .int a1]) ++ List.replicate (3 - (lg_sl ([.ref (ad 0), .int a1])).length) Slot.unset).toArray = ls at hl ⊢
  have hl : lv_has ls 3 [(0, .ref (ad 0)), (1, .int a1)] := hl
  rw [f_X6_limit] at h
  refine lv_iload_n hx hb dX6_limit_0 rfl (lv_at hl 1 rfl) ?_
  refine lv_iconst (v := 0) hx hb dX6_limit_1 (by decide) ?_
  refine lv_sipush (v := 1000) hx hb dX6_limit_2 (by decide) ?_
  obtain ⟨r1, hc2, h⟩ := Option.bind_eq_some_iff.mp h
  refine ecS (As := [.int a1, .int 0, .int 1000]) (rest := []) ⟨hx, hb, hml, hown, hts⟩ (e_X6_isWithin l D K ad hap0 a1 0 1000 I G A L r1 hc2) (va_cwS 3 hts gX6_limit_X6_isWithin rfl rfl rfl (by decide +kernel) ⟨Nat.le_of_ble_eq_true rfl, Nat.le_of_ble_eq_true rfl⟩) hK hP hS rfl hl.1 (Nat.le_of_ble_eq_true rfl) (Nat.le_of_ble_eq_true rfl) (Nat.le_of_ble_eq_true rfl) dX6_limit_5 (fun H locs hP hS => ?_) rfl
  have hP : va_P D vwCl (VW K ad I G A L) H := hP
  refine lv_if_ne (tgt := 13) hx hb dX6_limit_8 (by decide) (fun c_3 => ?_) (fun c_3 => ?_)
  · have h := iN c_3 h
    refine lv_aload_n hx hb dX6_limit_13 rfl (lv_at hl 0 rfl) ?_
    refine vgI hx hb hts hi6 hown hK hP (0) (by decide) (show kd 0 = 6 by decide) (C := RX6) (T := TX6) (N := 18) rfl 5 (by decide) (by decide) (by decide) (by decide) (hts (.fieldLink RX6 29 "CrateHelpers" "underWay" "I") (by decide +kernel)) (fun _ h9 => h9) dX6_limit_14 ?_
    refine lv_bipush (v := (-9)) hx hb dX6_limit_17 (by decide) ?_
    refine lv_icmp_eq (tgt := 25) hx hb dX6_limit_19 (by decide) (fun c_4 => ?_) (fun c_4 => ?_)
    · have h := ip c_4 h
      refine lv_aload_n hx hb dX6_limit_25 rfl (lv_at hl 0 rfl) ?_
      refine vgI hx hb hts hi6 hown hK hP (0) (by decide) (show kd 0 = 6 by decide) (C := RX6) (T := TX6) (N := 18) rfl 3 (by decide) (by decide) (by decide) (by decide) (hts (.fieldLink RX6 26 "CrateHelpers" "nodeLimit" "I") (by decide +kernel)) (fun _ h9 => h9) dX6_limit_26 ?_
      refine lv_istore_n (lv' := [(2, .int (I 0 3)), (0, .ref (ad 0)), (1, .int a1)]) hx hb dX6_limit_29 rfl hl (by decide) rfl (fun ls hl => ?_)
      refine lv_aload_n hx hb dX6_limit_30 rfl (lv_at hl 1 rfl) ?_
      refine lv_iload_n hx hb dX6_limit_31 rfl (lv_at hl 2 rfl) ?_
      refine vpI (v := a1) (ty := .int) hx hb hts hi6 tyX6 tyX6_ok nmX6 hown hK hP hap hS (0) (by decide) (show kd 0 = 6 by decide) (C := RX6) (T := TX6) (N := 18) rfl 3 (by decide) (by decide) (by decide) (by decide) (hts (.fieldLink RX6 26 "CrateHelpers" "nodeLimit" "I") (by decide +kernel)) (fun _ h9 => h9) rfl (by decide +kernel) rfl rfl dX6_limit_32 (fun H locs hP hS => ?_)
      obtain ⟨I5, eI5, h⟩ := bd_e h
      rw [← eI5] at hP
      have hP : va_P D vwCl (VW K ad I5 G A L) H := hP
      refine lv_iload_n hx hb dX6_limit_35 rfl (lv_at hl 0 rfl) ?_
      exact W.iret (v := (I 0 3)) hx hb hr (fun t9 ht9 hW9 => ⟨⟨(I 0 3), (I5, G, A, L), rfl, by cases h; exact ⟨rfl, rfl⟩, by rw [ht9]; exact hP, va_K.moved hW9.alike hK⟩, hS.F ht9⟩) hS.2.2 dX6_limit_36
    · have h := iN c_4 h
      refine lv_bipush (v := (-2)) hx hb dX6_limit_22 (by decide) ?_
      exact W.iret (v := (-2)) hx hb hr (fun t9 ht9 hW9 => ⟨⟨(-2), (I, G, A, L), rfl, by cases h; exact ⟨rfl, rfl⟩, by rw [ht9]; exact hP, va_K.moved hW9.alike hK⟩, hS.F ht9⟩) hS.2.2 dX6_limit_24
  · have h := ip c_3 h
    refine lv_iconst (v := (-1)) hx hb dX6_limit_11 (by decide) ?_
    exact W.iret (v := (-1)) hx hb hr (fun t9 ht9 hW9 => ⟨⟨(-1), (I, G, A, L), rfl, by cases h; exact ⟨rfl, rfl⟩, by rw [ht9]; exact hP, va_K.moved hW9.alike hK⟩, hS.F ht9⟩) hS.2.2 dX6_limit_12
set_option maxHeartbeats 4000000 in
set_option maxRecDepth 100000 in
theorem e_X6_node (l : Launch) (D : va_G) (K : Nat → ClassId) (ad : Nat → Nat) (hap0 : apart ad (fun _ => True)) (a1 : Int32) (a2 : Int32) (a3 : Int32) (I : Nat → Nat → Int32) (G : Nat → Nat → Nat) (A : Nat → Nat → Int32) (L : Nat → Nat → Int64) (r0 : Int32) (I0 : Nat → Nat → Int32) (h : f_X6_node I A a1 a2 a3 = some (r0, I0)) : Ci l D K ad yX6_node wsX6_node 5 182 [.ref (ad 0), .int a1, .int a2, .int a3] (I, G, A, L) (fun (r : Int32) (u : Mem) => r = r0 ∧ u = (I0, G, A, L)) := by
  intro sz
  refine Met.ofW (cc := cX6_node) (maxL := 5) (ret := (some .int)) (by decide) rfl ?_
  intro p e s m args below meth c s₁ Bd hml hv0
  obtain ⟨rfl, hsz, hP, hK⟩ := hv0
  have hx := Bd.exec
  have hb := Bd.bytes
  have hr := Bd.returns
  have hts := atoms_spec (ws := wsX6_node) Bd.pre
  have hown : s.vm.findClass RX6 = some m.cls := findClass_of_methodNamed Bd.named
  have hlocks := Bd.notSynchronized
  have hi6 : ∀ w ∈ u_ws RX6 TX6 18, w ∈ wsX6_node := fun w h => List.mem_cons_of_mem _ (List.mem_append_left _ (List.mem_append_left _ (List.mem_append_left _ (List.mem_append_right _ h))))
  have hi1 : ∀ w ∈ u_ws RX1 TX1 9, w ∈ wsX6_node := fun w h => List.mem_cons_of_mem _ (List.mem_append_left _ (List.mem_append_left _ (List.mem_append_right _ h)))
  have hi0 : ∀ w ∈ u_ws RX0 TX0 3, w ∈ wsX6_node := fun w h => List.mem_cons_of_mem _ (List.mem_append_left _ (List.mem_append_right _ h))
  have hi2 : ∀ w ∈ u_ws RX2 TX2 7, w ∈ wsX6_node := fun w h => List.mem_cons_of_mem _ (List.mem_append_right _ h)
  subst hsz
  have hap := vF_ap hap0 s.heap.size
  have hS : va_S (vF ad s.heap.size) s.heap s.heap [] := va_S.rf
  have hP : va_P D vwCl (VW K ad I G A L) s.heap := hP
  have hl := lv_entry ([.ref (ad 0), .int a1, .int a2, .int a3]) (n := 5) (Nat.le_of_ble_eq_true rfl)
  rw [lg_entry_eq]
  generalize (lg_sl ([.ref (ad 0), .int a1, .int a2, .int a3]) ++ List.replicate (5 - (lg_sl ([.ref (ad 0), .int a1, .int a2, .int a3])).length) Slot.unset).toArray = ls at hl ⊢
  have hl : lv_has ls 5 [(0, .ref (ad 0)), (1, .int a1), (2, .int a2), (3, .int a3)] := hl
  rw [f_X6_node] at h
  refine lv_iload_n hx hb dX6_node_0 rfl (lv_at hl 1 rfl) ?_
  refine lv_iconst (v := 0) hx hb dX6_node_1 (by decide) ?_
  refine lv_iconst (v := 4) hx hb dX6_node_2 (by decide) ?_
  obtain ⟨r1, hc2, h⟩ := Option.bind_eq_some_iff.mp h
  refine ecS (As := [.int a1, .int 0, .int 4]) (rest := []) ⟨hx, hb, hml, hown, hts⟩ (e_X6_isWithin l D K ad hap0 a1 0 4 I G A L r1 hc2) (va_cwS 3 hts gX6_node_X6_isWithin rfl rfl rfl (by decide +kernel) ⟨Nat.le_of_ble_eq_true rfl, Nat.le_of_ble_eq_true rfl⟩) hK hP hS rfl hl.1 (Nat.le_of_ble_eq_true rfl) (Nat.le_of_ble_eq_true rfl) (Nat.le_of_ble_eq_true rfl) dX6_node_3 (fun H locs hP hS => ?_) rfl
  have hP : va_P D vwCl (VW K ad I G A L) H := hP
  refine lv_if_ne (tgt := 11) hx hb dX6_node_6 (by decide) (fun c_3 => ?_) (fun c_3 => ?_)
  · have h := iN c_3 h
    refine lv_aload_n hx hb dX6_node_11 rfl (lv_at hl 0 rfl) ?_
    refine vgI hx hb hts hi6 hown hK hP (0) (by decide) (show kd 0 = 6 by decide) (C := RX6) (T := TX6) (N := 18) rfl 7 (by decide) (by decide) (by decide) (by decide) (hts (.fieldLink RX6 32 "CrateHelpers" "asked" "I") (by decide +kernel)) (fun _ h9 => h9) dX6_node_12 ?_
    refine lv_bipush (v := (-9)) hx hb dX6_node_15 (by decide) ?_
    refine lv_icmp_eq (tgt := 39) hx hb dX6_node_17 (by decide) (fun c_4 => ?_) (fun c_4 => ?_)
    · have h := ip c_4 h
      refine lv_bipush (v := (-2)) hx hb dX6_node_39 (by decide) ?_
      exact W.iret (v := (-2)) hx hb hr (fun t9 ht9 hW9 => ⟨⟨(-2), (I, G, A, L), rfl, by cases h; exact ⟨rfl, rfl⟩, by rw [ht9]; exact hP, va_K.moved hW9.alike hK⟩, hS.F ht9⟩) hS.2.2 dX6_node_41
    · have h := iN c_4 h
      refine lv_aload_n hx hb dX6_node_20 rfl (lv_at hl 0 rfl) ?_
      refine vgC hx hb hts hi6 hown hK hP (0) (by decide) (show kd 0 = 6 by decide) (C := RX6) (T := TX6) (N := 18) rfl 0 (by decide) (by decide) (by decide) (by decide) (1) rfl (hts (.fieldLink RX6 11 "CrateHelpers" "problems" "[LCrateHelpers$Problem;") (by decide +kernel)) (fun _ h9 => h9) dX6_node_21 ?_
      refine lv_aload_n hx hb dX6_node_24 rfl (lv_at hl 0 rfl) ?_
      refine vgI hx hb hts hi6 hown hK hP (0) (by decide) (show kd 0 = 6 by decide) (C := RX6) (T := TX6) (N := 18) rfl 7 (by decide) (by decide) (by decide) (by decide) (hts (.fieldLink RX6 32 "CrateHelpers" "asked" "I") (by decide +kernel)) (fun _ h9 => h9) dX6_node_25 ?_
      obtain ⟨hn5, h⟩ := gk h
      refine xaald hx hb hK hP (1) (by decide) 5 13 (show kd 1 = 13 by decide) (by decide) rfl (by rw [show ln 1 = 5 by decide]; exact hn5) (58 + 52 * ((I 0 7).toNatClampNeg)) (drf13 ((show kd 1 = 13 by decide))) dX6_node_28 ?_
      obtain ⟨hk6, h⟩ := gk h
      refine vgI hx hb hts hi1 hown hK hP (58 + 52 * ((I 0 7).toNatClampNeg)) (s318 hk6.1) hk6.2 (C := RX1) (T := TX1) (N := 9) rfl 2 (by decide) (by decide) (by decide) (by decide) (hts (.fieldLink RX6 232 "CrateHelpers$Problem" "changes" "I") (by decide +kernel)) (fun _ h9 => h9) dX6_node_29 ?_
      refine lv_aload_n hx hb dX6_node_32 rfl (lv_at hl 0 rfl) ?_
      refine vgI hx hb hts hi6 hown hK hP (0) (by decide) (show kd 0 = 6 by decide) (C := RX6) (T := TX6) (N := 18) rfl 8 (by decide) (by decide) (by decide) (by decide) (hts (.fieldLink RX6 35 "CrateHelpers" "askedAtChange" "I") (by decide +kernel)) (fun _ h9 => h9) dX6_node_33 ?_
      refine lv_icmp_eq (tgt := 42) hx hb dX6_node_36 (by decide) (fun c_7 => ?_) (fun c_7 => ?_)
      · have h := ip c_7 h
        refine lv_aload_n hx hb dX6_node_42 rfl (lv_at hl 0 rfl) ?_
        refine vgC hx hb hts hi6 hown hK hP (0) (by decide) (show kd 0 = 6 by decide) (C := RX6) (T := TX6) (N := 18) rfl 0 (by decide) (by decide) (by decide) (by decide) (1) rfl (hts (.fieldLink RX6 11 "CrateHelpers" "problems" "[LCrateHelpers$Problem;") (by decide +kernel)) (fun _ h9 => h9) dX6_node_43 ?_
        refine lv_aload_n hx hb dX6_node_46 rfl (lv_at hl 0 rfl) ?_
        refine vgI hx hb hts hi6 hown hK hP (0) (by decide) (show kd 0 = 6 by decide) (C := RX6) (T := TX6) (N := 18) rfl 7 (by decide) (by decide) (by decide) (by decide) (hts (.fieldLink RX6 32 "CrateHelpers" "asked" "I") (by decide +kernel)) (fun _ h9 => h9) dX6_node_47 ?_
        refine xaald hx hb hK hP (1) (by decide) 5 13 (show kd 1 = 13 by decide) (by decide) rfl (by rw [show ln 1 = 5 by decide]; exact hn5) (58 + 52 * ((I 0 7).toNatClampNeg)) (drf13 ((show kd 1 = 13 by decide))) dX6_node_50 ?_
        refine lv_astore (lv' := [(4, .ref (ad (58 + 52 * ((I 0 7).toNatClampNeg)))), (0, .ref (ad 0)), (1, .int a1), (2, .int a2), (3, .int a3)]) hx hb dX6_node_51 hl (by decide) rfl (fun ls hl => ?_)
        refine lv_iload_n hx hb dX6_node_53 rfl (lv_at hl 2 rfl) ?_
        refine lv_if_ne (tgt := 93) hx hb dX6_node_54 (by decide) (fun c_8 => ?_) (fun c_8 => ?_)
        · have h := iN c_8 h
          refine lv_iload_n hx hb dX6_node_93 rfl (lv_at hl 2 rfl) ?_
          refine lv_iconst (v := 1) hx hb dX6_node_94 (by decide) ?_
          refine lv_icmp_ne (tgt := 127) hx hb dX6_node_95 (by decide) (fun c_9 => ?_) (fun c_9 => ?_)
          · have h := iN c_9 h
            refine lv_aload_n hx hb dX6_node_127 rfl (lv_at hl 1 rfl) ?_
            refine vgC hx hb hts hi6 hown hK hP (0) (by decide) (show kd 0 = 6 by decide) (C := RX6) (T := TX6) (N := 18) rfl 11 (by decide) (by decide) (by decide) (by decide) (17) rfl (hts (.fieldLink RX6 48 "CrateHelpers" "judge" "LCrateHelpers$Judge;") (by decide +kernel)) (fun _ h9 => h9) dX6_node_128 ?_
            refine lv_aload hx hb dX6_node_131 (lv_at hl 0 rfl) ?_
            refine lv_aload_n hx hb dX6_node_133 rfl (lv_at hl 1 rfl) ?_
            refine vgC hx hb hts hi6 hown hK hP (0) (by decide) (show kd 0 = 6 by decide) (C := RX6) (T := TX6) (N := 18) rfl 10 (by decide) (by decide) (by decide) (by decide) (18) rfl (hts (.fieldLink RX6 41 "CrateHelpers" "askedValues" "[I") (by decide +kernel)) (fun _ h9 => h9) dX6_node_134 ?_
            refine lv_aload_n hx hb dX6_node_137 rfl (lv_at hl 1 rfl) ?_
            refine vgI hx hb hts hi6 hown hK hP (0) (by decide) (show kd 0 = 6 by decide) (C := RX6) (T := TX6) (N := 18) rfl 9 (by decide) (by decide) (by decide) (by decide) (hts (.fieldLink RX6 38 "CrateHelpers" "askedDepth" "I") (by decide +kernel)) (fun _ h9 => h9) dX6_node_138 ?_
            refine lv_iconst (v := 1) hx hb dX6_node_141 (by decide) ?_
            obtain ⟨I10, hc11, h⟩ := Option.bind_eq_some_iff.mp h
            refine ecVv (As := [.ref (ad (58 + 52 * ((I 0 7).toNatClampNeg))), .ref (ad 18), .int (I 0 9), .int 1]) (rest := []) ⟨hx, hb, hml, hown, hts⟩ (e_X0_look l D K ad hap0 17 (58 + 52 * ((I 0 7).toNatClampNeg)) 18 (I 0 9) 1 I G A L I10 hc11) (cwV 4 hts gX6_node_X0_look rfl rfl rfl (by decide +kernel) ⟨Nat.le_of_ble_eq_true rfl, Nat.le_of_ble_eq_true rfl⟩) hK hP hS (by decide) (show kd 17 = 0 by decide) (by decide) rfl rfl rfl hl.1 (Nat.le_of_ble_eq_true rfl) (Nat.le_of_ble_eq_true rfl) (Nat.le_of_ble_eq_true rfl) dX6_node_142 (fun H locs hP hS => ?_) rfl
            have hP : va_P D vwCl (VW K ad I10 G A L) H := hP
            refine lv_iload_n hx hb dX6_node_145 rfl (lv_at hl 2 rfl) ?_
            refine lv_iconst (v := 2) hx hb dX6_node_146 (by decide) ?_
            refine lv_icmp_ne (tgt := 158) hx hb dX6_node_147 (by decide) (fun c_12 => ?_) (fun c_12 => ?_)
            · have h := iN c_12 h
              refine lv_iload_n hx hb dX6_node_158 rfl (lv_at hl 2 rfl) ?_
              refine lv_iconst (v := 3) hx hb dX6_node_159 (by decide) ?_
              refine lv_icmp_ne (tgt := 173) hx hb dX6_node_160 (by decide) (fun c_13 => ?_) (fun c_13 => ?_)
              · have h := iN c_13 h
                refine lv_aload_n hx hb dX6_node_173 rfl (lv_at hl 1 rfl) ?_
                refine vgC hx hb hts hi6 hown hK hP (0) (by decide) (show kd 0 = 6 by decide) (C := RX6) (T := TX6) (N := 18) rfl 11 (by decide) (by decide) (by decide) (by decide) (17) rfl (hts (.fieldLink RX6 48 "CrateHelpers" "judge" "LCrateHelpers$Judge;") (by decide +kernel)) (fun _ h9 => h9) dX6_node_174 ?_
                refine vgI hx hb hts hi0 hown hK hP (17) (by decide) (show kd 17 = 0 by decide) (C := RX0) (T := TX0) (N := 3) rfl 1 (by decide) (by decide) (by decide) (by decide) (hts (.fieldLink RX6 259 "CrateHelpers$Judge" "why" "I") (by decide +kernel)) (fun _ h9 => h9) dX6_node_177 ?_
                exact W.iret (v := (I10 17 1)) hx hb hr (fun t9 ht9 hW9 => ⟨⟨(I10 17 1), (I10, G, A, L), rfl, by cases h; exact ⟨rfl, rfl⟩, by rw [ht9]; exact hP, va_K.moved hW9.alike hK⟩, hS.F ht9⟩) hS.2.2 dX6_node_180
              · have h := ip c_13 h
                refine lv_aload_n hx hb dX6_node_163 rfl (lv_at hl 1 rfl) ?_
                refine vgC hx hb hts hi6 hown hK hP (0) (by decide) (show kd 0 = 6 by decide) (C := RX6) (T := TX6) (N := 18) rfl 11 (by decide) (by decide) (by decide) (by decide) (17) rfl (hts (.fieldLink RX6 48 "CrateHelpers" "judge" "LCrateHelpers$Judge;") (by decide +kernel)) (fun _ h9 => h9) dX6_node_164 ?_
                refine vgI hx hb hts hi0 hown hK hP (17) (by decide) (show kd 17 = 0 by decide) (C := RX0) (T := TX0) (N := 3) rfl 2 (by decide) (by decide) (by decide) (by decide) (hts (.fieldLink RX6 256 "CrateHelpers$Judge" "bound" "I") (by decide +kernel)) (fun _ h9 => h9) dX6_node_167 ?_
                refine lv_goto (tgt := 180) hx hb dX6_node_170 (by decide) ?_
                exact W.iret (v := (I10 17 2)) hx hb hr (fun t9 ht9 hW9 => ⟨⟨(I10 17 2), (I10, G, A, L), rfl, by cases h; exact ⟨rfl, rfl⟩, by rw [ht9]; exact hP, va_K.moved hW9.alike hK⟩, hS.F ht9⟩) hS.2.2 dX6_node_180
            · have h := ip c_12 h
              refine lv_aload_n hx hb dX6_node_150 rfl (lv_at hl 1 rfl) ?_
              refine vgC hx hb hts hi6 hown hK hP (0) (by decide) (show kd 0 = 6 by decide) (C := RX6) (T := TX6) (N := 18) rfl 11 (by decide) (by decide) (by decide) (by decide) (17) rfl (hts (.fieldLink RX6 48 "CrateHelpers" "judge" "LCrateHelpers$Judge;") (by decide +kernel)) (fun _ h9 => h9) dX6_node_151 ?_
              refine vgI hx hb hts hi0 hown hK hP (17) (by decide) (show kd 17 = 0 by decide) (C := RX0) (T := TX0) (N := 3) rfl 0 (by decide) (by decide) (by decide) (by decide) (hts (.fieldLink RX6 254 "CrateHelpers$Judge" "what" "I") (by decide +kernel)) (fun _ h9 => h9) dX6_node_154 ?_
              exact W.iret (v := (I10 17 0)) hx hb hr (fun t9 ht9 hW9 => ⟨⟨(I10 17 0), (I10, G, A, L), rfl, by cases h; exact ⟨rfl, rfl⟩, by rw [ht9]; exact hP, va_K.moved hW9.alike hK⟩, hS.F ht9⟩) hS.2.2 dX6_node_157
          · have h := ip c_9 h
            refine lv_aload hx hb dX6_node_98 (lv_at hl 0 rfl) ?_
            refine lv_iload_n hx hb dX6_node_100 rfl (lv_at hl 3 rfl) ?_
            refine lv_iload_n hx hb dX6_node_101 rfl (lv_at hl 4 rfl) ?_
            obtain ⟨r14, hc15, h⟩ := Option.bind_eq_some_iff.mp h
            refine ecV (As := [.int a2, .int a3]) (rest := []) ⟨hx, hb, hml, hown, hts⟩ (e_X1_hasValue l D K ad hap0 (58 + 52 * ((I 0 7).toNatClampNeg)) a2 a3 I G A L r14 hc15) (cwV 2 hts gX6_node_X1_hasValue rfl rfl rfl (by decide +kernel) ⟨Nat.le_of_ble_eq_true rfl, Nat.le_of_ble_eq_true rfl⟩) hK hP hS (s318 hk6.1) hk6.2 (by decide) rfl rfl rfl hl.1 (Nat.le_of_ble_eq_true rfl) (Nat.le_of_ble_eq_true rfl) (Nat.le_of_ble_eq_true rfl) dX6_node_102 (fun H locs hP hS => ?_) rfl
            have hP : va_P D vwCl (VW K ad I G A L) H := hP
            refine lv_if_eq (tgt := 125) hx hb dX6_node_105 (by decide) (fun c_16 => ?_) (fun c_16 => ?_)
            · have h := ip c_16 h
              refine lv_iconst (v := (-1)) hx hb dX6_node_125 (by decide) ?_
              exact W.iret (v := (-1)) hx hb hr (fun t9 ht9 hW9 => ⟨⟨(-1), (I, G, A, L), rfl, by cases h; exact ⟨rfl, rfl⟩, by rw [ht9]; exact hP, va_K.moved hW9.alike hK⟩, hS.F ht9⟩) hS.2.2 dX6_node_126
            · have h := iN c_16 h
              refine lv_aload hx hb dX6_node_108 (lv_at hl 0 rfl) ?_
              refine lv_aload_n hx hb dX6_node_110 rfl (lv_at hl 1 rfl) ?_
              refine vgC hx hb hts hi6 hown hK hP (0) (by decide) (show kd 0 = 6 by decide) (C := RX6) (T := TX6) (N := 18) rfl 10 (by decide) (by decide) (by decide) (by decide) (18) rfl (hts (.fieldLink RX6 41 "CrateHelpers" "askedValues" "[I") (by decide +kernel)) (fun _ h9 => h9) dX6_node_111 ?_
              refine lv_iload_n hx hb dX6_node_114 rfl (lv_at hl 3 rfl) ?_
              refine lv_iload_n hx hb dX6_node_115 rfl (lv_at hl 4 rfl) ?_
              obtain ⟨r17, hc18, h⟩ := Option.bind_eq_some_iff.mp h
              refine ecV (As := [.ref (ad 18), .int a2, .int a3]) (rest := []) ⟨hx, hb, hml, hown, hts⟩ (e_X1_isOut l D K ad hap0 (58 + 52 * ((I 0 7).toNatClampNeg)) 18 a2 a3 I G A L r17 hc18) (cwV 3 hts gX6_node_X1_isOut rfl rfl rfl (by decide +kernel) ⟨Nat.le_of_ble_eq_true rfl, Nat.le_of_ble_eq_true rfl⟩) hK hP hS (s318 hk6.1) hk6.2 (by decide) rfl rfl rfl hl.1 (Nat.le_of_ble_eq_true rfl) (Nat.le_of_ble_eq_true rfl) (Nat.le_of_ble_eq_true rfl) dX6_node_116 (fun H locs hP hS => ?_) rfl
              have hP : va_P D vwCl (VW K ad I G A L) H := hP
              obtain ⟨r19, hc20, h⟩ := Option.bind_eq_some_iff.mp h
              refine ecS (As := [.int r17]) (rest := []) ⟨hx, hb, hml, hown, hts⟩ (e_X6_asNumber l D K ad hap0 r17 I G A L r19 hc20) (va_cwS 1 hts gX6_node_X6_asNumber rfl rfl rfl (by decide +kernel) ⟨Nat.le_of_ble_eq_true rfl, Nat.le_of_ble_eq_true rfl⟩) hK hP hS rfl hl.1 (Nat.le_of_ble_eq_true rfl) (Nat.le_of_ble_eq_true rfl) (Nat.le_of_ble_eq_true rfl) dX6_node_119 (fun H locs hP hS => ?_) rfl
              have hP : va_P D vwCl (VW K ad I G A L) H := hP
              refine lv_goto (tgt := 126) hx hb dX6_node_122 (by decide) ?_
              exact W.iret (v := r19) hx hb hr (fun t9 ht9 hW9 => ⟨⟨r19, (I, G, A, L), rfl, by cases h; exact ⟨rfl, rfl⟩, by rw [ht9]; exact hP, va_K.moved hW9.alike hK⟩, hS.F ht9⟩) hS.2.2 dX6_node_126
        · have h := ip c_8 h
          refine lv_aload hx hb dX6_node_57 (lv_at hl 0 rfl) ?_
          refine lv_iload_n hx hb dX6_node_59 rfl (lv_at hl 3 rfl) ?_
          obtain ⟨r21, hc22, h⟩ := Option.bind_eq_some_iff.mp h
          refine ecV (As := [.int a2]) (rest := []) ⟨hx, hb, hml, hown, hts⟩ (e_X1_hasRule l D K ad hap0 (58 + 52 * ((I 0 7).toNatClampNeg)) a2 I G A L r21 hc22) (cwV 1 hts gX6_node_X1_hasRule rfl rfl rfl (by decide +kernel) ⟨Nat.le_of_ble_eq_true rfl, Nat.le_of_ble_eq_true rfl⟩) hK hP hS (s318 hk6.1) hk6.2 (by decide) rfl rfl rfl hl.1 (Nat.le_of_ble_eq_true rfl) (Nat.le_of_ble_eq_true rfl) (Nat.le_of_ble_eq_true rfl) dX6_node_60 (fun H locs hP hS => ?_) rfl
          have hP : va_P D vwCl (VW K ad I G A L) H := hP
          refine lv_if_eq (tgt := 91) hx hb dX6_node_63 (by decide) (fun c_23 => ?_) (fun c_23 => ?_)
          · have h := ip c_23 h
            refine lv_iconst (v := (-1)) hx hb dX6_node_91 (by decide) ?_
            exact W.iret (v := (-1)) hx hb hr (fun t9 ht9 hW9 => ⟨⟨(-1), (I, G, A, L), rfl, by cases h; exact ⟨rfl, rfl⟩, by rw [ht9]; exact hP, va_K.moved hW9.alike hK⟩, hS.F ht9⟩) hS.2.2 dX6_node_92
          · have h := iN c_23 h
            refine lv_aload hx hb dX6_node_66 (lv_at hl 0 rfl) ?_
            refine vgS hx hb hts hi1 hown hK hP (58 + 52 * ((I 0 7).toNatClampNeg)) (s318 hk6.1) hk6.2 (C := RX1) (T := TX1) (N := 9) rfl 7 (by decide) (by decide) (by decide) (by decide) (58 + 52 * ((I 0 7).toNatClampNeg) + 10) rfl (hts (.fieldLink RX6 142 "CrateHelpers$Problem" "rules" "[LCrateHelpers$Rule;") (by decide +kernel)) (fun _ h9 => h9) dX6_node_68 ?_
            refine lv_iload_n hx hb dX6_node_71 rfl (lv_at hl 3 rfl) ?_
            obtain ⟨hk24, h⟩ := gk h
            obtain ⟨hn25, h⟩ := gk h
            refine xaald hx hb hK hP (58 + 52 * ((I 0 7).toNatClampNeg) + 10) (s318 hk24.1) 6 14 hk24.2 (by decide) rfl hn25 (58 + 52 * ((I 0 7).toNatClampNeg) + 12 + 5 * a2.toNatClampNeg) (drf14 (hk24.2)) dX6_node_72 ?_
            refine lv_aload_n hx hb dX6_node_73 rfl (lv_at hl 1 rfl) ?_
            refine vgC hx hb hts hi6 hown hK hP (0) (by decide) (show kd 0 = 6 by decide) (C := RX6) (T := TX6) (N := 18) rfl 10 (by decide) (by decide) (by decide) (by decide) (18) rfl (hts (.fieldLink RX6 41 "CrateHelpers" "askedValues" "[I") (by decide +kernel)) (fun _ h9 => h9) dX6_node_74 ?_
            refine lv_aload hx hb dX6_node_77 (lv_at hl 0 rfl) ?_
            refine vgS hx hb hts hi1 hown hK hP (58 + 52 * ((I 0 7).toNatClampNeg)) (s318 hk6.1) hk6.2 (C := RX1) (T := TX1) (N := 9) rfl 4 (by decide) (by decide) (by decide) (by decide) (58 + 52 * ((I 0 7).toNatClampNeg) + 1) rfl (hts (.fieldLink RX6 235 "CrateHelpers$Problem" "sizes" "[I") (by decide +kernel)) (fun _ h9 => h9) dX6_node_79 ?_
            obtain ⟨hk26, h⟩ := gk h
            obtain ⟨r27, hc28, h⟩ := Option.bind_eq_some_iff.mp h
            refine ecV (As := [.ref (ad 18), .ref (ad (58 + 52 * ((I 0 7).toNatClampNeg) + 1))]) (rest := []) ⟨hx, hb, hml, hown, hts⟩ (e_X2_isBroken l D K ad hap0 (58 + 52 * ((I 0 7).toNatClampNeg) + 12 + 5 * a2.toNatClampNeg) 18 (58 + 52 * ((I 0 7).toNatClampNeg) + 1) I G A L r27 hc28) (cwV 2 hts gX6_node_X2_isBroken rfl rfl rfl (by decide +kernel) ⟨Nat.le_of_ble_eq_true rfl, Nat.le_of_ble_eq_true rfl⟩) hK hP hS (s318 hk26.1) hk26.2 (by decide) rfl rfl rfl hl.1 (Nat.le_of_ble_eq_true rfl) (Nat.le_of_ble_eq_true rfl) (Nat.le_of_ble_eq_true rfl) dX6_node_82 (fun H locs hP hS => ?_) rfl
            have hP : va_P D vwCl (VW K ad I G A L) H := hP
            obtain ⟨r29, hc30, h⟩ := Option.bind_eq_some_iff.mp h
            refine ecS (As := [.int r27]) (rest := []) ⟨hx, hb, hml, hown, hts⟩ (e_X6_asNumber l D K ad hap0 r27 I G A L r29 hc30) (va_cwS 1 hts gX6_node_X6_asNumber rfl rfl rfl (by decide +kernel) ⟨Nat.le_of_ble_eq_true rfl, Nat.le_of_ble_eq_true rfl⟩) hK hP hS rfl hl.1 (Nat.le_of_ble_eq_true rfl) (Nat.le_of_ble_eq_true rfl) (Nat.le_of_ble_eq_true rfl) dX6_node_85 (fun H locs hP hS => ?_) rfl
            have hP : va_P D vwCl (VW K ad I G A L) H := hP
            refine lv_goto (tgt := 92) hx hb dX6_node_88 (by decide) ?_
            exact W.iret (v := r29) hx hb hr (fun t9 ht9 hW9 => ⟨⟨r29, (I, G, A, L), rfl, by cases h; exact ⟨rfl, rfl⟩, by rw [ht9]; exact hP, va_K.moved hW9.alike hK⟩, hS.F ht9⟩) hS.2.2 dX6_node_92
      · have h := iN c_7 h
        refine lv_bipush (v := (-2)) hx hb dX6_node_39 (by decide) ?_
        exact W.iret (v := (-2)) hx hb hr (fun t9 ht9 hW9 => ⟨⟨(-2), (I, G, A, L), rfl, by cases h; exact ⟨rfl, rfl⟩, by rw [ht9]; exact hP, va_K.moved hW9.alike hK⟩, hS.F ht9⟩) hS.2.2 dX6_node_41
  · have h := ip c_3 h
    refine lv_iconst (v := (-1)) hx hb dX6_node_9 (by decide) ?_
    exact W.iret (v := (-1)) hx hb hr (fun t9 ht9 hW9 => ⟨⟨(-1), (I, G, A, L), rfl, by cases h; exact ⟨rfl, rfl⟩, by rw [ht9]; exact hP, va_K.moved hW9.alike hK⟩, hS.F ht9⟩) hS.2.2 dX6_node_10
set_option maxHeartbeats 4000000 in
set_option maxRecDepth 100000 in
theorem e_X1_setNumber (l : Launch) (D : va_G) (K : Nat → ClassId) (ad : Nat → Nat) (hap0 : apart ad (fun _ => True)) (o : Nat) (a1 : Int32) (a2 : Int32) (I : Nat → Nat → Int32) (G : Nat → Nat → Nat) (A : Nat → Nat → Int32) (L : Nat → Nat → Int64) (r0 : Int32) (I0 : Nat → Nat → Int32) (h : f_X1_setNumber I o a1 a2 = some (r0, I0)) : Ci l D K ad yX1_setNumber wsX1_setNumber 1 23 [.ref (ad o), .int a1, .int a2] (I, G, A, L) (fun (r : Int32) (u : Mem) => r = r0 ∧ u = (I0, G, A, L)) := by
  intro sz
  refine Met.ofW (cc := cX1_setNumber) (maxL := 4) (ret := (some .int)) (by decide) rfl ?_
  intro p e s m args below meth c s₁ Bd hml hv0
  obtain ⟨rfl, hsz, hP, hK⟩ := hv0
  have hx := Bd.exec
  have hb := Bd.bytes
  have hr := Bd.returns
  have hts := atoms_spec (ws := wsX1_setNumber) Bd.pre
  have hown : s.vm.findClass RX1 = some m.cls := findClass_of_methodNamed Bd.named
  have hlocks := Bd.notSynchronized
  have hi1 : ∀ w ∈ u_ws RX1 TX1 9, w ∈ wsX1_setNumber := fun w h => List.mem_cons_of_mem _ (List.mem_append_left _ (List.mem_append_right _ h))
  have hi2 : ∀ w ∈ u_ws RX2 TX2 7, w ∈ wsX1_setNumber := fun w h => List.mem_cons_of_mem _ (List.mem_append_right _ h)
  subst hsz
  have hap := vF_ap hap0 s.heap.size
  have hS : va_S (vF ad s.heap.size) s.heap s.heap [] := va_S.rf
  have hP : va_P D vwCl (VW K ad I G A L) s.heap := hP
  have hl := lv_entry ([.ref (ad o), .int a1, .int a2]) (n := 4) (Nat.le_of_ble_eq_true rfl)
  rw [lg_entry_eq]
  generalize (lg_sl ([.ref (ad o), .int a1, .int a2]) ++ List.replicate (4 - (lg_sl ([.ref (ad o), .int a1, .int a2])).length) Slot.unset).toArray = ls at hl ⊢
  have hl : lv_has ls 4 [(0, .ref (ad o)), (1, .int a1), (2, .int a2)] := hl
  rw [f_X1_setNumber] at h
  refine lv_aload_n hx hb dX1_setNumber_0 rfl (lv_at hl 0 rfl) ?_
  obtain ⟨hk1, h⟩ := gk h
  obtain ⟨I2, hc3, h⟩ := Option.bind_eq_some_iff.mp h
  refine ecVv (As := []) (rest := []) ⟨hx, hb, hml, hown, hts⟩ (e_X1_change l D K ad hap0 o I G A L I2 hc3) (cwV 0 hts gX1_setNumber_X1_change rfl rfl rfl (by decide +kernel) ⟨Nat.le_of_ble_eq_true rfl, Nat.le_of_ble_eq_true rfl⟩) hK hP hS (s318 hk1.1) hk1.2 (by decide) rfl rfl rfl hl.1 (Nat.le_of_ble_eq_true rfl) (Nat.le_of_ble_eq_true rfl) (Nat.le_of_ble_eq_true rfl) dX1_setNumber_1 (fun H locs hP hS => ?_) rfl
  have hP : va_P D vwCl (VW K ad I2 G A L) H := hP
  refine lv_aload_n hx hb dX1_setNumber_4 rfl (lv_at hl 0 rfl) ?_
  refine vgS hx hb hts hi1 hown hK hP (o) (s318 hk1.1) hk1.2 (C := RX1) (T := TX1) (N := 9) rfl 7 (by decide) (by decide) (by decide) (by decide) (o + 10) rfl (hts (.fieldLink RX1 39 "CrateHelpers$Problem" "rules" "[LCrateHelpers$Rule;") (by decide +kernel)) (fun _ h9 => h9) dX1_setNumber_5 ?_
  refine lv_iload_n hx hb dX1_setNumber_8 rfl (lv_at hl 1 rfl) ?_
  obtain ⟨hk4, h⟩ := gk h
  obtain ⟨hn5, h⟩ := gk h
  refine xaald hx hb hK hP (o + 10) (s318 hk4.1) 6 14 hk4.2 (by decide) rfl hn5 (o + 12 + 5 * a1.toNatClampNeg) (drf14 (hk4.2)) dX1_setNumber_9 ?_
  obtain ⟨hk6, h⟩ := gk h
  refine vgI hx hb hts hi2 hown hK hP (o + 12 + 5 * a1.toNatClampNeg) (s318 hk6.1) hk6.2 (C := RX2) (T := TX2) (N := 7) rfl 1 (by decide) (by decide) (by decide) (by decide) (hts (.fieldLink RX1 57 "CrateHelpers$Rule" "c" "I") (by decide +kernel)) (fun _ h9 => h9) dX1_setNumber_10 ?_
  refine lv_istore_n (lv' := [(3, .int (I2 (o + 12 + 5 * a1.toNatClampNeg) 1)), (0, .ref (ad o)), (1, .int a1), (2, .int a2)]) hx hb dX1_setNumber_13 rfl hl (by decide) rfl (fun ls hl => ?_)
  refine lv_aload_n hx hb dX1_setNumber_14 rfl (lv_at hl 1 rfl) ?_
  refine vgS hx hb hts hi1 hown hK hP (o) (s318 hk1.1) hk1.2 (C := RX1) (T := TX1) (N := 9) rfl 7 (by decide) (by decide) (by decide) (by decide) (o + 10) rfl (hts (.fieldLink RX1 39 "CrateHelpers$Problem" "rules" "[LCrateHelpers$Rule;") (by decide +kernel)) (fun _ h9 => h9) dX1_setNumber_15 ?_
  refine lv_iload_n hx hb dX1_setNumber_18 rfl (lv_at hl 2 rfl) ?_
  refine xaald hx hb hK hP (o + 10) (s318 hk4.1) 6 14 hk4.2 (by decide) rfl hn5 (o + 12 + 5 * a1.toNatClampNeg) (drf14 (hk4.2)) dX1_setNumber_19 ?_
  refine lv_iload_n hx hb dX1_setNumber_20 rfl (lv_at hl 3 rfl) ?_
  refine vpI (v := a2) (ty := .int) hx hb hts hi2 tyX2 tyX2_ok nmX2 hown hK hP hap hS (o + 12 + 5 * a1.toNatClampNeg) (s318 hk6.1) hk6.2 (C := RX2) (T := TX2) (N := 7) rfl 1 (by decide) (by decide) (by decide) (by decide) (hts (.fieldLink RX1 57 "CrateHelpers$Rule" "c" "I") (by decide +kernel)) (fun _ h9 => h9) rfl (by decide +kernel) rfl rfl dX1_setNumber_21 (fun H locs hP hS => ?_)
  obtain ⟨I7, eI7, h⟩ := bd_e h
  rw [← eI7] at hP
  have hP : va_P D vwCl (VW K ad I7 G A L) H := hP
  refine lv_iload_n hx hb dX1_setNumber_24 rfl (lv_at hl 0 rfl) ?_
  exact W.iret (v := (I2 (o + 12 + 5 * a1.toNatClampNeg) 1)) hx hb hr (fun t9 ht9 hW9 => ⟨⟨(I2 (o + 12 + 5 * a1.toNatClampNeg) 1), (I7, G, A, L), rfl, by cases h; exact ⟨rfl, rfl⟩, by rw [ht9]; exact hP, va_K.moved hW9.alike hK⟩, hS.F ht9⟩) hS.2.2 dX1_setNumber_25
set_option maxHeartbeats 4000000 in
set_option maxRecDepth 100000 in
theorem e_X6_number (l : Launch) (D : va_G) (K : Nat → ClassId) (ad : Nat → Nat) (hap0 : apart ad (fun _ => True)) (a1 : Int32) (a2 : Int32) (a3 : Int32) (I : Nat → Nat → Int32) (G : Nat → Nat → Nat) (A : Nat → Nat → Int32) (L : Nat → Nat → Int64) (r0 : Int32) (I0 : Nat → Nat → Int32) (h : f_X6_number I a1 a2 a3 = some (r0, I0)) : Ci l D K ad yX6_number wsX6_number 2 49 [.ref (ad 0), .int a1, .int a2, .int a3] (I, G, A, L) (fun (r : Int32) (u : Mem) => r = r0 ∧ u = (I0, G, A, L)) := by
  intro sz
  refine Met.ofW (cc := cX6_number) (maxL := 4) (ret := (some .int)) (by decide) rfl ?_
  intro p e s m args below meth c s₁ Bd hml hv0
  obtain ⟨rfl, hsz, hP, hK⟩ := hv0
  have hx := Bd.exec
  have hb := Bd.bytes
  have hr := Bd.returns
  have hts := atoms_spec (ws := wsX6_number) Bd.pre
  have hown : s.vm.findClass RX6 = some m.cls := findClass_of_methodNamed Bd.named
  have hlocks := Bd.notSynchronized
  have hi6 : ∀ w ∈ u_ws RX6 TX6 18, w ∈ wsX6_number := fun w h => List.mem_cons_of_mem _ (List.mem_append_left _ (List.mem_append_left _ (List.mem_append_right _ h)))
  have hi1 : ∀ w ∈ u_ws RX1 TX1 9, w ∈ wsX6_number := fun w h => List.mem_cons_of_mem _ (List.mem_append_left _ (List.mem_append_right _ h))
  have hi2 : ∀ w ∈ u_ws RX2 TX2 7, w ∈ wsX6_number := fun w h => List.mem_cons_of_mem _ (List.mem_append_right _ h)
  subst hsz
  have hap := vF_ap hap0 s.heap.size
  have hS : va_S (vF ad s.heap.size) s.heap s.heap [] := va_S.rf
  have hP : va_P D vwCl (VW K ad I G A L) s.heap := hP
  have hl := lv_entry ([.ref (ad 0), .int a1, .int a2, .int a3]) (n := 4) (Nat.le_of_ble_eq_true rfl)
  rw [lg_entry_eq]
  generalize (lg_sl ([.ref (ad 0), .int a1, .int a2, .int a3]) ++ List.replicate (4 - (lg_sl ([.ref (ad 0), .int a1, .int a2, .int a3])).length) Slot.unset).toArray = ls at hl ⊢
  have hl : lv_has ls 4 [(0, .ref (ad 0)), (1, .int a1), (2, .int a2), (3, .int a3)] := hl
  rw [f_X6_number] at h
  refine lv_aload_n hx hb dX6_number_0 rfl (lv_at hl 0 rfl) ?_
  refine lv_iload_n hx hb dX6_number_1 rfl (lv_at hl 1 rfl) ?_
  obtain ⟨r1, hc2, h⟩ := Option.bind_eq_some_iff.mp h
  refine ecV (As := [.int a1]) (rest := []) ⟨hx, hb, hml, hown, hts⟩ (e_X6_isProblem l D K ad hap0 a1 I G A L r1 hc2) (cwV 1 hts gX6_number_X6_isProblem rfl rfl rfl (by decide +kernel) ⟨Nat.le_of_ble_eq_true rfl, Nat.le_of_ble_eq_true rfl⟩) hK hP hS (by decide) (show kd 0 = 6 by decide) (by decide) rfl rfl rfl hl.1 (Nat.le_of_ble_eq_true rfl) (Nat.le_of_ble_eq_true rfl) (Nat.le_of_ble_eq_true rfl) dX6_number_2 (fun H locs hP hS => ?_) rfl
  have hP : va_P D vwCl (VW K ad I G A L) H := hP
  refine lv_if_eq (tgt := 28) hx hb dX6_number_5 (by decide) (fun c_3 => ?_) (fun c_3 => ?_)
  · have h := ip c_3 h
    refine lv_aload_n hx hb dX6_number_28 rfl (lv_at hl 0 rfl) ?_
    refine lv_iconst (v := (-1)) hx hb dX6_number_29 (by decide) ?_
    obtain ⟨⟨r4, I5⟩, hc6, h⟩ := Option.bind_eq_some_iff.mp h
    refine ecV (As := [.int (-1)]) (rest := []) ⟨hx, hb, hml, hown, hts⟩ (e_X6_refuse l D K ad hap0 (-1) I G A L r4 I5 hc6) (cwV 1 hts gX6_number_X6_refuse rfl rfl rfl (by decide +kernel) ⟨Nat.le_of_ble_eq_true rfl, Nat.le_of_ble_eq_true rfl⟩) hK hP hS (by decide) (show kd 0 = 6 by decide) (by decide) rfl rfl rfl hl.1 (Nat.le_of_ble_eq_true rfl) (Nat.le_of_ble_eq_true rfl) (Nat.le_of_ble_eq_true rfl) dX6_number_30 (fun H locs hP hS => ?_) rfl
    have hP : va_P D vwCl (VW K ad I5 G A L) H := hP
    exact W.iret (v := r4) hx hb hr (fun t9 ht9 hW9 => ⟨⟨r4, (I5, G, A, L), rfl, by cases h; exact ⟨rfl, rfl⟩, by rw [ht9]; exact hP, va_K.moved hW9.alike hK⟩, hS.F ht9⟩) hS.2.2 dX6_number_33
  · have h := iN c_3 h
    refine lv_aload_n hx hb dX6_number_8 rfl (lv_at hl 0 rfl) ?_
    refine vgC hx hb hts hi6 hown hK hP (0) (by decide) (show kd 0 = 6 by decide) (C := RX6) (T := TX6) (N := 18) rfl 0 (by decide) (by decide) (by decide) (by decide) (1) rfl (hts (.fieldLink RX6 11 "CrateHelpers" "problems" "[LCrateHelpers$Problem;") (by decide +kernel)) (fun _ h9 => h9) dX6_number_9 ?_
    refine lv_iload_n hx hb dX6_number_12 rfl (lv_at hl 1 rfl) ?_
    obtain ⟨hn7, h⟩ := gk h
    refine xaald hx hb hK hP (1) (by decide) 5 13 (show kd 1 = 13 by decide) (by decide) rfl (by rw [show ln 1 = 5 by decide]; exact hn7) (58 + 52 * a1.toNatClampNeg) (drf13 ((show kd 1 = 13 by decide))) dX6_number_13 ?_
    refine lv_iload_n hx hb dX6_number_14 rfl (lv_at hl 2 rfl) ?_
    obtain ⟨hk8, h⟩ := gk h
    obtain ⟨r9, hc10, h⟩ := Option.bind_eq_some_iff.mp h
    refine ecV (As := [.int a2]) (rest := []) ⟨hx, hb, hml, hown, hts⟩ (e_X1_hasRule l D K ad hap0 (58 + 52 * a1.toNatClampNeg) a2 I G A L r9 hc10) (cwV 1 hts gX6_number_X1_hasRule rfl rfl rfl (by decide +kernel) ⟨Nat.le_of_ble_eq_true rfl, Nat.le_of_ble_eq_true rfl⟩) hK hP hS (s318 hk8.1) hk8.2 (by decide) rfl rfl rfl hl.1 (Nat.le_of_ble_eq_true rfl) (Nat.le_of_ble_eq_true rfl) (Nat.le_of_ble_eq_true rfl) dX6_number_15 (fun H locs hP hS => ?_) rfl
    have hP : va_P D vwCl (VW K ad I G A L) H := hP
    refine lv_if_eq (tgt := 28) hx hb dX6_number_18 (by decide) (fun c_11 => ?_) (fun c_11 => ?_)
    · have h := ip c_11 h
      refine lv_aload_n hx hb dX6_number_28 rfl (lv_at hl 0 rfl) ?_
      refine lv_iconst (v := (-1)) hx hb dX6_number_29 (by decide) ?_
      obtain ⟨⟨r12, I13⟩, hc14, h⟩ := Option.bind_eq_some_iff.mp h
      refine ecV (As := [.int (-1)]) (rest := []) ⟨hx, hb, hml, hown, hts⟩ (e_X6_refuse l D K ad hap0 (-1) I G A L r12 I13 hc14) (cwV 1 hts gX6_number_X6_refuse rfl rfl rfl (by decide +kernel) ⟨Nat.le_of_ble_eq_true rfl, Nat.le_of_ble_eq_true rfl⟩) hK hP hS (by decide) (show kd 0 = 6 by decide) (by decide) rfl rfl rfl hl.1 (Nat.le_of_ble_eq_true rfl) (Nat.le_of_ble_eq_true rfl) (Nat.le_of_ble_eq_true rfl) dX6_number_30 (fun H locs hP hS => ?_) rfl
      have hP : va_P D vwCl (VW K ad I13 G A L) H := hP
      exact W.iret (v := r12) hx hb hr (fun t9 ht9 hW9 => ⟨⟨r12, (I13, G, A, L), rfl, by cases h; exact ⟨rfl, rfl⟩, by rw [ht9]; exact hP, va_K.moved hW9.alike hK⟩, hS.F ht9⟩) hS.2.2 dX6_number_33
    · have h := iN c_11 h
      refine lv_iload_n hx hb dX6_number_21 rfl (lv_at hl 3 rfl) ?_
      obtain ⟨r15, hc16, h⟩ := Option.bind_eq_some_iff.mp h
      refine ecS (As := [.int a3]) (rest := []) ⟨hx, hb, hml, hown, hts⟩ (e_X6_isRuleNumber l D K ad hap0 a3 I G A L r15 hc16) (va_cwS 1 hts gX6_number_X6_isRuleNumber rfl rfl rfl (by decide +kernel) ⟨Nat.le_of_ble_eq_true rfl, Nat.le_of_ble_eq_true rfl⟩) hK hP hS rfl hl.1 (Nat.le_of_ble_eq_true rfl) (Nat.le_of_ble_eq_true rfl) (Nat.le_of_ble_eq_true rfl) dX6_number_22 (fun H locs hP hS => ?_) rfl
      have hP : va_P D vwCl (VW K ad I G A L) H := hP
      refine lv_if_ne (tgt := 34) hx hb dX6_number_25 (by decide) (fun c_17 => ?_) (fun c_17 => ?_)
      · have h := iN c_17 h
        refine lv_aload_n hx hb dX6_number_34 rfl (lv_at hl 0 rfl) ?_
        refine vgI hx hb hts hi6 hown hK hP (0) (by decide) (show kd 0 = 6 by decide) (C := RX6) (T := TX6) (N := 18) rfl 5 (by decide) (by decide) (by decide) (by decide) (hts (.fieldLink RX6 29 "CrateHelpers" "underWay" "I") (by decide +kernel)) (fun _ h9 => h9) dX6_number_35 ?_
        refine lv_bipush (v := (-9)) hx hb dX6_number_38 (by decide) ?_
        refine lv_icmp_eq (tgt := 50) hx hb dX6_number_40 (by decide) (fun c_18 => ?_) (fun c_18 => ?_)
        · have h := ip c_18 h
          refine lv_aload_n hx hb dX6_number_50 rfl (lv_at hl 0 rfl) ?_
          refine lv_aload_n hx hb dX6_number_51 rfl (lv_at hl 0 rfl) ?_
          refine vgC hx hb hts hi6 hown hK hP (0) (by decide) (show kd 0 = 6 by decide) (C := RX6) (T := TX6) (N := 18) rfl 0 (by decide) (by decide) (by decide) (by decide) (1) rfl (hts (.fieldLink RX6 11 "CrateHelpers" "problems" "[LCrateHelpers$Problem;") (by decide +kernel)) (fun _ h9 => h9) dX6_number_52 ?_
          refine lv_iload_n hx hb dX6_number_55 rfl (lv_at hl 1 rfl) ?_
          refine xaald hx hb hK hP (1) (by decide) 5 13 (show kd 1 = 13 by decide) (by decide) rfl (by rw [show ln 1 = 5 by decide]; exact hn7) (58 + 52 * a1.toNatClampNeg) (drf13 ((show kd 1 = 13 by decide))) dX6_number_56 ?_
          refine lv_iload_n hx hb dX6_number_57 rfl (lv_at hl 2 rfl) ?_
          refine lv_iload_n hx hb dX6_number_58 rfl (lv_at hl 3 rfl) ?_
          obtain ⟨⟨r19, I20⟩, hc21, h⟩ := Option.bind_eq_some_iff.mp h
          refine ecV (As := [.int a2, .int a3]) (rest := [.ref (ad 0)]) ⟨hx, hb, hml, hown, hts⟩ (e_X1_setNumber l D K ad hap0 (58 + 52 * a1.toNatClampNeg) a2 a3 I G A L r19 I20 hc21) (cwV 2 hts gX6_number_X1_setNumber rfl rfl rfl (by decide +kernel) ⟨Nat.le_of_ble_eq_true rfl, Nat.le_of_ble_eq_true rfl⟩) hK hP hS (s318 hk8.1) hk8.2 (by decide) rfl rfl rfl hl.1 (Nat.le_of_ble_eq_true rfl) (Nat.le_of_ble_eq_true rfl) (Nat.le_of_ble_eq_true rfl) dX6_number_59 (fun H locs hP hS => ?_) rfl
          have hP : va_P D vwCl (VW K ad I20 G A L) H := hP
          obtain ⟨⟨r22, I23⟩, hc24, h⟩ := Option.bind_eq_some_iff.mp h
          refine ecV (As := [.int r19]) (rest := []) ⟨hx, hb, hml, hown, hts⟩ (e_X6_grant l D K ad hap0 r19 I20 G A L r22 I23 hc24) (cwV 1 hts gX6_number_X6_grant rfl rfl rfl (by decide +kernel) ⟨Nat.le_of_ble_eq_true rfl, Nat.le_of_ble_eq_true rfl⟩) hK hP hS (by decide) (show kd 0 = 6 by decide) (by decide) rfl rfl rfl hl.1 (Nat.le_of_ble_eq_true rfl) (Nat.le_of_ble_eq_true rfl) (Nat.le_of_ble_eq_true rfl) dX6_number_62 (fun H locs hP hS => ?_) rfl
          have hP : va_P D vwCl (VW K ad I23 G A L) H := hP
          exact W.iret (v := r22) hx hb hr (fun t9 ht9 hW9 => ⟨⟨r22, (I23, G, A, L), rfl, by cases h; exact ⟨rfl, rfl⟩, by rw [ht9]; exact hP, va_K.moved hW9.alike hK⟩, hS.F ht9⟩) hS.2.2 dX6_number_65
        · have h := iN c_18 h
          refine lv_aload_n hx hb dX6_number_43 rfl (lv_at hl 0 rfl) ?_
          refine lv_bipush (v := (-2)) hx hb dX6_number_44 (by decide) ?_
          obtain ⟨⟨r25, I26⟩, hc27, h⟩ := Option.bind_eq_some_iff.mp h
          refine ecV (As := [.int (-2)]) (rest := []) ⟨hx, hb, hml, hown, hts⟩ (e_X6_refuse l D K ad hap0 (-2) I G A L r25 I26 hc27) (cwV 1 hts gX6_number_X6_refuse rfl rfl rfl (by decide +kernel) ⟨Nat.le_of_ble_eq_true rfl, Nat.le_of_ble_eq_true rfl⟩) hK hP hS (by decide) (show kd 0 = 6 by decide) (by decide) rfl rfl rfl hl.1 (Nat.le_of_ble_eq_true rfl) (Nat.le_of_ble_eq_true rfl) (Nat.le_of_ble_eq_true rfl) dX6_number_46 (fun H locs hP hS => ?_) rfl
          have hP : va_P D vwCl (VW K ad I26 G A L) H := hP
          exact W.iret (v := r25) hx hb hr (fun t9 ht9 hW9 => ⟨⟨r25, (I26, G, A, L), rfl, by cases h; exact ⟨rfl, rfl⟩, by rw [ht9]; exact hP, va_K.moved hW9.alike hK⟩, hS.F ht9⟩) hS.2.2 dX6_number_49
      · have h := ip c_17 h
        refine lv_aload_n hx hb dX6_number_28 rfl (lv_at hl 0 rfl) ?_
        refine lv_iconst (v := (-1)) hx hb dX6_number_29 (by decide) ?_
        obtain ⟨⟨r28, I29⟩, hc30, h⟩ := Option.bind_eq_some_iff.mp h
        refine ecV (As := [.int (-1)]) (rest := []) ⟨hx, hb, hml, hown, hts⟩ (e_X6_refuse l D K ad hap0 (-1) I G A L r28 I29 hc30) (cwV 1 hts gX6_number_X6_refuse rfl rfl rfl (by decide +kernel) ⟨Nat.le_of_ble_eq_true rfl, Nat.le_of_ble_eq_true rfl⟩) hK hP hS (by decide) (show kd 0 = 6 by decide) (by decide) rfl rfl rfl hl.1 (Nat.le_of_ble_eq_true rfl) (Nat.le_of_ble_eq_true rfl) (Nat.le_of_ble_eq_true rfl) dX6_number_30 (fun H locs hP hS => ?_) rfl
        have hP : va_P D vwCl (VW K ad I29 G A L) H := hP
        exact W.iret (v := r28) hx hb hr (fun t9 ht9 hW9 => ⟨⟨r28, (I29, G, A, L), rfl, by cases h; exact ⟨rfl, rfl⟩, by rw [ht9]; exact hP, va_K.moved hW9.alike hK⟩, hS.F ht9⟩) hS.2.2 dX6_number_33
set_option maxHeartbeats 4000000 in
set_option maxRecDepth 100000 in
theorem e_X2_add (l : Launch) (D : va_G) (K : Nat → ClassId) (ad : Nat → Nat) (hap0 : apart ad (fun _ => True)) (o : Nat) (a1 : Int32) (a2 : Int32) (I : Nat → Nat → Int32) (G : Nat → Nat → Nat) (A : Nat → Nat → Int32) (L : Nat → Nat → Int64) (I0 : Nat → Nat → Int32) (A0 : Nat → Nat → Int32) (h : f_X2_add I A o a1 a2 = some (I0, A0)) : Cv l D K ad yX2_add wsX2_add 0 0 [.ref (ad o), .int a1, .int a2] (I, G, A, L) (fun (u : Mem) => u = (I0, G, A0, L)) := by
  intro sz
  refine Met.ofW (cc := cX2_add) (maxL := 3) (ret := none) (by decide) rfl ?_
  intro p e s m args below meth c s₁ Bd hml hv0
  obtain ⟨rfl, hsz, hP, hK⟩ := hv0
  have hx := Bd.exec
  have hb := Bd.bytes
  have hr := Bd.returns
  have hts := atoms_spec (ws := wsX2_add) Bd.pre
  have hown : s.vm.findClass RX2 = some m.cls := findClass_of_methodNamed Bd.named
  have hlocks := Bd.notSynchronized
  have hi2 : ∀ w ∈ u_ws RX2 TX2 7, w ∈ wsX2_add := fun w h => List.mem_cons_of_mem _ (List.mem_append_right _ h)
  subst hsz
  have hap := vF_ap hap0 s.heap.size
  have hS : va_S (vF ad s.heap.size) s.heap s.heap [] := va_S.rf
  have hP : va_P D vwCl (VW K ad I G A L) s.heap := hP
  have hl := lv_entry ([.ref (ad o), .int a1, .int a2]) (n := 3) (Nat.le_of_ble_eq_true rfl)
  rw [lg_entry_eq]
  generalize (lg_sl ([.ref (ad o), .int a1, .int a2]) ++ List.replicate (3 - (lg_sl ([.ref (ad o), .int a1, .int a2])).length) Slot.unset).toArray = ls at hl ⊢
  have hl : lv_has ls 3 [(0, .ref (ad o)), (1, .int a1), (2, .int a2)] := hl
  rw [f_X2_add] at h
  refine lv_aload_n hx hb dX2_add_0 rfl (lv_at hl 0 rfl) ?_
  obtain ⟨hk1, h⟩ := gk h
  refine vgS hx hb hts hi2 hown hK hP (o) (s318 hk1.1) hk1.2 (C := RX2) (T := TX2) (N := 7) rfl 3 (by decide) (by decide) (by decide) (by decide) (o + 1) rfl (hts (.fieldLink RX2 21 "CrateHelpers$Rule" "variables" "[I") (by decide +kernel)) (fun _ h9 => h9) dX2_add_1 ?_
  refine lv_aload_n hx hb dX2_add_4 rfl (lv_at hl 0 rfl) ?_
  refine vgI hx hb hts hi2 hown hK hP (o) (s318 hk1.1) hk1.2 (C := RX2) (T := TX2) (N := 7) rfl 2 (by decide) (by decide) (by decide) (by decide) (hts (.fieldLink RX2 18 "CrateHelpers$Rule" "parts" "I") (by decide +kernel)) (fun _ h9 => h9) dX2_add_5 ?_
  refine lv_iload_n hx hb dX2_add_8 rfl (lv_at hl 1 rfl) ?_
  obtain ⟨hk2, h⟩ := gk h
  obtain ⟨hn3, h⟩ := gk h
  refine xiast hx hb hK hP hap hS (o + 1) (s318 hk2.1) hk2.2 hn3 dX2_add_9 (fun H locs hP hS => ?_)
  obtain ⟨A4, eA4, h⟩ := bd_e h
  rw [← eA4] at hP
  have hP : va_P D vwCl (VW K ad I G A4 L) H := hP
  refine lv_aload_n hx hb dX2_add_10 rfl (lv_at hl 0 rfl) ?_
  refine vgS hx hb hts hi2 hown hK hP (o) (s318 hk1.1) hk1.2 (C := RX2) (T := TX2) (N := 7) rfl 4 (by decide) (by decide) (by decide) (by decide) (o + 2) rfl (hts (.fieldLink RX2 25 "CrateHelpers$Rule" "weights" "[I") (by decide +kernel)) (fun _ h9 => h9) dX2_add_11 ?_
  refine lv_aload_n hx hb dX2_add_14 rfl (lv_at hl 0 rfl) ?_
  refine vgI hx hb hts hi2 hown hK hP (o) (s318 hk1.1) hk1.2 (C := RX2) (T := TX2) (N := 7) rfl 2 (by decide) (by decide) (by decide) (by decide) (hts (.fieldLink RX2 18 "CrateHelpers$Rule" "parts" "I") (by decide +kernel)) (fun _ h9 => h9) dX2_add_15 ?_
  refine lv_iload_n hx hb dX2_add_18 rfl (lv_at hl 2 rfl) ?_
  obtain ⟨hk5, h⟩ := gk h
  obtain ⟨hn6, h⟩ := gk h
  refine xiast hx hb hK hP hap hS (o + 2) (s318 hk5.1) hk5.2 hn6 dX2_add_19 (fun H locs hP hS => ?_)
  obtain ⟨A7, eA7, h⟩ := bd_e h
  rw [← eA7] at hP
  have hP : va_P D vwCl (VW K ad I G A7 L) H := hP
  refine lv_aload_n hx hb dX2_add_20 rfl (lv_at hl 0 rfl) ?_
  refine vgS hx hb hts hi2 hown hK hP (o) (s318 hk1.1) hk1.2 (C := RX2) (T := TX2) (N := 7) rfl 5 (by decide) (by decide) (by decide) (by decide) (o + 3) rfl (hts (.fieldLink RX2 28 "CrateHelpers$Rule" "isPart" "[Z") (by decide +kernel)) (fun _ h9 => h9) dX2_add_21 ?_
  refine lv_iload_n hx hb dX2_add_24 rfl (lv_at hl 1 rfl) ?_
  refine lv_iconst (v := 1) hx hb dX2_add_25 (by decide) ?_
  obtain ⟨hk8, h⟩ := gk h
  obtain ⟨hn9, h⟩ := gk h
  refine xzast hx hb hK hP hap hS (o + 3) (s318 hk8.1) hk8.2 hn9 dX2_add_26 (fun H locs hP hS => ?_)
  obtain ⟨A10, eA10, h⟩ := bd_e h
  rw [← eA10] at hP
  have hP : va_P D vwCl (VW K ad I G A10 L) H := hP
  refine lv_aload_n hx hb dX2_add_27 rfl (lv_at hl 0 rfl) ?_
  refine vgS hx hb hts hi2 hown hK hP (o) (s318 hk1.1) hk1.2 (C := RX2) (T := TX2) (N := 7) rfl 6 (by decide) (by decide) (by decide) (by decide) (o + 4) rfl (hts (.fieldLink RX2 32 "CrateHelpers$Rule" "weightOf" "[I") (by decide +kernel)) (fun _ h9 => h9) dX2_add_28 ?_
  refine lv_iload_n hx hb dX2_add_31 rfl (lv_at hl 1 rfl) ?_
  refine lv_iload_n hx hb dX2_add_32 rfl (lv_at hl 2 rfl) ?_
  obtain ⟨hk11, h⟩ := gk h
  obtain ⟨hn12, h⟩ := gk h
  refine xiast hx hb hK hP hap hS (o + 4) (s318 hk11.1) hk11.2 hn12 dX2_add_33 (fun H locs hP hS => ?_)
  obtain ⟨A13, eA13, h⟩ := bd_e h
  rw [← eA13] at hP
  have hP : va_P D vwCl (VW K ad I G A13 L) H := hP
  refine lv_aload_n hx hb dX2_add_34 rfl (lv_at hl 0 rfl) ?_
  refine lv_dup hx hb dX2_add_35 rfl ?_
  refine vgI hx hb hts hi2 hown hK hP (o) (s318 hk1.1) hk1.2 (C := RX2) (T := TX2) (N := 7) rfl 2 (by decide) (by decide) (by decide) (by decide) (hts (.fieldLink RX2 18 "CrateHelpers$Rule" "parts" "I") (by decide +kernel)) (fun _ h9 => h9) dX2_add_36 ?_
  refine lv_iconst (v := 1) hx hb dX2_add_39 (by decide) ?_
  refine lv_iadd hx hb dX2_add_40 ?_
  refine vpI (v := ((I o 2) + 1)) (ty := .int) hx hb hts hi2 tyX2 tyX2_ok nmX2 hown hK hP hap hS (o) (s318 hk1.1) hk1.2 (C := RX2) (T := TX2) (N := 7) rfl 2 (by decide) (by decide) (by decide) (by decide) (hts (.fieldLink RX2 18 "CrateHelpers$Rule" "parts" "I") (by decide +kernel)) (fun _ h9 => h9) rfl (by decide +kernel) rfl rfl dX2_add_41 (fun H locs hP hS => ?_)
  obtain ⟨I14, eI14, h⟩ := bd_e h
  rw [← eI14] at hP
  have hP : va_P D vwCl (VW K ad I14 G A13 L) H := hP
  exact W.vret hx hb hr (fun t9 ht9 hW9 => ⟨⟨(I14, G, A13, L), rfl, by cases h; rfl, by rw [ht9]; exact hP, va_K.moved hW9.alike hK⟩, hS.F ht9⟩) hS.2.2 dX2_add_44
set_option maxHeartbeats 4000000 in
set_option maxRecDepth 100000 in
theorem e_X1_addPart (l : Launch) (D : va_G) (K : Nat → ClassId) (ad : Nat → Nat) (hap0 : apart ad (fun _ => True)) (o : Nat) (a1 : Int32) (a2 : Int32) (a3 : Int32) (I : Nat → Nat → Int32) (G : Nat → Nat → Nat) (A : Nat → Nat → Int32) (L : Nat → Nat → Int64) (r0 : Int32) (I0 : Nat → Nat → Int32) (A0 : Nat → Nat → Int32) (h : f_X1_addPart I A o a1 a2 a3 = some (r0, I0, A0)) : Ci l D K ad yX1_addPart wsX1_addPart 1 25 [.ref (ad o), .int a1, .int a2, .int a3] (I, G, A, L) (fun (r : Int32) (u : Mem) => r = r0 ∧ u = (I0, G, A0, L)) := by
  intro sz
  refine Met.ofW (cc := cX1_addPart) (maxL := 4) (ret := (some .int)) (by decide) rfl ?_
  intro p e s m args below meth c s₁ Bd hml hv0
  obtain ⟨rfl, hsz, hP, hK⟩ := hv0
  have hx := Bd.exec
  have hb := Bd.bytes
  have hr := Bd.returns
  have hts := atoms_spec (ws := wsX1_addPart) Bd.pre
  have hown : s.vm.findClass RX1 = some m.cls := findClass_of_methodNamed Bd.named
  have hlocks := Bd.notSynchronized
  have hi1 : ∀ w ∈ u_ws RX1 TX1 9, w ∈ wsX1_addPart := fun w h => List.mem_cons_of_mem _ (List.mem_append_left _ (List.mem_append_right _ h))
  have hi2 : ∀ w ∈ u_ws RX2 TX2 7, w ∈ wsX1_addPart := fun w h => List.mem_cons_of_mem _ (List.mem_append_right _ h)
  subst hsz
  have hap := vF_ap hap0 s.heap.size
  have hS : va_S (vF ad s.heap.size) s.heap s.heap [] := va_S.rf
  have hP : va_P D vwCl (VW K ad I G A L) s.heap := hP
  have hl := lv_entry ([.ref (ad o), .int a1, .int a2, .int a3]) (n := 4) (Nat.le_of_ble_eq_true rfl)
  rw [lg_entry_eq]
  generalize (lg_sl ([.ref (ad o), .int a1, .int a2, .int a3]) ++ List.replicate (4 - (lg_sl ([.ref (ad o), .int a1, .int a2, .int a3])).length) Slot.unset).toArray = ls at hl ⊢
  have hl : lv_has ls 4 [(0, .ref (ad o)), (1, .int a1), (2, .int a2), (3, .int a3)] := hl
  rw [f_X1_addPart] at h
  refine lv_aload_n hx hb dX1_addPart_0 rfl (lv_at hl 0 rfl) ?_
  obtain ⟨hk1, h⟩ := gk h
  obtain ⟨I2, hc3, h⟩ := Option.bind_eq_some_iff.mp h
  refine ecVv (As := []) (rest := []) ⟨hx, hb, hml, hown, hts⟩ (e_X1_change l D K ad hap0 o I G A L I2 hc3) (cwV 0 hts gX1_addPart_X1_change rfl rfl rfl (by decide +kernel) ⟨Nat.le_of_ble_eq_true rfl, Nat.le_of_ble_eq_true rfl⟩) hK hP hS (s318 hk1.1) hk1.2 (by decide) rfl rfl rfl hl.1 (Nat.le_of_ble_eq_true rfl) (Nat.le_of_ble_eq_true rfl) (Nat.le_of_ble_eq_true rfl) dX1_addPart_1 (fun H locs hP hS => ?_) rfl
  have hP : va_P D vwCl (VW K ad I2 G A L) H := hP
  refine lv_aload_n hx hb dX1_addPart_4 rfl (lv_at hl 0 rfl) ?_
  refine vgS hx hb hts hi1 hown hK hP (o) (s318 hk1.1) hk1.2 (C := RX1) (T := TX1) (N := 9) rfl 7 (by decide) (by decide) (by decide) (by decide) (o + 10) rfl (hts (.fieldLink RX1 39 "CrateHelpers$Problem" "rules" "[LCrateHelpers$Rule;") (by decide +kernel)) (fun _ h9 => h9) dX1_addPart_5 ?_
  refine lv_iload_n hx hb dX1_addPart_8 rfl (lv_at hl 1 rfl) ?_
  obtain ⟨hk4, h⟩ := gk h
  obtain ⟨hn5, h⟩ := gk h
  refine xaald hx hb hK hP (o + 10) (s318 hk4.1) 6 14 hk4.2 (by decide) rfl hn5 (o + 12 + 5 * a1.toNatClampNeg) (drf14 (hk4.2)) dX1_addPart_9 ?_
  refine lv_iload_n hx hb dX1_addPart_10 rfl (lv_at hl 2 rfl) ?_
  refine lv_iload_n hx hb dX1_addPart_11 rfl (lv_at hl 3 rfl) ?_
  obtain ⟨hk6, h⟩ := gk h
  obtain ⟨⟨I7, A8⟩, hc9, h⟩ := Option.bind_eq_some_iff.mp h
  refine ecVv (As := [.int a2, .int a3]) (rest := []) ⟨hx, hb, hml, hown, hts⟩ (e_X2_add l D K ad hap0 (o + 12 + 5 * a1.toNatClampNeg) a2 a3 I2 G A L I7 A8 hc9) (cwV 2 hts gX1_addPart_X2_add rfl rfl rfl (by decide +kernel) ⟨Nat.le_of_ble_eq_true rfl, Nat.le_of_ble_eq_true rfl⟩) hK hP hS (s318 hk6.1) hk6.2 (by decide) rfl rfl rfl hl.1 (Nat.le_of_ble_eq_true rfl) (Nat.le_of_ble_eq_true rfl) (Nat.le_of_ble_eq_true rfl) dX1_addPart_12 (fun H locs hP hS => ?_) rfl
  have hP : va_P D vwCl (VW K ad I7 G A8 L) H := hP
  refine lv_aload_n hx hb dX1_addPart_15 rfl (lv_at hl 0 rfl) ?_
  refine vgS hx hb hts hi1 hown hK hP (o) (s318 hk1.1) hk1.2 (C := RX1) (T := TX1) (N := 9) rfl 7 (by decide) (by decide) (by decide) (by decide) (o + 10) rfl (hts (.fieldLink RX1 39 "CrateHelpers$Problem" "rules" "[LCrateHelpers$Rule;") (by decide +kernel)) (fun _ h9 => h9) dX1_addPart_16 ?_
  refine lv_iload_n hx hb dX1_addPart_19 rfl (lv_at hl 1 rfl) ?_
  refine xaald hx hb hK hP (o + 10) (s318 hk4.1) 6 14 hk4.2 (by decide) rfl hn5 (o + 12 + 5 * a1.toNatClampNeg) (drf14 (hk4.2)) dX1_addPart_20 ?_
  refine vgI hx hb hts hi2 hown hK hP (o + 12 + 5 * a1.toNatClampNeg) (s318 hk6.1) hk6.2 (C := RX2) (T := TX2) (N := 7) rfl 2 (by decide) (by decide) (by decide) (by decide) (hts (.fieldLink RX1 64 "CrateHelpers$Rule" "parts" "I") (by decide +kernel)) (fun _ h9 => h9) dX1_addPart_21 ?_
  exact W.iret (v := (I7 (o + 12 + 5 * a1.toNatClampNeg) 2)) hx hb hr (fun t9 ht9 hW9 => ⟨⟨(I7 (o + 12 + 5 * a1.toNatClampNeg) 2), (I7, G, A8, L), rfl, by cases h; exact ⟨rfl, rfl⟩, by rw [ht9]; exact hP, va_K.moved hW9.alike hK⟩, hS.F ht9⟩) hS.2.2 dX1_addPart_24
