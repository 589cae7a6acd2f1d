/-! part 53.c02 -/
set_option maxHeartbeats 4000000 in
set_option maxRecDepth 100000 in
theorem e_X6_giveUp (l : Launch) (D : va_G) (K : Nat → ClassId) (ad : Nat → Nat) (hap0 : apart ad (fun _ => True)) (I : Nat → Nat → Int32) (G : Nat → Nat → Nat) (A : Nat → Nat → Int32) (L : Nat → Nat → Int64) (r0 : Int32) (I0 : Nat → Nat → Int32) (h : f_X6_giveUp I = some (r0, I0)) : Ci l D K ad yX6_giveUp wsX6_giveUp 0 0 [.ref (ad 0)] (I, G, A, L) (fun (r : Int32) (u : Mem) => r = r0 ∧ u = (I0, G, A, L)) := by
  intro sz
  refine Met.ofW (cc := cX6_giveUp) (maxL := 2) (ret := (some .int)) (by decide) rfl ?_
  intro p e s m args below meth c s₁ Bd hml hv0
  obtain ⟨rfl, hsz, hP, hK⟩ := hv0
  have hx := Bd.exec
  have hb := Bd.bytes
  have hr := Bd.returns
  have hts := atoms_spec (ws := wsX6_giveUp) Bd.pre
  have hown : s.vm.findClass RX6 = some m.cls := findClass_of_methodNamed Bd.named
  have hlocks := Bd.notSynchronized
  have hi6 : ∀ w ∈ u_ws RX6 TX6 18, w ∈ wsX6_giveUp := fun w h => List.mem_cons_of_mem _ (List.mem_append_right _ h)
  subst hsz
  have hap := vF_ap hap0 s.heap.size
  have hS : va_S (vF ad s.heap.size) s.heap s.heap [] := va_S.rf
  have hP : va_P D vwCl (VW K ad I G A L) s.heap := hP
  have hl := lv_entry ([.ref (ad 0)]) (n := 2) (Nat.le_of_ble_eq_true rfl)
  rw [lg_entry_eq]
  generalize (lg_sl ([.ref (ad 0)]) ++ List.replicate (2 - (lg_sl ([.ref (ad 0)])).length) Slot.unset).toArray = ls at hl ⊢
  have hl : lv_has ls 2 [(0, .ref (ad 0))] := hl
  rw [f_X6_giveUp] at h
  refine lv_aload_n hx hb dX6_giveUp_0 rfl (lv_at hl 0 rfl) ?_
  refine vgI hx hb hts hi6 hown hK hP (0) (by decide) (show kd 0 = 6 by decide) (C := RX6) (T := TX6) (N := 18) rfl 5 (by decide) (by decide) (by decide) (by decide) (hts (.fieldLink RX6 29 "CrateHelpers" "underWay" "I") (by decide +kernel)) (fun _ h9 => h9) dX6_giveUp_1 ?_
  refine lv_bipush (v := (-9)) hx hb dX6_giveUp_4 (by decide) ?_
  refine lv_icmp_ne (tgt := 12) hx hb dX6_giveUp_6 (by decide) (fun c_1 => ?_) (fun c_1 => ?_)
  · have h := iN c_1 h
    refine lv_aload_n hx hb dX6_giveUp_12 rfl (lv_at hl 0 rfl) ?_
    refine vgI hx hb hts hi6 hown hK hP (0) (by decide) (show kd 0 = 6 by decide) (C := RX6) (T := TX6) (N := 18) rfl 5 (by decide) (by decide) (by decide) (by decide) (hts (.fieldLink RX6 29 "CrateHelpers" "underWay" "I") (by decide +kernel)) (fun _ h9 => h9) dX6_giveUp_13 ?_
    refine lv_istore_n (lv' := [(1, .int (I 0 5)), (0, .ref (ad 0))]) hx hb dX6_giveUp_16 rfl hl (by decide) rfl (fun ls hl => ?_)
    refine lv_aload_n hx hb dX6_giveUp_17 rfl (lv_at hl 1 rfl) ?_
    refine lv_bipush (v := (-9)) hx hb dX6_giveUp_18 (by decide) ?_
    refine vpI (v := (-9)) (ty := .int) hx hb hts hi6 tyX6 tyX6_ok nmX6 hown hK hP hap hS (0) (by decide) (show kd 0 = 6 by decide) (C := RX6) (T := TX6) (N := 18) rfl 5 (by decide) (by decide) (by decide) (by decide) (hts (.fieldLink RX6 29 "CrateHelpers" "underWay" "I") (by decide +kernel)) (fun _ h9 => h9) rfl (by decide +kernel) rfl rfl dX6_giveUp_20 (fun H locs hP hS => ?_)
    obtain ⟨I2, eI2, h⟩ := bd_e h
    rw [← eI2] at hP
    have hP : va_P D vwCl (VW K ad I2 G A L) H := hP
    refine lv_iload_n hx hb dX6_giveUp_23 rfl (lv_at hl 0 rfl) ?_
    exact W.iret (v := (I 0 5)) hx hb hr (fun t9 ht9 hW9 => ⟨⟨(I 0 5), (I2, G, A, L), rfl, by cases h; exact ⟨rfl, rfl⟩, by rw [ht9]; exact hP, va_K.moved hW9.alike hK⟩, hS.F ht9⟩) hS.2.2 dX6_giveUp_24
  · have h := ip c_1 h
    refine lv_bipush (v := (-2)) hx hb dX6_giveUp_9 (by decide) ?_
    exact W.iret (v := (-2)) hx hb hr (fun t9 ht9 hW9 => ⟨⟨(-2), (I, G, A, L), rfl, by cases h; exact ⟨rfl, rfl⟩, by rw [ht9]; exact hP, va_K.moved hW9.alike hK⟩, hS.F ht9⟩) hS.2.2 dX6_giveUp_11
set_option maxHeartbeats 4000000 in
set_option maxRecDepth 100000 in
theorem e_X6_helper (l : Launch) (D : va_G) (K : Nat → ClassId) (ad : Nat → Nat) (hap0 : apart ad (fun _ => True)) (a1 : Int32) (a2 : Int32) (I : Nat → Nat → Int32) (G : Nat → Nat → Nat) (A : Nat → Nat → Int32) (L : Nat → Nat → Int64) (r0 : Int32) (h : f_X6_helper A a1 a2 = some r0) : Ci l D K ad yX6_helper wsX6_helper 1 25 [.ref (ad 0), .int a1, .int a2] (I, G, A, L) (fun (r : Int32) (u : Mem) => r = r0 ∧ u = (I, G, A, L)) := by
  intro sz
  refine Met.ofW (cc := cX6_helper) (maxL := 3) (ret := (some .int)) (by decide) rfl ?_
  intro p e s m args below meth c s₁ Bd hml hv0
  obtain ⟨rfl, hsz, hP, hK⟩ := hv0
  have hx := Bd.exec
  have hb := Bd.bytes
  have hr := Bd.returns
  have hts := atoms_spec (ws := wsX6_helper) Bd.pre
  have hown : s.vm.findClass RX6 = some m.cls := findClass_of_methodNamed Bd.named
  have hlocks := Bd.notSynchronized
  have hi6 : ∀ w ∈ u_ws RX6 TX6 18, w ∈ wsX6_helper := fun w h => List.mem_cons_of_mem _ (List.mem_append_left _ (List.mem_append_right _ h))
  have hi4 : ∀ w ∈ u_ws RX4 TX4 7, w ∈ wsX6_helper := fun w h => List.mem_cons_of_mem _ (List.mem_append_right _ h)
  subst hsz
  have hap := vF_ap hap0 s.heap.size
  have hS : va_S (vF ad s.heap.size) s.heap s.heap [] := va_S.rf
  have hP : va_P D vwCl (VW K ad I G A L) s.heap := hP
  have hl := lv_entry ([.ref (ad 0), .int a1, .int a2]) (n := 3) (Nat.le_of_ble_eq_true rfl)
  rw [lg_entry_eq]
  generalize (lg_sl ([.ref (ad 0), .int a1, .int a2]) ++ List.replicate (3 - (lg_sl ([.ref (ad 0), .int a1, .int a2])).length) Slot.unset).toArray = ls at hl ⊢
  have hl : lv_has ls 3 [(0, .ref (ad 0)), (1, .int a1), (2, .int a2)] := hl
  rw [f_X6_helper] at h
  refine lv_iload_n hx hb dX6_helper_0 rfl (lv_at hl 1 rfl) ?_
  refine lv_iconst (v := 0) hx hb dX6_helper_1 (by decide) ?_
  refine lv_iconst (v := 4) hx hb dX6_helper_2 (by decide) ?_
  obtain ⟨r1, hc2, h⟩ := Option.bind_eq_some_iff.mp h
  refine ecS (As := [.int a1, .int 0, .int 4]) (rest := []) ⟨hx, hb, hml, hown, hts⟩ (e_X6_isWithin l D K ad hap0 a1 0 4 I G A L r1 hc2) (va_cwS 3 hts gX6_helper_X6_isWithin rfl rfl rfl (by decide +kernel) ⟨Nat.le_of_ble_eq_true rfl, Nat.le_of_ble_eq_true rfl⟩) hK hP hS rfl hl.1 (Nat.le_of_ble_eq_true rfl) (Nat.le_of_ble_eq_true rfl) (Nat.le_of_ble_eq_true rfl) dX6_helper_3 (fun H locs hP hS => ?_) rfl
  have hP : va_P D vwCl (VW K ad I G A L) H := hP
  refine lv_if_ne (tgt := 11) hx hb dX6_helper_6 (by decide) (fun c_3 => ?_) (fun c_3 => ?_)
  · have h := iN c_3 h
    refine lv_iload_n hx hb dX6_helper_11 rfl (lv_at hl 2 rfl) ?_
    rcases sw_2 a2 with hs4 | hs4 | hs4 | hs4
    · have h := ip hs4 h
      refine W_top hs4 ?_
      refine lv_tableIn (off := 28) (tgt := 40) hx hb dX6_helper_12 (by decide) (by decide) (by decide) (by decide) ?_
      refine lv_aload_n hx hb dX6_helper_40 rfl (lv_at hl 0 rfl) ?_
      refine vgC hx hb hts hi6 hown hK hP (0) (by decide) (show kd 0 = 6 by decide) (C := RX6) (T := TX6) (N := 18) rfl 2 (by decide) (by decide) (by decide) (by decide) (2) rfl (hts (.fieldLink RX6 22 "CrateHelpers" "team" "LCrateHelpers$Team;") (by decide +kernel)) (fun _ h9 => h9) dX6_helper_41 ?_
      refine vgS hx hb hts hi4 hown hK hP (2) (by decide) (show kd 2 = 4 by decide) (C := RX4) (T := TX4) (N := 7) rfl 4 (by decide) (by decide) (by decide) (by decide) (5) rfl (hts (.fieldLink RX6 223 "CrateHelpers$Team" "done" "[I") (by decide +kernel)) (fun _ h9 => h9) dX6_helper_44 ?_
      refine lv_iload_n hx hb dX6_helper_47 rfl (lv_at hl 1 rfl) ?_
      obtain ⟨hn5, h⟩ := gk h
      refine xiald hx hb hK hP (5) (by decide) (show kd 5 = 8 by decide) (by rw [show ln 5 = 5 by decide]; exact hn5) dX6_helper_48 ?_
      exact W.iret (v := (A 5 a1.toNatClampNeg)) hx hb hr (fun t9 ht9 hW9 => ⟨⟨(A 5 a1.toNatClampNeg), (I, G, A, L), rfl, by cases h; exact ⟨rfl, rfl⟩, by rw [ht9]; exact hP, va_K.moved hW9.alike hK⟩, hS.F ht9⟩) hS.2.2 dX6_helper_49
    · have h := iN (by rw [hs4]; decide) h
      have h := ip hs4 h
      refine W_top hs4 ?_
      refine lv_tableIn (off := 38) (tgt := 50) hx hb dX6_helper_12 (by decide) (by decide) (by decide) (by decide) ?_
      refine lv_aload_n hx hb dX6_helper_50 rfl (lv_at hl 0 rfl) ?_
      refine vgC hx hb hts hi6 hown hK hP (0) (by decide) (show kd 0 = 6 by decide) (C := RX6) (T := TX6) (N := 18) rfl 2 (by decide) (by decide) (by decide) (by decide) (2) rfl (hts (.fieldLink RX6 22 "CrateHelpers" "team" "LCrateHelpers$Team;") (by decide +kernel)) (fun _ h9 => h9) dX6_helper_51 ?_
      refine vgS hx hb hts hi4 hown hK hP (2) (by decide) (show kd 2 = 4 by decide) (C := RX4) (T := TX4) (N := 7) rfl 5 (by decide) (by decide) (by decide) (by decide) (6) rfl (hts (.fieldLink RX6 226 "CrateHelpers$Team" "idle" "[I") (by decide +kernel)) (fun _ h9 => h9) dX6_helper_54 ?_
      refine lv_iload_n hx hb dX6_helper_57 rfl (lv_at hl 1 rfl) ?_
      obtain ⟨hn6, h⟩ := gk h
      refine xiald hx hb hK hP (6) (by decide) (show kd 6 = 8 by decide) (by rw [show ln 6 = 5 by decide]; exact hn6) dX6_helper_58 ?_
      exact W.iret (v := (A 6 a1.toNatClampNeg)) hx hb hr (fun t9 ht9 hW9 => ⟨⟨(A 6 a1.toNatClampNeg), (I, G, A, L), rfl, by cases h; exact ⟨rfl, rfl⟩, by rw [ht9]; exact hP, va_K.moved hW9.alike hK⟩, hS.F ht9⟩) hS.2.2 dX6_helper_59
    · have h := iN (by rw [hs4]; decide) h
      have h := iN (by rw [hs4]; decide) h
      have h := ip hs4 h
      refine W_top hs4 ?_
      refine lv_tableIn (off := 48) (tgt := 60) hx hb dX6_helper_12 (by decide) (by decide) (by decide) (by decide) ?_
      refine lv_aload_n hx hb dX6_helper_60 rfl (lv_at hl 0 rfl) ?_
      refine vgC hx hb hts hi6 hown hK hP (0) (by decide) (show kd 0 = 6 by decide) (C := RX6) (T := TX6) (N := 18) rfl 2 (by decide) (by decide) (by decide) (by decide) (2) rfl (hts (.fieldLink RX6 22 "CrateHelpers" "team" "LCrateHelpers$Team;") (by decide +kernel)) (fun _ h9 => h9) dX6_helper_61 ?_
      refine vgS hx hb hts hi4 hown hK hP (2) (by decide) (show kd 2 = 4 by decide) (C := RX4) (T := TX4) (N := 7) rfl 6 (by decide) (by decide) (by decide) (by decide) (7) rfl (hts (.fieldLink RX6 229 "CrateHelpers$Team" "replaced" "[I") (by decide +kernel)) (fun _ h9 => h9) dX6_helper_64 ?_
      refine lv_iload_n hx hb dX6_helper_67 rfl (lv_at hl 1 rfl) ?_
      obtain ⟨hn7, h⟩ := gk h
      refine xiald hx hb hK hP (7) (by decide) (show kd 7 = 8 by decide) (by rw [show ln 7 = 5 by decide]; exact hn7) dX6_helper_68 ?_
      exact W.iret (v := (A 7 a1.toNatClampNeg)) hx hb hr (fun t9 ht9 hW9 => ⟨⟨(A 7 a1.toNatClampNeg), (I, G, A, L), rfl, by cases h; exact ⟨rfl, rfl⟩, by rw [ht9]; exact hP, va_K.moved hW9.alike hK⟩, hS.F ht9⟩) hS.2.2 dX6_helper_69
    · have h := iN (fun q => by rw [q] at hs4; exact absurd hs4 (by decide)) h
      have h := iN (fun q => by rw [q] at hs4; exact absurd hs4 (by decide)) h
      have h := iN (fun q => by rw [q] at hs4; exact absurd hs4 (by decide)) h
      refine lv_tableOut (tgt := 70) hx hb dX6_helper_12 hs4 (by decide) ?_
      refine lv_iconst (v := (-1)) hx hb dX6_helper_70 (by decide) ?_
      exact W.iret (v := (-1)) hx hb hr (fun t9 ht9 hW9 => ⟨⟨(-1), (I, G, A, L), rfl, by cases h; exact ⟨rfl, rfl⟩, by rw [ht9]; exact hP, va_K.moved hW9.alike hK⟩, hS.F ht9⟩) hS.2.2 dX6_helper_71
  · have h := ip c_3 h
    refine lv_iconst (v := (-1)) hx hb dX6_helper_9 (by decide) ?_
    exact W.iret (v := (-1)) hx hb hr (fun t9 ht9 hW9 => ⟨⟨(-1), (I, G, A, L), rfl, by cases h; exact ⟨rfl, rfl⟩, by rw [ht9]; exact hP, va_K.moved hW9.alike hK⟩, hS.F ht9⟩) hS.2.2 dX6_helper_10
set_option maxHeartbeats 4000000 in
set_option maxRecDepth 100000 in
theorem e_X4_become (l : Launch) (D : va_G) (K : Nat → ClassId) (ad : Nat → Nat) (hap0 : apart ad (fun _ => True)) (o : Nat) (a1 : Int32) (I : Nat → Nat → Int32) (G : Nat → Nat → Nat) (A : Nat → Nat → Int32) (L : Nat → Nat → Int64) (I0 : Nat → Nat → Int32) (A0 : Nat → Nat → Int32) (h : f_X4_become I A o a1 = some (I0, A0)) : Cv l D K ad yX4_become wsX4_become 1 26 [.ref (ad o), .int a1] (I, G, A, L) (fun (u : Mem) => u = (I0, G, A0, L)) := by
  intro sz
  refine Met.ofW (cc := cX4_become) (maxL := 2) (ret := none) (by decide) rfl ?_
  intro p e s m args below meth c s₁ Bd hml hv0
  obtain ⟨rfl, hsz, hP, hK⟩ := hv0
  have hx := Bd.exec
  have hb := Bd.bytes
  have hr := Bd.returns
  have hts := atoms_spec (ws := wsX4_become) Bd.pre
  have hown : s.vm.findClass RX4 = some m.cls := findClass_of_methodNamed Bd.named
  have hlocks := Bd.notSynchronized
  have hi4 : ∀ w ∈ u_ws RX4 TX4 7, w ∈ wsX4_become := fun w h => List.mem_cons_of_mem _ (List.mem_append_right _ h)
  subst hsz
  have hap := vF_ap hap0 s.heap.size
  have hS : va_S (vF ad s.heap.size) s.heap s.heap [] := va_S.rf
  have hP : va_P D vwCl (VW K ad I G A L) s.heap := hP
  have hl := lv_entry ([.ref (ad o), .int a1]) (n := 2) (Nat.le_of_ble_eq_true rfl)
  rw [lg_entry_eq]
  generalize (lg_sl ([.ref (ad o), .int a1]) ++ List.replicate (2 - (lg_sl ([.ref (ad o), .int a1])).length) Slot.unset).toArray = ls at hl ⊢
  have hl : lv_has ls 2 [(0, .ref (ad o)), (1, .int a1)] := hl
  rw [f_X4_become] at h
  refine lv_aload_n hx hb dX4_become_0 rfl (lv_at hl 0 rfl) ?_
  refine lv_iload_n hx hb dX4_become_1 rfl (lv_at hl 1 rfl) ?_
  obtain ⟨hk1, h⟩ := gk h
  refine vpI (v := a1) (ty := .int) hx hb hts hi4 tyX4 tyX4_ok nmX4 hown hK hP hap hS (o) (s318 hk1.1) hk1.2 (C := RX4) (T := TX4) (N := 7) rfl 0 (by decide) (by decide) (by decide) (by decide) (hts (.fieldLink RX4 9 "CrateHelpers$Team" "size" "I") (by decide +kernel)) (fun _ h9 => h9) rfl (by decide +kernel) rfl rfl dX4_become_2 (fun H locs hP hS => ?_)
  obtain ⟨I2, eI2, h⟩ := bd_e h
  rw [← eI2] at hP
  have hP : va_P D vwCl (VW K ad I2 G A L) H := hP
  refine lv_aload_n hx hb dX4_become_5 rfl (lv_at hl 0 rfl) ?_
  refine vgS hx hb hts hi4 hown hK hP (o) (s318 hk1.1) hk1.2 (C := RX4) (T := TX4) (N := 7) rfl 2 (by decide) (by decide) (by decide) (by decide) (o + 1) rfl (hts (.fieldLink RX4 18 "CrateHelpers$Team" "failAt" "[I") (by decide +kernel)) (fun _ h9 => h9) dX4_become_6 ?_
  refine lv_iconst (v := 0) hx hb dX4_become_9 (by decide) ?_
  obtain ⟨A3, hc4, h⟩ := Option.bind_eq_some_iff.mp h
  refine ecSv (As := [.ref (ad (o + 1)), .int 0]) (rest := []) ⟨hx, hb, hml, hown, hts⟩ (e_J7_fill_53178 l D K ad hap0 (o + 1) 0 I2 G A L A3 hc4) (va_cwS 2 hts gX4_become_J7_fill_53178 rfl rfl rfl (by decide +kernel) ⟨Nat.le_of_ble_eq_true rfl, Nat.le_of_ble_eq_true rfl⟩) hK hP hS rfl hl.1 (Nat.le_of_ble_eq_true rfl) (Nat.le_of_ble_eq_true rfl) (Nat.le_of_ble_eq_true rfl) dX4_become_10 (fun H locs hP hS => ?_) rfl
  have hP : va_P D vwCl (VW K ad I2 G A3 L) H := hP
  exact W.vret hx hb hr (fun t9 ht9 hW9 => ⟨⟨(I2, G, A3, L), rfl, by cases h; rfl, by rw [ht9]; exact hP, va_K.moved hW9.alike hK⟩, hS.F ht9⟩) hS.2.2 dX4_become_13
set_option maxHeartbeats 4000000 in
set_option maxRecDepth 100000 in
theorem e_X6_helpers (l : Launch) (D : va_G) (K : Nat → ClassId) (ad : Nat → Nat) (hap0 : apart ad (fun _ => True)) (a1 : Int32) (I : Nat → Nat → Int32) (G : Nat → Nat → Nat) (A : Nat → Nat → Int32) (L : Nat → Nat → Int64) (r0 : Int32) (I0 : Nat → Nat → Int32) (A0 : Nat → Nat → Int32) (h : f_X6_helpers I A a1 = some (r0, I0, A0)) : Ci l D K ad yX6_helpers wsX6_helpers 2 50 [.ref (ad 0), .int a1] (I, G, A, L) (fun (r : Int32) (u : Mem) => r = r0 ∧ u = (I0, G, A0, L)) := by
  intro sz
  refine Met.ofW (cc := cX6_helpers) (maxL := 3) (ret := (some .int)) (by decide) rfl ?_
  intro p e s m args below meth c s₁ Bd hml hv0
  obtain ⟨rfl, hsz, hP, hK⟩ := hv0
  have hx := Bd.exec
  have hb := Bd.bytes
  have hr := Bd.returns
  have hts := atoms_spec (ws := wsX6_helpers) Bd.pre
  have hown : s.vm.findClass RX6 = some m.cls := findClass_of_methodNamed Bd.named
  have hlocks := Bd.notSynchronized
  have hi6 : ∀ w ∈ u_ws RX6 TX6 18, w ∈ wsX6_helpers := fun w h => List.mem_cons_of_mem _ (List.mem_append_left _ (List.mem_append_right _ h))
  have hi4 : ∀ w ∈ u_ws RX4 TX4 7, w ∈ wsX6_helpers := fun w h => List.mem_cons_of_mem _ (List.mem_append_right _ h)
  subst hsz
  have hap := vF_ap hap0 s.heap.size
  have hS : va_S (vF ad s.heap.size) s.heap s.heap [] := va_S.rf
  have hP : va_P D vwCl (VW K ad I G A L) s.heap := hP
  have hl := lv_entry ([.ref (ad 0), .int a1]) (n := 3) (Nat.le_of_ble_eq_true rfl)
  rw [lg_entry_eq]
  generalize (lg_sl ([.ref (ad 0), .int a1]) ++ List.replicate (3 - (lg_sl ([.ref (ad 0), .int a1])).length) Slot.unset).toArray = ls at hl ⊢
  have hl : lv_has ls 3 [(0, .ref (ad 0)), (1, .int a1)] := hl
  rw [f_X6_helpers] at h
  refine lv_iload_n hx hb dX6_helpers_0 rfl (lv_at hl 1 rfl) ?_
  refine lv_iconst (v := 1) hx hb dX6_helpers_1 (by decide) ?_
  refine lv_iconst (v := 5) hx hb dX6_helpers_2 (by decide) ?_
  obtain ⟨r1, hc2, h⟩ := Option.bind_eq_some_iff.mp h
  refine ecS (As := [.int a1, .int 1, .int 5]) (rest := []) ⟨hx, hb, hml, hown, hts⟩ (e_X6_isWithin l D K ad hap0 a1 1 5 I G A L r1 hc2) (va_cwS 3 hts gX6_helpers_X6_isWithin rfl rfl rfl (by decide +kernel) ⟨Nat.le_of_ble_eq_true rfl, Nat.le_of_ble_eq_true rfl⟩) hK hP hS rfl hl.1 (Nat.le_of_ble_eq_true rfl) (Nat.le_of_ble_eq_true rfl) (Nat.le_of_ble_eq_true rfl) dX6_helpers_3 (fun H locs hP hS => ?_) rfl
  have hP : va_P D vwCl (VW K ad I G A L) H := hP
  refine lv_if_ne (tgt := 11) hx hb dX6_helpers_6 (by decide) (fun c_3 => ?_) (fun c_3 => ?_)
  · have h := iN c_3 h
    refine lv_aload_n hx hb dX6_helpers_11 rfl (lv_at hl 0 rfl) ?_
    refine vgI hx hb hts hi6 hown hK hP (0) (by decide) (show kd 0 = 6 by decide) (C := RX6) (T := TX6) (N := 18) rfl 5 (by decide) (by decide) (by decide) (by decide) (hts (.fieldLink RX6 29 "CrateHelpers" "underWay" "I") (by decide +kernel)) (fun _ h9 => h9) dX6_helpers_12 ?_
    refine lv_bipush (v := (-9)) hx hb dX6_helpers_15 (by decide) ?_
    refine lv_icmp_eq (tgt := 23) hx hb dX6_helpers_17 (by decide) (fun c_4 => ?_) (fun c_4 => ?_)
    · have h := ip c_4 h
      refine lv_aload_n hx hb dX6_helpers_23 rfl (lv_at hl 0 rfl) ?_
      refine vgC hx hb hts hi6 hown hK hP (0) (by decide) (show kd 0 = 6 by decide) (C := RX6) (T := TX6) (N := 18) rfl 2 (by decide) (by decide) (by decide) (by decide) (2) rfl (hts (.fieldLink RX6 22 "CrateHelpers" "team" "LCrateHelpers$Team;") (by decide +kernel)) (fun _ h9 => h9) dX6_helpers_24 ?_
      refine vgI hx hb hts hi4 hown hK hP (2) (by decide) (show kd 2 = 4 by decide) (C := RX4) (T := TX4) (N := 7) rfl 0 (by decide) (by decide) (by decide) (by decide) (hts (.fieldLink RX6 158 "CrateHelpers$Team" "size" "I") (by decide +kernel)) (fun _ h9 => h9) dX6_helpers_27 ?_
      refine lv_istore_n (lv' := [(2, .int (I 2 0)), (0, .ref (ad 0)), (1, .int a1)]) hx hb dX6_helpers_30 rfl hl (by decide) rfl (fun ls hl => ?_)
      refine lv_aload_n hx hb dX6_helpers_31 rfl (lv_at hl 1 rfl) ?_
      refine vgC hx hb hts hi6 hown hK hP (0) (by decide) (show kd 0 = 6 by decide) (C := RX6) (T := TX6) (N := 18) rfl 2 (by decide) (by decide) (by decide) (by decide) (2) rfl (hts (.fieldLink RX6 22 "CrateHelpers" "team" "LCrateHelpers$Team;") (by decide +kernel)) (fun _ h9 => h9) dX6_helpers_32 ?_
      refine lv_iload_n hx hb dX6_helpers_35 rfl (lv_at hl 2 rfl) ?_
      obtain ⟨⟨I5, A6⟩, hc7, h⟩ := Option.bind_eq_some_iff.mp h
      refine ecVv (As := [.int a1]) (rest := []) ⟨hx, hb, hml, hown, hts⟩ (e_X4_become l D K ad hap0 2 a1 I G A L I5 A6 hc7) (cwV 1 hts gX6_helpers_X4_become rfl rfl rfl (by decide +kernel) ⟨Nat.le_of_ble_eq_true rfl, Nat.le_of_ble_eq_true rfl⟩) hK hP hS (by decide) (show kd 2 = 4 by decide) (by decide) rfl rfl rfl hl.1 (Nat.le_of_ble_eq_true rfl) (Nat.le_of_ble_eq_true rfl) (Nat.le_of_ble_eq_true rfl) dX6_helpers_36 (fun H locs hP hS => ?_) rfl
      have hP : va_P D vwCl (VW K ad I5 G A6 L) H := hP
      refine lv_iload_n hx hb dX6_helpers_39 rfl (lv_at hl 0 rfl) ?_
      exact W.iret (v := (I 2 0)) hx hb hr (fun t9 ht9 hW9 => ⟨⟨(I 2 0), (I5, G, A6, L), rfl, by cases h; exact ⟨rfl, rfl⟩, by rw [ht9]; exact hP, va_K.moved hW9.alike hK⟩, hS.F ht9⟩) hS.2.2 dX6_helpers_40
    · have h := iN c_4 h
      refine lv_bipush (v := (-2)) hx hb dX6_helpers_20 (by decide) ?_
      exact W.iret (v := (-2)) hx hb hr (fun t9 ht9 hW9 => ⟨⟨(-2), (I, G, A, L), rfl, by cases h; exact ⟨rfl, rfl⟩, by rw [ht9]; exact hP, va_K.moved hW9.alike hK⟩, hS.F ht9⟩) hS.2.2 dX6_helpers_22
  · have h := ip c_3 h
    refine lv_iconst (v := (-1)) hx hb dX6_helpers_9 (by decide) ?_
    exact W.iret (v := (-1)) hx hb hr (fun t9 ht9 hW9 => ⟨⟨(-1), (I, G, A, L), rfl, by cases h; exact ⟨rfl, rfl⟩, by rw [ht9]; exact hP, va_K.moved hW9.alike hK⟩, hS.F ht9⟩) hS.2.2 dX6_helpers_10
set_option maxHeartbeats 4000000 in
set_option maxRecDepth 100000 in
theorem e_X6_isRuleNumber (l : Launch) (D : va_G) (K : Nat → ClassId) (ad : Nat → Nat) (hap0 : apart ad (fun _ => True)) (a0 : Int32) (I : Nat → Nat → Int32) (G : Nat → Nat → Nat) (A : Nat → Nat → Int32) (L : Nat → Nat → Int64) (r0 : Int32) (h : f_X6_isRuleNumber a0 = some r0) : Ci l D K ad yX6_isRuleNumber wsX6_isRuleNumber 1 25 [.int a0] (I, G, A, L) (fun (r : Int32) (u : Mem) => r = r0 ∧ u = (I, G, A, L)) := by
  intro sz
  refine Met.ofW (cc := cX6_isRuleNumber) (maxL := 1) (ret := (some .boolean)) (by decide) rfl ?_
  intro p e s m args below meth c s₁ Bd hml hv0
  obtain ⟨rfl, hsz, hP, hK⟩ := hv0
  have hx := Bd.exec
  have hb := Bd.bytes
  have hr := Bd.returns
  have hts := atoms_spec (ws := wsX6_isRuleNumber) Bd.pre
  have hown : s.vm.findClass RX6 = some m.cls := findClass_of_methodNamed Bd.named
  have hlocks := Bd.notSynchronized
  subst hsz
  have hap := vF_ap hap0 s.heap.size
  have hS : va_S (vF ad s.heap.size) s.heap s.heap [] := va_S.rf
  have hP : va_P D vwCl (VW K ad I G A L) s.heap := hP
  have hl := lv_entry ([.int a0]) (n := 1) (Nat.le_of_ble_eq_true rfl)
  rw [lg_entry_eq]
  generalize (lg_sl ([.int a0]) ++ List.replicate (1 - (lg_sl ([.int a0])).length) Slot.unset).toArray = ls at hl ⊢
  have hl : lv_has ls 1 [(0, .int a0)] := hl
  rw [f_X6_isRuleNumber] at h
  refine lv_iload_n hx hb dX6_isRuleNumber_0 rfl (lv_at hl 0 rfl) ?_
  refine lv_sipush (v := (-1000)) hx hb dX6_isRuleNumber_1 (by decide) ?_
  refine lv_sipush (v := 1000) hx hb dX6_isRuleNumber_4 (by decide) ?_
  obtain ⟨r1, hc2, h⟩ := Option.bind_eq_some_iff.mp h
  refine ecS (As := [.int a0, .int (-1000), .int 1000]) (rest := []) ⟨hx, hb, hml, hown, hts⟩ (e_X6_isWithin l D K ad hap0 a0 (-1000) 1000 I G A L r1 hc2) (va_cwS 3 hts gX6_isRuleNumber_X6_isWithin rfl rfl rfl (by decide +kernel) ⟨Nat.le_of_ble_eq_true rfl, Nat.le_of_ble_eq_true rfl⟩) hK hP hS rfl hl.1 (Nat.le_of_ble_eq_true rfl) (Nat.le_of_ble_eq_true rfl) (Nat.le_of_ble_eq_true rfl) dX6_isRuleNumber_7 (fun H locs hP hS => ?_) rfl
  have hP : va_P D vwCl (VW K ad I G A L) H := hP
  obtain ⟨hz3, h⟩ := gk h
  exact W.zret (v := r1) hx hb hr (nar01 hz3) (fun t9 ht9 hW9 => ⟨⟨r1, (I, G, A, L), rfl, by cases h; exact ⟨rfl, rfl⟩, by rw [ht9]; exact hP, va_K.moved hW9.alike hK⟩, hS.F ht9⟩) hS.2.2 dX6_isRuleNumber_10
set_option maxHeartbeats 4000000 in
set_option maxRecDepth 100000 in
theorem e_X6_isSameOutcome (l : Launch) (D : va_G) (K : Nat → ClassId) (ad : Nat → Nat) (hap0 : apart ad (fun _ => True)) (I : Nat → Nat → Int32) (G : Nat → Nat → Nat) (A : Nat → Nat → Int32) (L : Nat → Nat → Int64) (r0 : Int32) (h : f_X6_isSameOutcome A = some r0) : Ci l D K ad yX6_isSameOutcome wsX6_isSameOutcome 0 0 [.ref (ad 0)] (I, G, A, L) (fun (r : Int32) (u : Mem) => r = r0 ∧ u = (I, G, A, L)) := by
  intro sz
  refine Met.ofW (cc := cX6_isSameOutcome) (maxL := 4) (ret := (some .boolean)) (by decide) rfl ?_
  intro p e s m args below meth c s₁ Bd hml hv0
  obtain ⟨rfl, hsz, hP, hK⟩ := hv0
  have hx := Bd.exec
  have hb := Bd.bytes
  have hr := Bd.returns
  have hts := atoms_spec (ws := wsX6_isSameOutcome) Bd.pre
  have hown : s.vm.findClass RX6 = some m.cls := findClass_of_methodNamed Bd.named
  have hlocks := Bd.notSynchronized
  have hi6 : ∀ w ∈ u_ws RX6 TX6 18, w ∈ wsX6_isSameOutcome := fun w h => List.mem_cons_of_mem _ (List.mem_append_right _ h)
  subst hsz
  have hap := vF_ap hap0 s.heap.size
  have hS : va_S (vF ad s.heap.size) s.heap s.heap [] := va_S.rf
  have hP : va_P D vwCl (VW K ad I G A L) s.heap := hP
  have hl := lv_entry ([.ref (ad 0)]) (n := 4) (Nat.le_of_ble_eq_true rfl)
  rw [lg_entry_eq]
  generalize (lg_sl ([.ref (ad 0)]) ++ List.replicate (4 - (lg_sl ([.ref (ad 0)])).length) Slot.unset).toArray = ls at hl ⊢
  have hl : lv_has ls 4 [(0, .ref (ad 0))] := hl
  rw [f_X6_isSameOutcome] at h
  refine lv_iconst (v := 1) hx hb dX6_isSameOutcome_0 (by decide) ?_
  refine lv_istore_n (lv' := [(1, .int 1), (0, .ref (ad 0))]) hx hb dX6_isSameOutcome_1 rfl hl (by decide) rfl (fun ls hl => ?_)
  refine lv_iconst (v := 0) hx hb dX6_isSameOutcome_2 (by decide) ?_
  refine lv_istore_n (lv' := [(2, .int 0), (1, .int 1), (0, .ref (ad 0))]) hx hb dX6_isSameOutcome_3 rfl hl (by decide) rfl (fun ls hl => ?_)
  obtain ⟨k4, ek4, h⟩ := bd_e h
  have kk4 : ∀ (v5 : Int32), k4 v5 = some r0 → ∀ (H : Heap) (locs : List Loc), va_P D vwCl (VW K ad I G A L) H → va_S (vF ad s.heap.size) s.heap H locs → ∀ (ls : Array Slot), lv_has ls 4 [(1, .int v5)] → W p l e ({ frames := 0, cells := 0, slots := 0, locals := 0 }) s m ([.ref (ad 0)] : List Value).toArray below meth c H locs 0 0 (MQ below (va_Qi (fun (r : Int32) (u : Mem) => r = r0 ∧ u = (I, G, A, L)) (vB D K ad) (vF ad s.heap.size)) ([.ref (ad 0)] : List Value).toArray s 0 0 (vF ad s.heap.size)) (F0 m 61 ls []) := by
    intro v5 h H locs hP hS ls hl
    subst ek4
    refine lv_iload_n hx hb dX6_isSameOutcome_61 rfl (lv_at hl 0 rfl) ?_
    obtain ⟨hz6, h⟩ := gk h
    exact W.zret (v := v5) hx hb hr (nar01 hz6) (fun t9 ht9 hW9 => ⟨⟨v5, (I, G, A, L), rfl, by cases h; exact ⟨rfl, rfl⟩, by rw [ht9]; exact hP, va_K.moved hW9.alike hK⟩, hS.F ht9⟩) hS.2.2 dX6_isSameOutcome_62
  have lp1 : ∀ (n : Nat) (v2 : Int32) (v3 : Int32), f_X6_isSameOutcome_L4 A k4 n v2 v3 = some r0 → ∀ (H : Heap) (locs : List Loc), va_P D vwCl (VW K ad I G A L) H → va_S (vF ad s.heap.size) s.heap H locs → ∀ (ls : Array Slot), lv_has ls 4 [(2, .int v2), (1, .int v3), (0, .ref (ad 0))] → W p l e ({ frames := 0, cells := 0, slots := 0, locals := 0 }) s m ([.ref (ad 0)] : List Value).toArray below meth c H locs 0 0 (MQ below (va_Qi (fun (r : Int32) (u : Mem) => r = r0 ∧ u = (I, G, A, L)) (vB D K ad) (vF ad s.heap.size)) ([.ref (ad 0)] : List Value).toArray s 0 0 (vF ad s.heap.size)) (F0 m 4 ls []) := by
    intro n
    induction n with
    | zero => intro v2 v3 h; exact absurd h (by rw [f_X6_isSameOutcome_L4]; exact nofun)
    | succ n ih1 =>
      intro v2 v3 h H locs hP hS ls hl
      rw [f_X6_isSameOutcome_L4] at h
      refine lv_iload_n hx hb dX6_isSameOutcome_4 rfl (lv_at hl 0 rfl) ?_
      refine lv_bipush (v := 12) hx hb dX6_isSameOutcome_5 (by decide) ?_
      refine lv_icmp_ge (tgt := 61) hx hb dX6_isSameOutcome_7 (by decide) (fun c_7 => ?_) (fun c_7 => ?_)
      · have h := iN (Int32.not_lt.mpr c_7) h
        exact kk4 v3 h _ _ hP hS ls (lv_sub hl [1] rfl)
      · have h := ip (Int32.not_le.mp c_7) h
        refine lv_iload_n hx hb dX6_isSameOutcome_10 rfl (lv_at hl 0 rfl) ?_
        refine lv_iconst (v := 2) hx hb dX6_isSameOutcome_11 (by decide) ?_
        obtain ⟨j10, ej10, h⟩ := bd_e h
        have kj10 : ∀ (z9 : Int32), j10 z9 = some r0 → ∀ (H : Heap) (locs : List Loc), va_P D vwCl (VW K ad I G A L) H → va_S (vF ad s.heap.size) s.heap H locs → ∀ (ls : Array Slot), lv_has ls 4 [(2, .int v2), (1, .int v3), (0, .ref (ad 0))] → W p l e ({ frames := 0, cells := 0, slots := 0, locals := 0 }) s m ([.ref (ad 0)] : List Value).toArray below meth c H locs 0 0 (MQ below (va_Qi (fun (r : Int32) (u : Mem) => r = r0 ∧ u = (I, G, A, L)) (vB D K ad) (vF ad s.heap.size)) ([.ref (ad 0)] : List Value).toArray s 0 0 (vF ad s.heap.size)) (F0 m 25 ls [.int z9]) := by
          intro z9 h H locs hP hS ls hl
          subst ej10
          refine lv_istore_n (lv' := [(3, .int z9), (2, .int v2), (1, .int v3), (0, .ref (ad 0))]) hx hb dX6_isSameOutcome_25 rfl hl (by decide) rfl (fun ls hl => ?_)
          refine lv_iload_n hx hb dX6_isSameOutcome_26 rfl (lv_at hl 2 rfl) ?_
          refine lv_if_eq (tgt := 53) hx hb dX6_isSameOutcome_27 (by decide) (fun c_11 => ?_) (fun c_11 => ?_)
          · have h := ip c_11 h
            refine lv_iconst (v := 0) hx hb dX6_isSameOutcome_53 (by decide) ?_
            refine lv_istore_n (lv' := [(1, .int 0), (3, .int z9), (2, .int v2), (0, .ref (ad 0))]) hx hb dX6_isSameOutcome_54 rfl hl (by decide) rfl (fun ls hl => ?_)
            refine lv_iinc (v := (v2 + 1)) (lv' := [(2, .int (v2 + 1)), (1, .int 0), (3, .int z9), (0, .ref (ad 0))]) hx hb dX6_isSameOutcome_55 hl (k := 2) rfl rfl (by decide) rfl (fun ls hl => ?_)
            refine lv_goto (tgt := 4) hx hb dX6_isSameOutcome_58 (by decide) ?_
            exact ih1 (v2 + 1) 0 h _ _ hP hS ls (lv_sub hl [0, 1, 3] rfl)
          · have h := iN c_11 h
            refine lv_iload_n hx hb dX6_isSameOutcome_30 rfl (lv_at hl 0 rfl) ?_
            refine lv_if_ne (tgt := 49) hx hb dX6_isSameOutcome_31 (by decide) (fun c_12 => ?_) (fun c_12 => ?_)
            · have h := iN c_12 h
              refine lv_iconst (v := 1) hx hb dX6_isSameOutcome_49 (by decide) ?_
              refine lv_goto (tgt := 54) hx hb dX6_isSameOutcome_50 (by decide) ?_
              refine lv_istore_n (lv' := [(1, .int 1), (3, .int z9), (2, .int v2), (0, .ref (ad 0))]) hx hb dX6_isSameOutcome_54 rfl hl (by decide) rfl (fun ls hl => ?_)
              refine lv_iinc (v := (v2 + 1)) (lv' := [(2, .int (v2 + 1)), (1, .int 1), (3, .int z9), (0, .ref (ad 0))]) hx hb dX6_isSameOutcome_55 hl (k := 2) rfl rfl (by decide) rfl (fun ls hl => ?_)
              refine lv_goto (tgt := 4) hx hb dX6_isSameOutcome_58 (by decide) ?_
              exact ih1 (v2 + 1) 1 h _ _ hP hS ls (lv_sub hl [0, 1, 3] rfl)
            · have h := ip c_12 h
              refine lv_aload_n hx hb dX6_isSameOutcome_34 rfl (lv_at hl 3 rfl) ?_
              refine vgC hx hb hts hi6 hown hK hP (0) (by decide) (show kd 0 = 6 by decide) (C := RX6) (T := TX6) (N := 18) rfl 15 (by decide) (by decide) (by decide) (by decide) (20) rfl (hts (.fieldLink RX6 58 "CrateHelpers" "alone" "[I") (by decide +kernel)) (fun _ h9 => h9) dX6_isSameOutcome_35 ?_
              refine lv_iload_n hx hb dX6_isSameOutcome_38 rfl (lv_at hl 1 rfl) ?_
              obtain ⟨hn13, h⟩ := gk h
              refine xiald hx hb hK hP (20) (by decide) (show kd 20 = 8 by decide) (by rw [show ln 20 = 12 by decide]; exact hn13) dX6_isSameOutcome_39 ?_
              refine lv_aload_n hx hb dX6_isSameOutcome_40 rfl (lv_at hl 3 rfl) ?_
              refine vgC hx hb hts hi6 hown hK hP (0) (by decide) (show kd 0 = 6 by decide) (C := RX6) (T := TX6) (N := 18) rfl 16 (by decide) (by decide) (by decide) (by decide) (21) rfl (hts (.fieldLink RX6 61 "CrateHelpers" "together" "[I") (by decide +kernel)) (fun _ h9 => h9) dX6_isSameOutcome_41 ?_
              refine lv_iload_n hx hb dX6_isSameOutcome_44 rfl (lv_at hl 1 rfl) ?_
              refine xiald hx hb hK hP (21) (by decide) (show kd 21 = 8 by decide) (by rw [show ln 21 = 12 by decide]; exact hn13) dX6_isSameOutcome_45 ?_
              refine lv_icmp_ne (tgt := 53) hx hb dX6_isSameOutcome_46 (by decide) (fun c_14 => ?_) (fun c_14 => ?_)
              · have h := iN c_14 h
                refine lv_iconst (v := 0) hx hb dX6_isSameOutcome_53 (by decide) ?_
                refine lv_istore_n (lv' := [(1, .int 0), (3, .int z9), (2, .int v2), (0, .ref (ad 0))]) hx hb dX6_isSameOutcome_54 rfl hl (by decide) rfl (fun ls hl => ?_)
                refine lv_iinc (v := (v2 + 1)) (lv' := [(2, .int (v2 + 1)), (1, .int 0), (3, .int z9), (0, .ref (ad 0))]) hx hb dX6_isSameOutcome_55 hl (k := 2) rfl rfl (by decide) rfl (fun ls hl => ?_)
                refine lv_goto (tgt := 4) hx hb dX6_isSameOutcome_58 (by decide) ?_
                exact ih1 (v2 + 1) 0 h _ _ hP hS ls (lv_sub hl [0, 1, 3] rfl)
              · have h := ip c_14 h
                refine lv_iconst (v := 1) hx hb dX6_isSameOutcome_49 (by decide) ?_
                refine lv_goto (tgt := 54) hx hb dX6_isSameOutcome_50 (by decide) ?_
                refine lv_istore_n (lv' := [(1, .int 1), (3, .int z9), (2, .int v2), (0, .ref (ad 0))]) hx hb dX6_isSameOutcome_54 rfl hl (by decide) rfl (fun ls hl => ?_)
                refine lv_iinc (v := (v2 + 1)) (lv' := [(2, .int (v2 + 1)), (1, .int 1), (3, .int z9), (0, .ref (ad 0))]) hx hb dX6_isSameOutcome_55 hl (k := 2) rfl rfl (by decide) rfl (fun ls hl => ?_)
                refine lv_goto (tgt := 4) hx hb dX6_isSameOutcome_58 (by decide) ?_
                exact ih1 (v2 + 1) 1 h _ _ hP hS ls (lv_sub hl [0, 1, 3] rfl)
        refine lv_icmp_eq (tgt := 20) hx hb dX6_isSameOutcome_12 (by decide) (fun c_15 => ?_) (fun c_15 => ?_)
        · have h := ip c_15 h
          refine lv_iconst (v := 1) hx hb dX6_isSameOutcome_20 (by decide) ?_
          refine lv_goto (tgt := 25) hx hb dX6_isSameOutcome_21 (by decide) ?_
          exact kj10 1 h _ _ hP hS ls (lv_sub hl [0, 1, 2] rfl)
        · have h := iN c_15 h
          refine lv_iload_n hx hb dX6_isSameOutcome_15 rfl (lv_at hl 0 rfl) ?_
          refine lv_iconst (v := 3) hx hb dX6_isSameOutcome_16 (by decide) ?_
          refine lv_icmp_ne (tgt := 24) hx hb dX6_isSameOutcome_17 (by decide) (fun c_16 => ?_) (fun c_16 => ?_)
          · have h := iN c_16 h
            refine lv_iconst (v := 0) hx hb dX6_isSameOutcome_24 (by decide) ?_
            exact kj10 0 h _ _ hP hS ls (lv_sub hl [0, 1, 2] rfl)
          · have h := ip c_16 h
            refine lv_iconst (v := 1) hx hb dX6_isSameOutcome_20 (by decide) ?_
            refine lv_goto (tgt := 25) hx hb dX6_isSameOutcome_21 (by decide) ?_
            exact kj10 1 h _ _ hP hS ls (lv_sub hl [0, 1, 2] rfl)
  exact lp1 FU 0 1 h _ _ hP hS ls (lv_sub hl [0, 1, 2] rfl)
set_option maxHeartbeats 4000000 in
set_option maxRecDepth 100000 in
theorem e_X6_limit (l : Launch) (D : va_G) (K : Nat → ClassId) (ad : Nat → Nat) (hap0 : apart ad (fun _ => True)) (a1 : Int32) (I : Nat → Nat → Int32) (G : Nat → Nat → Nat) (A : Nat → Nat → Int32) (L : Nat → Nat → Int64) (r0 : Int32) (I0 : Nat → Nat → Int32) (h : f_X6_limit I a1 = some (r0, I0)) : Ci l D K ad yX6_limit wsX6_limit 1 25 [.ref (ad 0), .int a1] (I, G, A, L) (fun (r : Int32) (u : Mem) => r = r0 ∧ u = (I0, G, A, L)) := by
  intro sz
  refine Met.ofW (cc := cX6_limit) (maxL := 3) (ret := (some .int)) (by decide) rfl ?_
  intro p e s m args below meth c s₁ Bd hml hv0
  obtain ⟨rfl, hsz, hP, hK⟩ := hv0
  have hx := Bd.exec
  have hb := Bd.bytes
  have hr := Bd.returns
  have hts := atoms_spec (ws := wsX6_limit) Bd.pre
  have hown : s.vm.findClass RX6 = some m.cls := findClass_of_methodNamed Bd.named
  have hlocks := Bd.notSynchronized
  have hi6 : ∀ w ∈ u_ws RX6 TX6 18, w ∈ wsX6_limit := fun w h => List.mem_cons_of_mem _ (List.mem_append_right _ h)
  subst hsz
  have hap := vF_ap hap0 s.heap.size
  have hS : va_S (vF ad s.heap.size) s.heap s.heap [] := va_S.rf
  have hP : va_P D vwCl (VW K ad I G A L) s.heap := hP
  have hl := lv_entry ([.ref (ad 0), .int a1]) (n := 3) (Nat.le_of_ble_eq_true rfl)
  rw [lg_entry_eq]
  generalize (lg_sl ([.ref (ad 0), .int a1]) ++ List.replicate (3 - (lg_sl ([.ref (ad 0), .int a1])).length) Slot.unset).toArray = ls at hl ⊢
  have hl : lv_has ls 3 [(0, .ref (ad 0)), (1, .int a1)] := hl
  rw [f_X6_limit] at h
  refine lv_iload_n hx hb dX6_limit_0 rfl (lv_at hl 1 rfl) ?_
  refine lv_iconst (v := 0) hx hb dX6_limit_1 (by decide) ?_
  refine lv_sipush (v := 1000) hx hb dX6_limit_2 (by decide) ?_
  obtain ⟨r1, hc2, h⟩ := Option.bind_eq_some_iff.mp h
  refine ecS (As := [.int a1, .int 0, .int 1000]) (rest := []) ⟨hx, hb, hml, hown, hts⟩ (e_X6_isWithin l D K ad hap0 a1 0 1000 I G A L r1 hc2) (va_cwS 3 hts gX6_limit_X6_isWithin rfl rfl rfl (by decide +kernel) ⟨Nat.le_of_ble_eq_true rfl, Nat.le_of_ble_eq_true rfl⟩) hK hP hS rfl hl.1 (Nat.le_of_ble_eq_true rfl) (Nat.le_of_ble_eq_true rfl) (Nat.le_of_ble_eq_true rfl) dX6_limit_5 (fun H locs hP hS => ?_) rfl
  have hP : va_P D vwCl (VW K ad I G A L) H := hP
  refine lv_if_ne (tgt := 13) hx hb dX6_limit_8 (by decide) (fun c_3 => ?_) (fun c_3 => ?_)
  · have h := iN c_3 h
    refine lv_aload_n hx hb dX6_limit_13 rfl (lv_at hl 0 rfl) ?_
    refine vgI hx hb hts hi6 hown hK hP (0) (by decide) (show kd 0 = 6 by decide) (C := RX6) (T := TX6) (N := 18) rfl 5 (by decide) (by decide) (by decide) (by decide) (hts (.fieldLink RX6 29 "CrateHelpers" "underWay" "I") (by decide +kernel)) (fun _ h9 => h9) dX6_limit_14 ?_
    refine lv_bipush (v := (-9)) hx hb dX6_limit_17 (by decide) ?_
    refine lv_icmp_eq (tgt := 25) hx hb dX6_limit_19 (by decide) (fun c_4 => ?_) (fun c_4 => ?_)
    · have h := ip c_4 h
      refine lv_aload_n hx hb dX6_limit_25 rfl (lv_at hl 0 rfl) ?_
      refine vgI hx hb hts hi6 hown hK hP (0) (by decide) (show kd 0 = 6 by decide) (C := RX6) (T := TX6) (N := 18) rfl 3 (by decide) (by decide) (by decide) (by decide) (hts (.fieldLink RX6 26 "CrateHelpers" "nodeLimit" "I") (by decide +kernel)) (fun _ h9 => h9) dX6_limit_26 ?_
      refine lv_istore_n (lv' := [(2, .int (I 0 3)), (0, .ref (ad 0)), (1, .int a1)]) hx hb dX6_limit_29 rfl hl (by decide) rfl (fun ls hl => ?_)
      refine lv_aload_n hx hb dX6_limit_30 rfl (lv_at hl 1 rfl) ?_
      refine lv_iload_n hx hb dX6_limit_31 rfl (lv_at hl 2 rfl) ?_
      refine vpI (v := a1) (ty := .int) hx hb hts hi6 tyX6 tyX6_ok nmX6 hown hK hP hap hS (0) (by decide) (show kd 0 = 6 by decide) (C := RX6) (T := TX6) (N := 18) rfl 3 (by decide) (by decide) (by decide) (by decide) (hts (.fieldLink RX6 26 "CrateHelpers" "nodeLimit" "I") (by decide +kernel)) (fun _ h9 => h9) rfl (by decide +kernel) rfl rfl dX6_limit_32 (fun H locs hP hS => ?_)
      obtain ⟨I5, eI5, h⟩ := bd_e h
      rw [← eI5] at hP
      have hP : va_P D vwCl (VW K ad I5 G A L) H := hP
      refine lv_iload_n hx hb dX6_limit_35 rfl (lv_at hl 0 rfl) ?_
      exact W.iret (v := (I 0 3)) hx hb hr (fun t9 ht9 hW9 => ⟨⟨(I 0 3), (I5, G, A, L), rfl, by cases h; exact ⟨rfl, rfl⟩, by rw [ht9]; exact hP, va_K.moved hW9.alike hK⟩, hS.F ht9⟩) hS.2.2 dX6_limit_36
    · have h := iN c_4 h
      refine lv_bipush (v := (-2)) hx hb dX6_limit_22 (by decide) ?_
      exact W.iret (v := (-2)) hx hb hr (fun t9 ht9 hW9 => ⟨⟨(-2), (I, G, A, L), rfl, by cases h; exact ⟨rfl, rfl⟩, by rw [ht9]; exact hP, va_K.moved hW9.alike hK⟩, hS.F ht9⟩) hS.2.2 dX6_limit_24
  · have h := ip c_3 h
    refine lv_iconst (v := (-1)) hx hb dX6_limit_11 (by decide) ?_
    exact W.iret (v := (-1)) hx hb hr (fun t9 ht9 hW9 => ⟨⟨(-1), (I, G, A, L), rfl, by cases h; exact ⟨rfl, rfl⟩, by rw [ht9]; exact hP, va_K.moved hW9.alike hK⟩, hS.F ht9⟩) hS.2.2 dX6_limit_12
set_option maxHeartbeats 4000000 in
set_option maxRecDepth 100000 in
theorem e_X6_node (l : Launch) (D : va_G) (K : Nat → ClassId) (ad : Nat → Nat) (hap0 : apart ad (fun _ => True)) (a1 : Int32) (a2 : Int32) (a3 : Int32) (I : Nat → Nat → Int32) (G : Nat → Nat → Nat) (A : Nat → Nat → Int32) (L : Nat → Nat → Int64) (r0 : Int32) (I0 : Nat → Nat → Int32) (h : f_X6_node I A a1 a2 a3 = some (r0, I0)) : Ci l D K ad yX6_node wsX6_node 5 182 [.ref (ad 0), .int a1, .int a2, .int a3] (I, G, A, L) (fun (r : Int32) (u : Mem) => r = r0 ∧ u = (I0, G, A, L)) := by
  intro sz
  refine Met.ofW (cc := cX6_node) (maxL := 5) (ret := (some .int)) (by decide) rfl ?_
  intro p e s m args below meth c s₁ Bd hml hv0
  obtain ⟨rfl, hsz, hP, hK⟩ := hv0
  have hx := Bd.exec
  have hb := Bd.bytes
  have hr := Bd.returns
  have hts := atoms_spec (ws := wsX6_node) Bd.pre
  have hown : s.vm.findClass RX6 = some m.cls := findClass_of_methodNamed Bd.named
  have hlocks := Bd.notSynchronized
  have hi6 : ∀ w ∈ u_ws RX6 TX6 18, w ∈ wsX6_node := fun w h => List.mem_cons_of_mem _ (List.mem_append_left _ (List.mem_append_left _ (List.mem_append_left _ (List.mem_append_right _ h))))
  have hi1 : ∀ w ∈ u_ws RX1 TX1 9, w ∈ wsX6_node := fun w h => List.mem_cons_of_mem _ (List.mem_append_left _ (List.mem_append_left _ (List.mem_append_right _ h)))
  have hi0 : ∀ w ∈ u_ws RX0 TX0 3, w ∈ wsX6_node := fun w h => List.mem_cons_of_mem _ (List.mem_append_left _ (List.mem_append_right _ h))
  have hi2 : ∀ w ∈ u_ws RX2 TX2 7, w ∈ wsX6_node := fun w h => List.mem_cons_of_mem _ (List.mem_append_right _ h)
  subst hsz
  have hap := vF_ap hap0 s.heap.size
  have hS : va_S (vF ad s.heap.size) s.heap s.heap [] := va_S.rf
  have hP : va_P D vwCl (VW K ad I G A L) s.heap := hP
  have hl := lv_entry ([.ref (ad 0), .int a1, .int a2, .int a3]) (n := 5) (Nat.le_of_ble_eq_true rfl)
  rw [lg_entry_eq]
  generalize (lg_sl ([.ref (ad 0), .int a1, .int a2, .int a3]) ++ List.replicate (5 - (lg_sl ([.ref (ad 0), .int a1, .int a2, .int a3])).length) Slot.unset).toArray = ls at hl ⊢
  have hl : lv_has ls 5 [(0, .ref (ad 0)), (1, .int a1), (2, .int a2), (3, .int a3)] := hl
  rw [f_X6_node] at h
  refine lv_iload_n hx hb dX6_node_0 rfl (lv_at hl 1 rfl) ?_
  refine lv_iconst (v := 0) hx hb dX6_node_1 (by decide) ?_
  refine lv_iconst (v := 4) hx hb dX6_node_2 (by decide) ?_
  obtain ⟨r1, hc2, h⟩ := Option.bind_eq_some_iff.mp h
  refine ecS (As := [.int a1, .int 0, .int 4]) (rest := []) ⟨hx, hb, hml, hown, hts⟩ (e_X6_isWithin l D K ad hap0 a1 0 4 I G A L r1 hc2) (va_cwS 3 hts gX6_node_X6_isWithin rfl rfl rfl (by decide +kernel) ⟨Nat.le_of_ble_eq_true rfl, Nat.le_of_ble_eq_true rfl⟩) hK hP hS rfl hl.1 (Nat.le_of_ble_eq_true rfl) (Nat.le_of_ble_eq_true rfl) (Nat.le_of_ble_eq_true rfl) dX6_node_3 (fun H locs hP hS => ?_) rfl
  have hP : va_P D vwCl (VW K ad I G A L) H := hP
  refine lv_if_ne (tgt := 11) hx hb dX6_node_6 (by decide) (fun c_3 => ?_) (fun c_3 => ?_)
  · have h := iN c_3 h
    refine lv_aload_n hx hb dX6_node_11 rfl (lv_at hl 0 rfl) ?_
    refine vgI hx hb hts hi6 hown hK hP (0) (by decide) (show kd 0 = 6 by decide) (C := RX6) (T := TX6) (N := 18) rfl 7 (by decide) (by decide) (by decide) (by decide) (hts (.fieldLink RX6 32 "CrateHelpers" "asked" "I") (by decide +kernel)) (fun _ h9 => h9) dX6_node_12 ?_
    refine lv_bipush (v := (-9)) hx hb dX6_node_15 (by decide) ?_
    refine lv_icmp_eq (tgt := 39) hx hb dX6_node_17 (by decide) (fun c_4 => ?_) (fun c_4 => ?_)
    · have h := ip c_4 h
      refine lv_bipush (v := (-2)) hx hb dX6_node_39 (by decide) ?_
      exact W.iret (v := (-2)) hx hb hr (fun t9 ht9 hW9 => ⟨⟨(-2), (I, G, A, L), rfl, by cases h; exact ⟨rfl, rfl⟩, by rw [ht9]; exact hP, va_K.moved hW9.alike hK⟩, hS.F ht9⟩) hS.2.2 dX6_node_41
    · have h := iN c_4 h
      refine lv_aload_n hx hb dX6_node_20 rfl (lv_at hl 0 rfl) ?_
      refine vgC hx hb hts hi6 hown hK hP (0) (by decide) (show kd 0 = 6 by decide) (C := RX6) (T := TX6) (N := 18) rfl 0 (by decide) (by decide) (by decide) (by decide) (1) rfl (hts (.fieldLink RX6 11 "CrateHelpers" "problems" "[LCrateHelpers$Problem;") (by decide +kernel)) (fun _ h9 => h9) dX6_node_21 ?_
      refine lv_aload_n hx hb dX6_node_24 rfl (lv_at hl 0 rfl) ?_
      refine vgI hx hb hts hi6 hown hK hP (0) (by decide) (show kd 0 = 6 by decide) (C := RX6) (T := TX6) (N := 18) rfl 7 (by decide) (by decide) (by decide) (by decide) (hts (.fieldLink RX6 32 "CrateHelpers" "asked" "I") (by decide +kernel)) (fun _ h9 => h9) dX6_node_25 ?_
      obtain ⟨hn5, h⟩ := gk h
      refine xaald hx hb hK hP (1) (by decide) 5 13 (show kd 1 = 13 by decide) (by decide) rfl (by rw [show ln 1 = 5 by decide]; exact hn5) (58 + 52 * ((I 0 7).toNatClampNeg)) (drf13 ((show kd 1 = 13 by decide))) dX6_node_28 ?_
      obtain ⟨hk6, h⟩ := gk h
      refine vgI hx hb hts hi1 hown hK hP (58 + 52 * ((I 0 7).toNatClampNeg)) (s318 hk6.1) hk6.2 (C := RX1) (T := TX1) (N := 9) rfl 2 (by decide) (by decide) (by decide) (by decide) (hts (.fieldLink RX6 232 "CrateHelpers$Problem" "changes" "I") (by decide +kernel)) (fun _ h9 => h9) dX6_node_29 ?_
      refine lv_aload_n hx hb dX6_node_32 rfl (lv_at hl 0 rfl) ?_
      refine vgI hx hb hts hi6 hown hK hP (0) (by decide) (show kd 0 = 6 by decide) (C := RX6) (T := TX6) (N := 18) rfl 8 (by decide) (by decide) (by decide) (by decide) (hts (.fieldLink RX6 35 "CrateHelpers" "askedAtChange" "I") (by decide +kernel)) (fun _ h9 => h9) dX6_node_33 ?_
      refine lv_icmp_eq (tgt := 42) hx hb dX6_node_36 (by decide) (fun c_7 => ?_) (fun c_7 => ?_)
      · have h := ip c_7 h
        refine lv_aload_n hx hb dX6_node_42 rfl (lv_at hl 0 rfl) ?_
        refine vgC hx hb hts hi6 hown hK hP (0) (by decide) (show kd 0 = 6 by decide) (C := RX6) (T := TX6) (N := 18) rfl 0 (by decide) (by decide) (by decide) (by decide) (1) rfl (hts (.fieldLink RX6 11 "CrateHelpers" "problems" "[LCrateHelpers$Problem;") (by decide +kernel)) (fun _ h9 => h9) dX6_node_43 ?_
        refine lv_aload_n hx hb dX6_node_46 rfl (lv_at hl 0 rfl) ?_
        refine vgI hx hb hts hi6 hown hK hP (0) (by decide) (show kd 0 = 6 by decide) (C := RX6) (T := TX6) (N := 18) rfl 7 (by decide) (by decide) (by decide) (by decide) (hts (.fieldLink RX6 32 "CrateHelpers" "asked" "I") (by decide +kernel)) (fun _ h9 => h9) dX6_node_47 ?_
        refine xaald hx hb hK hP (1) (by decide) 5 13 (show kd 1 = 13 by decide) (by decide) rfl (by rw [show ln 1 = 5 by decide]; exact hn5) (58 + 52 * ((I 0 7).toNatClampNeg)) (drf13 ((show kd 1 = 13 by decide))) dX6_node_50 ?_
        refine lv_astore (lv' := [(4, .ref (ad (58 + 52 * ((I 0 7).toNatClampNeg)))), (0, .ref (ad 0)), (1, .int a1), (2, .int a2), (3, .int a3)]) hx hb dX6_node_51 hl (by decide) rfl (fun ls hl => ?_)
        refine lv_iload_n hx hb dX6_node_53 rfl (lv_at hl 2 rfl) ?_
        refine lv_if_ne (tgt := 93) hx hb dX6_node_54 (by decide) (fun c_8 => ?_) (fun c_8 => ?_)
        · have h := iN c_8 h
          refine lv_iload_n hx hb dX6_node_93 rfl (lv_at hl 2 rfl) ?_
          refine lv_iconst (v := 1) hx hb dX6_node_94 (by decide) ?_
          refine lv_icmp_ne (tgt := 127) hx hb dX6_node_95 (by decide) (fun c_9 => ?_) (fun c_9 => ?_)
          · have h := iN c_9 h
            refine lv_aload_n hx hb dX6_node_127 rfl (lv_at hl 1 rfl) ?_
            refine vgC hx hb hts hi6 hown hK hP (0) (by decide) (show kd 0 = 6 by decide) (C := RX6) (T := TX6) (N := 18) rfl 11 (by decide) (by decide) (by decide) (by decide) (17) rfl (hts (.fieldLink RX6 48 "CrateHelpers" "judge" "LCrateHelpers$Judge;") (by decide +kernel)) (fun _ h9 => h9) dX6_node_128 ?_
            refine lv_aload hx hb dX6_node_131 (lv_at hl 0 rfl) ?_
            refine lv_aload_n hx hb dX6_node_133 rfl (lv_at hl 1 rfl) ?_
            refine vgC hx hb hts hi6 hown hK hP (0) (by decide) (show kd 0 = 6 by decide) (C := RX6) (T := TX6) (N := 18) rfl 10 (by decide) (by decide) (by decide) (by decide) (18) rfl (hts (.fieldLink RX6 41 "CrateHelpers" "askedValues" "[I") (by decide +kernel)) (fun _ h9 => h9) dX6_node_134 ?_
            refine lv_aload_n hx hb dX6_node_137 rfl (lv_at hl 1 rfl) ?_
            refine vgI hx hb hts hi6 hown hK hP (0) (by decide) (show kd 0 = 6 by decide) (C := RX6) (T := TX6) (N := 18) rfl 9 (by decide) (by decide) (by decide) (by decide) (hts (.fieldLink RX6 38 "CrateHelpers" "askedDepth" "I") (by decide +kernel)) (fun _ h9 => h9) dX6_node_138 ?_
            refine lv_iconst (v := 1) hx hb dX6_node_141 (by decide) ?_
            obtain ⟨I10, hc11, h⟩ := Option.bind_eq_some_iff.mp h
            refine ecVv (As := [.ref (ad (58 + 52 * ((I 0 7).toNatClampNeg))), .ref (ad 18), .int (I 0 9), .int 1]) (rest := []) ⟨hx, hb, hml, hown, hts⟩ (e_X0_look l D K ad hap0 17 (58 + 52 * ((I 0 7).toNatClampNeg)) 18 (I 0 9) 1 I G A L I10 hc11) (cwV 4 hts gX6_node_X0_look rfl rfl rfl (by decide +kernel) ⟨Nat.le_of_ble_eq_true rfl, Nat.le_of_ble_eq_true rfl⟩) hK hP hS (by decide) (show kd 17 = 0 by decide) (by decide) rfl rfl rfl hl.1 (Nat.le_of_ble_eq_true rfl) (Nat.le_of_ble_eq_true rfl) (Nat.le_of_ble_eq_true rfl) dX6_node_142 (fun H locs hP hS => ?_) rfl
            have hP : va_P D vwCl (VW K ad I10 G A L) H := hP
            refine lv_iload_n hx hb dX6_node_145 rfl (lv_at hl 2 rfl) ?_
            refine lv_iconst (v := 2) hx hb dX6_node_146 (by decide) ?_
            refine lv_icmp_ne (tgt := 158) hx hb dX6_node_147 (by decide) (fun c_12 => ?_) (fun c_12 => ?_)
            · have h := iN c_12 h
              refine lv_iload_n hx hb dX6_node_158 rfl (lv_at hl 2 rfl) ?_
              refine lv_iconst (v := 3) hx hb dX6_node_159 (by decide) ?_
              refine lv_icmp_ne (tgt := 173) hx hb dX6_node_160 (by decide) (fun c_13 => ?_) (fun c_13 => ?_)
              · have h := iN c_13 h
                refine lv_aload_n hx hb dX6_node_173 rfl (lv_at hl 1 rfl) ?_
                refine vgC hx hb hts hi6 hown hK hP (0) (by decide) (show kd 0 = 6 by decide) (C := RX6) (T := TX6) (N := 18) rfl 11 (by decide) (by decide) (by decide) (by decide) (17) rfl (hts (.fieldLink RX6 48 "CrateHelpers" "judge" "LCrateHelpers$Judge;") (by decide +kernel)) (fun _ h9 => h9) dX6_node_174 ?_
                refine vgI hx hb hts hi0 hown hK hP (17) (by decide) (show kd 17 = 0 by decide) (C := RX0) (T := TX0) (N := 3) rfl 1 (by decide) (by decide) (by decide) (by decide) (hts (.fieldLink RX6 259 "CrateHelpers$Judge" "why" "I") (by decide +kernel)) (fun _ h9 => h9) dX6_node_177 ?_
                exact W.iret (v := (I10 17 1)) hx hb hr (fun t9 ht9 hW9 => ⟨⟨(I10 17 1), (I10, G, A, L), rfl, by cases h; exact ⟨rfl, rfl⟩, by rw [ht9]; exact hP, va_K.moved hW9.alike hK⟩, hS.F ht9⟩) hS.2.2 dX6_node_180
              · have h := ip c_13 h
                refine lv_aload_n hx hb dX6_node_163 rfl (lv_at hl 1 rfl) ?_
                refine vgC hx hb hts hi6 hown hK hP (0) (by decide) (show kd 0 = 6 by decide) (C := RX6) (T := TX6) (N := 18) rfl 11 (by decide) (by decide) (by decide) (by decide) (17) rfl (hts (.fieldLink RX6 48 "CrateHelpers" "judge" "LCrateHelpers$Judge;") (by decide +kernel)) (fun _ h9 => h9) dX6_node_164 ?_
                refine vgI hx hb hts hi0 hown hK hP (17) (by decide) (show kd 17 = 0 by decide) (C := RX0) (T := TX0) (N := 3) rfl 2 (by decide) (by decide) (by decide) (by decide) (hts (.fieldLink RX6 256 "CrateHelpers$Judge" "bound" "I") (by decide +kernel)) (fun _ h9 => h9) dX6_node_167 ?_
                refine lv_goto (tgt := 180) hx hb dX6_node_170 (by decide) ?_
                exact W.iret (v := (I10 17 2)) hx hb hr (fun t9 ht9 hW9 => ⟨⟨(I10 17 2), (I10, G, A, L), rfl, by cases h; exact ⟨rfl, rfl⟩, by rw [ht9]; exact hP, va_K.moved hW9.alike hK⟩, hS.F ht9⟩) hS.2.2 dX6_node_180
            · have h := ip c_12 h
              refine lv_aload_n hx hb dX6_node_150 rfl (lv_at hl 1 rfl) ?_
              refine vgC hx hb hts hi6 hown hK hP (0) (by decide) (show kd 0 = 6 by decide) (C := RX6) (T := TX6) (N := 18) rfl 11 (by decide) (by decide) (by decide) (by decide) (17) rfl (hts (.fieldLink RX6 48 "CrateHelpers" "judge" "LCrateHelpers$Judge;") (by decide +kernel)) (fun _ h9 => h9) dX6_node_151 ?_
              refine vgI hx hb hts hi0 hown hK hP (17) (by decide) (show kd 17 = 0 by decide) (C := RX0) (T := TX0) (N := 3) rfl 0 (by decide) (by decide) (by decide) (by decide) (hts (.fieldLink RX6 254 "CrateHelpers$Judge" "what" "I") (by decide +kernel)) (fun _ h9 => h9) dX6_node_154 ?_
              exact W.iret (v := (I10 17 0)) hx hb hr (fun t9 ht9 hW9 => ⟨⟨(I10 17 0), (I10, G, A, L), rfl, by cases h; exact ⟨rfl, rfl⟩, by rw [ht9]; exact hP, va_K.moved hW9.alike hK⟩, hS.F ht9⟩) hS.2.2 dX6_node_157
          · have h := ip c_9 h
            refine lv_aload hx hb dX6_node_98 (lv_at hl 0 rfl) ?_
            refine lv_iload_n hx hb dX6_node_100 rfl (lv_at hl 3 rfl) ?_
            refine lv_iload_n hx hb dX6_node_101 rfl (lv_at hl 4 rfl) ?_
            obtain ⟨r14, hc15, h⟩ := Option.bind_eq_some_iff.mp h
            refine ecV (As := [.int a2, .int a3]) (rest := []) ⟨hx, hb, hml, hown, hts⟩ (e_X1_hasValue l D K ad hap0 (58 + 52 * ((I 0 7).toNatClampNeg)) a2 a3 I G A L r14 hc15) (cwV 2 hts gX6_node_X1_hasValue rfl rfl rfl (by decide +kernel) ⟨Nat.le_of_ble_eq_true rfl, Nat.le_of_ble_eq_true rfl⟩) hK hP hS (s318 hk6.1) hk6.2 (by decide) rfl rfl rfl hl.1 (Nat.le_of_ble_eq_true rfl) (Nat.le_of_ble_eq_true rfl) (Nat.le_of_ble_eq_true rfl) dX6_node_102 (fun H locs hP hS => ?_) rfl
            have hP : va_P D vwCl (VW K ad I G A L) H := hP
            refine lv_if_eq (tgt := 125) hx hb dX6_node_105 (by decide) (fun c_16 => ?_) (fun c_16 => ?_)
            · have h := ip c_16 h
              refine lv_iconst (v := (-1)) hx hb dX6_node_125 (by decide) ?_
              exact W.iret (v := (-1)) hx hb hr (fun t9 ht9 hW9 => ⟨⟨(-1), (I, G, A, L), rfl, by cases h; exact ⟨rfl, rfl⟩, by rw [ht9]; exact hP, va_K.moved hW9.alike hK⟩, hS.F ht9⟩) hS.2.2 dX6_node_126
            · have h := iN c_16 h
              refine lv_aload hx hb dX6_node_108 (lv_at hl 0 rfl) ?_
              refine lv_aload_n hx hb dX6_node_110 rfl (lv_at hl 1 rfl) ?_
              refine vgC hx hb hts hi6 hown hK hP (0) (by decide) (show kd 0 = 6 by decide) (C := RX6) (T := TX6) (N := 18) rfl 10 (by decide) (by decide) (by decide) (by decide) (18) rfl (hts (.fieldLink RX6 41 "CrateHelpers" "askedValues" "[I") (by decide +kernel)) (fun _ h9 => h9) dX6_node_111 ?_
              refine lv_iload_n hx hb dX6_node_114 rfl (lv_at hl 3 rfl) ?_
              refine lv_iload_n hx hb dX6_node_115 rfl (lv_at hl 4 rfl) ?_
              obtain ⟨r17, hc18, h⟩ := Option.bind_eq_some_iff.mp h
              refine ecV (As := [.ref (ad 18), .int a2, .int a3]) (rest := []) ⟨hx, hb, hml, hown, hts⟩ (e_X1_isOut l D K ad hap0 (58 + 52 * ((I 0 7).toNatClampNeg)) 18 a2 a3 I G A L r17 hc18) (cwV 3 hts gX6_node_X1_isOut rfl rfl rfl (by decide +kernel) ⟨Nat.le_of_ble_eq_true rfl, Nat.le_of_ble_eq_true rfl⟩) hK hP hS (s318 hk6.1) hk6.2 (by decide) rfl rfl rfl hl.1 (Nat.le_of_ble_eq_true rfl) (Nat.le_of_ble_eq_true rfl) (Nat.le_of_ble_eq_true rfl) dX6_node_116 (fun H locs hP hS => ?_) rfl
              have hP : va_P D vwCl (VW K ad I G A L) H := hP
              obtain ⟨r19, hc20, h⟩ := Option.bind_eq_some_iff.mp h
              refine ecS (As := [.int r17]) (rest := []) ⟨hx, hb, hml, hown, hts⟩ (e_X6_asNumber l D K ad hap0 r17 I G A L r19 hc20) (va_cwS 1 hts gX6_node_X6_asNumber rfl rfl rfl (by decide +kernel) ⟨Nat.le_of_ble_eq_true rfl, Nat.le_of_ble_eq_true rfl⟩) hK hP hS rfl hl.1 (Nat.le_of_ble_eq_true rfl) (Nat.le_of_ble_eq_true rfl) (Nat.le_of_ble_eq_true rfl) dX6_node_119 (fun H locs hP hS => ?_) rfl
              have hP : va_P D vwCl (VW K ad I G A L) H := hP
              refine lv_goto (tgt := 126) hx hb dX6_node_122 (by decide) ?_
              exact W.iret (v := r19) hx hb hr (fun t9 ht9 hW9 => ⟨⟨r19, (I, G, A, L), rfl, by cases h; exact ⟨rfl, rfl⟩, by rw [ht9]; exact hP, va_K.moved hW9.alike hK⟩, hS.F ht9⟩) hS.2.2 dX6_node_126
        · have h := ip c_8 h
          refine lv_aload hx hb dX6_node_57 (lv_at hl 0 rfl) ?_
          refine lv_iload_n hx hb dX6_node_59 rfl (lv_at hl 3 rfl) ?_
          obtain ⟨r21, hc22, h⟩ := Option.bind_eq_some_iff.mp h
          refine ecV (As := [.int a2]) (rest := []) ⟨hx, hb, hml, hown, hts⟩ (e_X1_hasRule l D K ad hap0 (58 + 52 * ((I 0 7).toNatClampNeg)) a2 I G A L r21 hc22) (cwV 1 hts gX6_node_X1_hasRule rfl rfl rfl (by decide +kernel) ⟨Nat.le_of_ble_eq_true rfl, Nat.le_of_ble_eq_true rfl⟩) hK hP hS (s318 hk6.1) hk6.2 (by decide) rfl rfl rfl hl.1 (Nat.le_of_ble_eq_true rfl) (Nat.le_of_ble_eq_true rfl) (Nat.le_of_ble_eq_true rfl) dX6_node_60 (fun H locs hP hS => ?_) rfl
          have hP : va_P D vwCl (VW K ad I G A L) H := hP
          refine lv_if_eq (tgt := 91) hx hb dX6_node_63 (by decide) (fun c_23 => ?_) (fun c_23 => ?_)
          · have h := ip c_23 h
            refine lv_iconst (v := (-1)) hx hb dX6_node_91 (by decide) ?_
            exact W.iret (v := (-1)) hx hb hr (fun t9 ht9 hW9 => ⟨⟨(-1), (I, G, A, L), rfl, by cases h; exact ⟨rfl, rfl⟩, by rw [ht9]; exact hP, va_K.moved hW9.alike hK⟩, hS.F ht9⟩) hS.2.2 dX6_node_92
          · have h := iN c_23 h
            refine lv_aload hx hb dX6_node_66 (lv_at hl 0 rfl) ?_
            refine vgS hx hb hts hi1 hown hK hP (58 + 52 * ((I 0 7).toNatClampNeg)) (s318 hk6.1) hk6.2 (C := RX1) (T := TX1) (N := 9) rfl 7 (by decide) (by decide) (by decide) (by decide) (58 + 52 * ((I 0 7).toNatClampNeg) + 10) rfl (hts (.fieldLink RX6 142 "CrateHelpers$Problem" "rules" "[LCrateHelpers$Rule;") (by decide +kernel)) (fun _ h9 => h9) dX6_node_68 ?_
            refine lv_iload_n hx hb dX6_node_71 rfl (lv_at hl 3 rfl) ?_
            obtain ⟨hk24, h⟩ := gk h
            obtain ⟨hn25, h⟩ := gk h
            refine xaald hx hb hK hP (58 + 52 * ((I 0 7).toNatClampNeg) + 10) (s318 hk24.1) 6 14 hk24.2 (by decide) rfl hn25 (58 + 52 * ((I 0 7).toNatClampNeg) + 12 + 5 * a2.toNatClampNeg) (drf14 (hk24.2)) dX6_node_72 ?_
            refine lv_aload_n hx hb dX6_node_73 rfl (lv_at hl 1 rfl) ?_
            refine vgC hx hb hts hi6 hown hK hP (0) (by decide) (show kd 0 = 6 by decide) (C := RX6) (T := TX6) (N := 18) rfl 10 (by decide) (by decide) (by decide) (by decide) (18) rfl (hts (.fieldLink RX6 41 "CrateHelpers" "askedValues" "[I") (by decide +kernel)) (fun _ h9 => h9) dX6_node_74 ?_
            refine lv_aload hx hb dX6_node_77 (lv_at hl 0 rfl) ?_
            refine vgS hx hb hts hi1 hown hK hP (58 + 52 * ((I 0 7).toNatClampNeg)) (s318 hk6.1) hk6.2 (C := RX1) (T := TX1) (N := 9) rfl 4 (by decide) (by decide) (by decide) (by decide) (58 + 52 * ((I 0 7).toNatClampNeg) + 1) rfl (hts (.fieldLink RX6 235 "CrateHelpers$Problem" "sizes" "[I") (by decide +kernel)) (fun _ h9 => h9) dX6_node_79 ?_
            obtain ⟨hk26, h⟩ := gk h
            obtain ⟨r27, hc28, h⟩ := Option.bind_eq_some_iff.mp h
            refine ecV (As := [.ref (ad 18), .ref (ad (58 + 52 * ((I 0 7).toNatClampNeg) + 1))]) (rest := []) ⟨hx, hb, hml, hown, hts⟩ (e_X2_isBroken l D K ad hap0 (58 + 52 * ((I 0 7).toNatClampNeg) + 12 + 5 * a2.toNatClampNeg) 18 (58 + 52 * ((I 0 7).toNatClampNeg) + 1) I G A L r27 hc28) (cwV 2 hts gX6_node_X2_isBroken rfl rfl rfl (by decide +kernel) ⟨Nat.le_of_ble_eq_true rfl, Nat.le_of_ble_eq_true rfl⟩) hK hP hS (s318 hk26.1) hk26.2 (by decide) rfl rfl rfl hl.1 (Nat.le_of_ble_eq_true rfl) (Nat.le_of_ble_eq_true rfl) (Nat.le_of_ble_eq_true rfl) dX6_node_82 (fun H locs hP hS => ?_) rfl
            have hP : va_P D vwCl (VW K ad I G A L) H := hP
            obtain ⟨r29, hc30, h⟩ := Option.bind_eq_some_iff.mp h
            refine ecS (As := [.int r27]) (rest := []) ⟨hx, hb, hml, hown, hts⟩ (e_X6_asNumber l D K ad hap0 r27 I G A L r29 hc30) (va_cwS 1 hts gX6_node_X6_asNumber rfl rfl rfl (by decide +kernel) ⟨Nat.le_of_ble_eq_true rfl, Nat.le_of_ble_eq_true rfl⟩) hK hP hS rfl hl.1 (Nat.le_of_ble_eq_true rfl) (Nat.le_of_ble_eq_true rfl) (Nat.le_of_ble_eq_true rfl) dX6_node_85 (fun H locs hP hS => ?_) rfl
            have hP : va_P D vwCl (VW K ad I G A L) H := hP
            refine lv_goto (tgt := 92) hx hb dX6_node_88 (by decide) ?_
            exact W.iret (v := r29) hx hb hr (fun t9 ht9 hW9 => ⟨⟨r29, (I, G, A, L), rfl, by cases h; exact ⟨rfl, rfl⟩, by rw [ht9]; exact hP, va_K.moved hW9.alike hK⟩, hS.F ht9⟩) hS.2.2 dX6_node_92
      · have h := iN c_7 h
        refine lv_bipush (v := (-2)) hx hb dX6_node_39 (by decide) ?_
        exact W.iret (v := (-2)) hx hb hr (fun t9 ht9 hW9 => ⟨⟨(-2), (I, G, A, L), rfl, by cases h; exact ⟨rfl, rfl⟩, by rw [ht9]; exact hP, va_K.moved hW9.alike hK⟩, hS.F ht9⟩) hS.2.2 dX6_node_41
  · have h := ip c_3 h
    refine lv_iconst (v := (-1)) hx hb dX6_node_9 (by decide) ?_
    exact W.iret (v := (-1)) hx hb hr (fun t9 ht9 hW9 => ⟨⟨(-1), (I, G, A, L), rfl, by cases h; exact ⟨rfl, rfl⟩, by rw [ht9]; exact hP, va_K.moved hW9.alike hK⟩, hS.F ht9⟩) hS.2.2 dX6_node_10
set_option maxHeartbeats 4000000 in
set_option maxRecDepth 100000 in
theorem e_X1_setNumber (l : Launch) (D : va_G) (K : Nat → ClassId) (ad : Nat → Nat) (hap0 : apart ad (fun _ => True)) (o : Nat) (a1 : Int32) (a2 : Int32) (I : Nat → Nat → Int32) (G : Nat → Nat → Nat) (A : Nat → Nat → Int32) (L : Nat → Nat → Int64) (r0 : Int32) (I0 : Nat → Nat → Int32) (h : f_X1_setNumber I o a1 a2 = some (r0, I0)) : Ci l D K ad yX1_setNumber wsX1_setNumber 1 23 [.ref (ad o), .int a1, .int a2] (I, G, A, L) (fun (r : Int32) (u : Mem) => r = r0 ∧ u = (I0, G, A, L)) := by
  intro sz
  refine Met.ofW (cc := cX1_setNumber) (maxL := 4) (ret := (some .int)) (by decide) rfl ?_
  intro p e s m args below meth c s₁ Bd hml hv0
  obtain ⟨rfl, hsz, hP, hK⟩ := hv0
  have hx := Bd.exec
  have hb := Bd.bytes
  have hr := Bd.returns
  have hts := atoms_spec (ws := wsX1_setNumber) Bd.pre
  have hown : s.vm.findClass RX1 = some m.cls := findClass_of_methodNamed Bd.named
  have hlocks := Bd.notSynchronized
  have hi1 : ∀ w ∈ u_ws RX1 TX1 9, w ∈ wsX1_setNumber := fun w h => List.mem_cons_of_mem _ (List.mem_append_left _ (List.mem_append_right _ h))
  have hi2 : ∀ w ∈ u_ws RX2 TX2 7, w ∈ wsX1_setNumber := fun w h => List.mem_cons_of_mem _ (List.mem_append_right _ h)
  subst hsz
  have hap := vF_ap hap0 s.heap.size
  have hS : va_S (vF ad s.heap.size) s.heap s.heap [] := va_S.rf
  have hP : va_P D vwCl (VW K ad I G A L) s.heap := hP
  have hl := lv_entry ([.ref (ad o), .int a1, .int a2]) (n := 4) (Nat.le_of_ble_eq_true rfl)
  rw [lg_entry_eq]
  generalize (lg_sl ([.ref (ad o), .int a1, .int a2]) ++ List.replicate (4 - (lg_sl ([.ref (ad o), .int a1, .int a2])).length) Slot.unset).toArray = ls at hl ⊢
  have hl : lv_has ls 4 [(0, .ref (ad o)), (1, .int a1), (2, .int a2)] := hl
  rw [f_X1_setNumber] at h
  refine lv_aload_n hx hb dX1_setNumber_0 rfl (lv_at hl 0 rfl) ?_
  obtain ⟨hk1, h⟩ := gk h
  obtain ⟨I2, hc3, h⟩ := Option.bind_eq_some_iff.mp h
  refine ecVv (As := []) (rest := []) ⟨hx, hb, hml, hown, hts⟩ (e_X1_change l D K ad hap0 o I G A L I2 hc3) (cwV 0 hts gX1_setNumber_X1_change rfl rfl rfl (by decide +kernel) ⟨Nat.le_of_ble_eq_true rfl, Nat.le_of_ble_eq_true rfl⟩) hK hP hS (s318 hk1.1) hk1.2 (by decide) rfl rfl rfl hl.1 (Nat.le_of_ble_eq_true rfl) (Nat.le_of_ble_eq_true rfl) (Nat.le_of_ble_eq_true rfl) dX1_setNumber_1 (fun H locs hP hS => ?_) rfl
  have hP : va_P D vwCl (VW K ad I2 G A L) H := hP
  refine lv_aload_n hx hb dX1_setNumber_4 rfl (lv_at hl 0 rfl) ?_
  refine vgS hx hb hts hi1 hown hK hP (o) (s318 hk1.1) hk1.2 (C := RX1) (T := TX1) (N := 9) rfl 7 (by decide) (by decide) (by decide) (by decide) (o + 10) rfl (hts (.fieldLink RX1 39 "CrateHelpers$Problem" "rules" "[LCrateHelpers$Rule;") (by decide +kernel)) (fun _ h9 => h9) dX1_setNumber_5 ?_
  refine lv_iload_n hx hb dX1_setNumber_8 rfl (lv_at hl 1 rfl) ?_
  obtain ⟨hk4, h⟩ := gk h
  obtain ⟨hn5, h⟩ := gk h
  refine xaald hx hb hK hP (o + 10) (s318 hk4.1) 6 14 hk4.2 (by decide) rfl hn5 (o + 12 + 5 * a1.toNatClampNeg) (drf14 (hk4.2)) dX1_setNumber_9 ?_
  obtain ⟨hk6, h⟩ := gk h
  refine vgI hx hb hts hi2 hown hK hP (o + 12 + 5 * a1.toNatClampNeg) (s318 hk6.1) hk6.2 (C := RX2) (T := TX2) (N := 7) rfl 1 (by decide) (by decide) (by decide) (by decide) (hts (.fieldLink RX1 57 "CrateHelpers$Rule" "c" "I") (by decide +kernel)) (fun _ h9 => h9) dX1_setNumber_10 ?_
  refine lv_istore_n (lv' := [(3, .int (I2 (o + 12 + 5 * a1.toNatClampNeg) 1)), (0, .ref (ad o)), (1, .int a1), (2, .int a2)]) hx hb dX1_setNumber_13 rfl hl (by decide) rfl (fun ls hl => ?_)
  refine lv_aload_n hx hb dX1_setNumber_14 rfl (lv_at hl 1 rfl) ?_
  refine vgS hx hb hts hi1 hown hK hP (o) (s318 hk1.1) hk1.2 (C := RX1) (T := TX1) (N := 9) rfl 7 (by decide) (by decide) (by decide) (by decide) (o + 10) rfl (hts (.fieldLink RX1 39 "CrateHelpers$Problem" "rules" "[LCrateHelpers$Rule;") (by decide +kernel)) (fun _ h9 => h9) dX1_setNumber_15 ?_
  refine lv_iload_n hx hb dX1_setNumber_18 rfl (lv_at hl 2 rfl) ?_
  refine xaald hx hb hK hP (o + 10) (s318 hk4.1) 6 14 hk4.2 (by decide) rfl hn5 (o + 12 + 5 * a1.toNatClampNeg) (drf14 (hk4.2)) dX1_setNumber_19 ?_
  refine lv_iload_n hx hb dX1_setNumber_20 rfl (lv_at hl 3 rfl) ?_
  refine vpI (v := a2) (ty := .int) hx hb hts hi2 tyX2 tyX2_ok nmX2 hown hK hP hap hS (o + 12 + 5 * a1.toNatClampNeg) (s318 hk6.1) hk6.2 (C := RX2) (T := TX2) (N := 7) rfl 1 (by decide) (by decide) (by decide) (by decide) (hts (.fieldLink RX1 57 "CrateHelpers$Rule" "c" "I") (by decide +kernel)) (fun _ h9 => h9) rfl (by decide +kernel) rfl rfl dX1_setNumber_21 (fun H locs hP hS => ?_)
  obtain ⟨I7, eI7, h⟩ := bd_e h
  rw [← eI7] at hP
  have hP : va_P D vwCl (VW K ad I7 G A L) H := hP
  refine lv_iload_n hx hb dX1_setNumber_24 rfl (lv_at hl 0 rfl) ?_
  exact W.iret (v := (I2 (o + 12 + 5 * a1.toNatClampNeg) 1)) hx hb hr (fun t9 ht9 hW9 => ⟨⟨(I2 (o + 12 + 5 * a1.toNatClampNeg) 1), (I7, G, A, L), rfl, by cases h; exact ⟨rfl, rfl⟩, by rw [ht9]; exact hP, va_K.moved hW9.alike hK⟩, hS.F ht9⟩) hS.2.2 dX1_setNumber_25
set_option maxHeartbeats 4000000 in
set_option maxRecDepth 100000 in
theorem e_X6_number (l : Launch) (D : va_G) (K : Nat → ClassId) (ad : Nat → Nat) (hap0 : apart ad (fun _ => True)) (a1 : Int32) (a2 : Int32) (a3 : Int32) (I : Nat → Nat → Int32) (G : Nat → Nat → Nat) (A : Nat → Nat → Int32) (L : Nat → Nat → Int64) (r0 : Int32) (I0 : Nat → Nat → Int32) (h : f_X6_number I a1 a2 a3 = some (r0, I0)) : Ci l D K ad yX6_number wsX6_number 2 49 [.ref (ad 0), .int a1, .int a2, .int a3] (I, G, A, L) (fun (r : Int32) (u : Mem) => r = r0 ∧ u = (I0, G, A, L)) := by
  intro sz
  refine Met.ofW (cc := cX6_number) (maxL := 4) (ret := (some .int)) (by decide) rfl ?_
  intro p e s m args below meth c s₁ Bd hml hv0
  obtain ⟨rfl, hsz, hP, hK⟩ := hv0
  have hx := Bd.exec
  have hb := Bd.bytes
  have hr := Bd.returns
  have hts := atoms_spec (ws := wsX6_number) Bd.pre
  have hown : s.vm.findClass RX6 = some m.cls := findClass_of_methodNamed Bd.named
  have hlocks := Bd.notSynchronized
  have hi6 : ∀ w ∈ u_ws RX6 TX6 18, w ∈ wsX6_number := fun w h => List.mem_cons_of_mem _ (List.mem_append_left _ (List.mem_append_left _ (List.mem_append_right _ h)))
  have hi1 : ∀ w ∈ u_ws RX1 TX1 9, w ∈ wsX6_number := fun w h => List.mem_cons_of_mem _ (List.mem_append_left _ (List.mem_append_right _ h))
  have hi2 : ∀ w ∈ u_ws RX2 TX2 7, w ∈ wsX6_number := fun w h => List.mem_cons_of_mem _ (List.mem_append_right _ h)
  subst hsz
  have hap := vF_ap hap0 s.heap.size
  have hS : va_S (vF ad s.heap.size) s.heap s.heap [] := va_S.rf
  have hP : va_P D vwCl (VW K ad I G A L) s.heap := hP
  have hl := lv_entry ([.ref (ad 0), .int a1, .int a2, .int a3]) (n := 4) (Nat.le_of_ble_eq_true rfl)
  rw [lg_entry_eq]
  generalize (lg_sl ([.ref (ad 0), .int a1, .int a2, .int a3]) ++ List.replicate (4 - (lg_sl ([.ref (ad 0), .int a1, .int a2, .int a3])).length) Slot.unset).toArray = ls at hl ⊢
  have hl : lv_has ls 4 [(0, .ref (ad 0)), (1, .int a1), (2, .int a2), (3, .int a3)] := hl
  rw [f_X6_number] at h
  refine lv_aload_n hx hb dX6_number_0 rfl (lv_at hl 0 rfl) ?_
  refine lv_iload_n hx hb dX6_number_1 rfl (lv_at hl 1 rfl) ?_
  obtain ⟨r1, hc2, h⟩ := Option.bind_eq_some_iff.mp h
  refine ecV (As := [.int a1]) (rest := []) ⟨hx, hb, hml, hown, hts⟩ (e_X6_isProblem l D K ad hap0 a1 I G A L r1 hc2) (cwV 1 hts gX6_number_X6_isProblem rfl rfl rfl (by decide +kernel) ⟨Nat.le_of_ble_eq_true rfl, Nat.le_of_ble_eq_true rfl⟩) hK hP hS (by decide) (show kd 0 = 6 by decide) (by decide) rfl rfl rfl hl.1 (Nat.le_of_ble_eq_true rfl) (Nat.le_of_ble_eq_true rfl) (Nat.le_of_ble_eq_true rfl) dX6_number_2 (fun H locs hP hS => ?_) rfl
  have hP : va_P D vwCl (VW K ad I G A L) H := hP
  refine lv_if_eq (tgt := 28) hx hb dX6_number_5 (by decide) (fun c_3 => ?_) (fun c_3 => ?_)
  · have h := ip c_3 h
    refine lv_aload_n hx hb dX6_number_28 rfl (lv_at hl 0 rfl) ?_
    refine lv_iconst (v := (-1)) hx hb dX6_number_29 (by decide) ?_
    obtain ⟨⟨r4, I5⟩, hc6, h⟩ := Option.bind_eq_some_iff.mp h
    refine ecV (As := [.int (-1)]) (rest := []) ⟨hx, hb, hml, hown, hts⟩ (e_X6_refuse l D K ad hap0 (-1) I G A L r4 I5 hc6) (cwV 1 hts gX6_number_X6_refuse rfl rfl rfl (by decide +kernel) ⟨Nat.le_of_ble_eq_true rfl, Nat.le_of_ble_eq_true rfl⟩) hK hP hS (by decide) (show kd 0 = 6 by decide) (by decide) rfl rfl rfl hl.1 (Nat.le_of_ble_eq_true rfl) (Nat.le_of_ble_eq_true rfl) (Nat.le_of_ble_eq_true rfl) dX6_number_30 (fun H locs hP hS => ?_) rfl
    have hP : va_P D vwCl (VW K ad I5 G A L) H := hP
    exact W.iret (v := r4) hx hb hr (fun t9 ht9 hW9 => ⟨⟨r4, (I5, G, A, L), rfl, by cases h; exact ⟨rfl, rfl⟩, by rw [ht9]; exact hP, va_K.moved hW9.alike hK⟩, hS.F ht9⟩) hS.2.2 dX6_number_33
  · have h := iN c_3 h
    refine lv_aload_n hx hb dX6_number_8 rfl (lv_at hl 0 rfl) ?_
    refine vgC hx hb hts hi6 hown hK hP (0) (by decide) (show kd 0 = 6 by decide) (C := RX6) (T := TX6) (N := 18) rfl 0 (by decide) (by decide) (by decide) (by decide) (1) rfl (hts (.fieldLink RX6 11 "CrateHelpers" "problems" "[LCrateHelpers$Problem;") (by decide +kernel)) (fun _ h9 => h9) dX6_number_9 ?_
    refine lv_iload_n hx hb dX6_number_12 rfl (lv_at hl 1 rfl) ?_
    obtain ⟨hn7, h⟩ := gk h
    refine xaald hx hb hK hP (1) (by decide) 5 13 (show kd 1 = 13 by decide) (by decide) rfl (by rw [show ln 1 = 5 by decide]; exact hn7) (58 + 52 * a1.toNatClampNeg) (drf13 ((show kd 1 = 13 by decide))) dX6_number_13 ?_
    refine lv_iload_n hx hb dX6_number_14 rfl (lv_at hl 2 rfl) ?_
    obtain ⟨hk8, h⟩ := gk h
    obtain ⟨r9, hc10, h⟩ := Option.bind_eq_some_iff.mp h
    refine ecV (As := [.int a2]) (rest := []) ⟨hx, hb, hml, hown, hts⟩ (e_X1_hasRule l D K ad hap0 (58 + 52 * a1.toNatClampNeg) a2 I G A L r9 hc10) (cwV 1 hts gX6_number_X1_hasRule rfl rfl rfl (by decide +kernel) ⟨Nat.le_of_ble_eq_true rfl, Nat.le_of_ble_eq_true rfl⟩) hK hP hS (s318 hk8.1) hk8.2 (by decide) rfl rfl rfl hl.1 (Nat.le_of_ble_eq_true rfl) (Nat.le_of_ble_eq_true rfl) (Nat.le_of_ble_eq_true rfl) dX6_number_15 (fun H locs hP hS => ?_) rfl
    have hP : va_P D vwCl (VW K ad I G A L) H := hP
    refine lv_if_eq (tgt := 28) hx hb dX6_number_18 (by decide) (fun c_11 => ?_) (fun c_11 => ?_)
    · have h := ip c_11 h
      refine lv_aload_n hx hb dX6_number_28 rfl (lv_at hl 0 rfl) ?_
      refine lv_iconst (v := (-1)) hx hb dX6_number_29 (by decide) ?_
      obtain ⟨⟨r12, I13⟩, hc14, h⟩ := Option.bind_eq_some_iff.mp h
      refine ecV (As := [.int (-1)]) (rest := []) ⟨hx, hb, hml, hown, hts⟩ (e_X6_refuse l D K ad hap0 (-1) I G A L r12 I13 hc14) (cwV 1 hts gX6_number_X6_refuse rfl rfl rfl (by decide +kernel) ⟨Nat.le_of_ble_eq_true rfl, Nat.le_of_ble_eq_true rfl⟩) hK hP hS (by decide) (show kd 0 = 6 by decide) (by decide) rfl rfl rfl hl.1 (Nat.le_of_ble_eq_true rfl) (Nat.le_of_ble_eq_true rfl) (Nat.le_of_ble_eq_true rfl) dX6_number_30 (fun H locs hP hS => ?_) rfl
      have hP : va_P D vwCl (VW K ad I13 G A L) H := hP
      exact W.iret (v := r12) hx hb hr (fun t9 ht9 hW9 => ⟨⟨r12, (I13, G, A, L), rfl, by cases h; exact ⟨rfl, rfl⟩, by rw [ht9]; exact hP, va_K.moved hW9.alike hK⟩, hS.F ht9⟩) hS.2.2 dX6_number_33
    · have h := iN c_11 h
      refine lv_iload_n hx hb dX6_number_21 rfl (lv_at hl 3 rfl) ?_
      obtain ⟨r15, hc16, h⟩ := Option.bind_eq_some_iff.mp h
      refine ecS (As := [.int a3]) (rest := []) ⟨hx, hb, hml, hown, hts⟩ (e_X6_isRuleNumber l D K ad hap0 a3 I G A L r15 hc16) (va_cwS 1 hts gX6_number_X6_isRuleNumber rfl rfl rfl (by decide +kernel) ⟨Nat.le_of_ble_eq_true rfl, Nat.le_of_ble_eq_true rfl⟩) hK hP hS rfl hl.1 (Nat.le_of_ble_eq_true rfl) (Nat.le_of_ble_eq_true rfl) (Nat.le_of_ble_eq_true rfl) dX6_number_22 (fun H locs hP hS => ?_) rfl
      have hP : va_P D vwCl (VW K ad I G A L) H := hP
      refine lv_if_ne (tgt := 34) hx hb dX6_number_25 (by decide) (fun c_17 => ?_) (fun c_17 => ?_)
      · have h := iN c_17 h
        refine lv_aload_n hx hb dX6_number_34 rfl (lv_at hl 0 rfl) ?_
        refine vgI hx hb hts hi6 hown hK hP (0) (by decide) (show kd 0 = 6 by decide) (C := RX6) (T := TX6) (N := 18) rfl 5 (by decide) (by decide) (by decide) (by decide) (hts (.fieldLink RX6 29 "CrateHelpers" "underWay" "I") (by decide +kernel)) (fun _ h9 => h9) dX6_number_35 ?_
        refine lv_bipush (v := (-9)) hx hb dX6_number_38 (by decide) ?_
        refine lv_icmp_eq (tgt := 50) hx hb dX6_number_40 (by decide) (fun c_18 => ?_) (fun c_18 => ?_)
        · have h := ip c_18 h
          refine lv_aload_n hx hb dX6_number_50 rfl (lv_at hl 0 rfl) ?_
          refine lv_aload_n hx hb dX6_number_51 rfl (lv_at hl 0 rfl) ?_
          refine vgC hx hb hts hi6 hown hK hP (0) (by decide) (show kd 0 = 6 by decide) (C := RX6) (T := TX6) (N := 18) rfl 0 (by decide) (by decide) (by decide) (by decide) (1) rfl (hts (.fieldLink RX6 11 "CrateHelpers" "problems" "[LCrateHelpers$Problem;") (by decide +kernel)) (fun _ h9 => h9) dX6_number_52 ?_
          refine lv_iload_n hx hb dX6_number_55 rfl (lv_at hl 1 rfl) ?_
          refine xaald hx hb hK hP (1) (by decide) 5 13 (show kd 1 = 13 by decide) (by decide) rfl (by rw [show ln 1 = 5 by decide]; exact hn7) (58 + 52 * a1.toNatClampNeg) (drf13 ((show kd 1 = 13 by decide))) dX6_number_56 ?_
          refine lv_iload_n hx hb dX6_number_57 rfl (lv_at hl 2 rfl) ?_
          refine lv_iload_n hx hb dX6_number_58 rfl (lv_at hl 3 rfl) ?_
          obtain ⟨⟨r19, I20⟩, hc21, h⟩ := Option.bind_eq_some_iff.mp h
          refine ecV (As := [.int a2, .int a3]) (rest := [.ref (ad 0)]) ⟨hx, hb, hml, hown, hts⟩ (e_X1_setNumber l D K ad hap0 (58 + 52 * a1.toNatClampNeg) a2 a3 I G A L r19 I20 hc21) (cwV 2 hts gX6_number_X1_setNumber rfl rfl rfl (by decide +kernel) ⟨Nat.le_of_ble_eq_true rfl, Nat.le_of_ble_eq_true rfl⟩) hK hP hS (s318 hk8.1) hk8.2 (by decide) rfl rfl rfl hl.1 (Nat.le_of_ble_eq_true rfl) (Nat.le_of_ble_eq_true rfl) (Nat.le_of_ble_eq_true rfl) dX6_number_59 (fun H locs hP hS => ?_) rfl
          have hP : va_P D vwCl (VW K ad I20 G A L) H := hP
          obtain ⟨⟨r22, I23⟩, hc24, h⟩ := Option.bind_eq_some_iff.mp h
          refine ecV (As := [.int r19]) (rest := []) ⟨hx, hb, hml, hown, hts⟩ (e_X6_grant l D K ad hap0 r19 I20 G A L r22 I23 hc24) (cwV 1 hts gX6_number_X6_grant rfl rfl rfl (by decide +kernel) ⟨Nat.le_of_ble_eq_true rfl, Nat.le_of_ble_eq_true rfl⟩) hK hP hS (by decide) (show kd 0 = 6 by decide) (by decide) rfl rfl rfl hl.1 (Nat.le_of_ble_eq_true rfl) (Nat.le_of_ble_eq_true rfl) (Nat.le_of_ble_eq_true rfl) dX6_number_62 (fun H locs hP hS => ?_) rfl
          have hP : va_P D vwCl (VW K ad I23 G A L) H := hP
          exact W.iret (v := r22) hx hb hr (fun t9 ht9 hW9 => ⟨⟨r22, (I23, G, A, L), rfl, by cases h; exact ⟨rfl, rfl⟩, by rw [ht9]; exact hP, va_K.moved hW9.alike hK⟩, hS.F ht9⟩) hS.2.2 dX6_number_65
        · have h := iN c_18 h
          refine lv_aload_n hx hb dX6_number_43 rfl (lv_at hl 0 rfl) ?_
          refine lv_bipush (v := (-2)) hx hb dX6_number_44 (by decide) ?_
          obtain ⟨⟨r25, I26⟩, hc27, h⟩ := Option.bind_eq_some_iff.mp h
          refine ecV (As := [.int (-2)]) (rest := []) ⟨hx, hb, hml, hown, hts⟩ (e_X6_refuse l D K ad hap0 (-2) I G A L r25 I26 hc27) (cwV 1 hts gX6_number_X6_refuse rfl rfl rfl (by decide +kernel) ⟨Nat.le_of_ble_eq_true rfl, Nat.le_of_ble_eq_true rfl⟩) hK hP hS (by decide) (show kd 0 = 6 by decide) (by decide) rfl rfl rfl hl.1 (Nat.le_of_ble_eq_true rfl) (Nat.le_of_ble_eq_true rfl) (Nat.le_of_ble_eq_true rfl) dX6_number_46 (fun H locs hP hS => ?_) rfl
          have hP : va_P D vwCl (VW K ad I26 G A L) H := hP
          exact W.iret (v := r25) hx hb hr (fun t9 ht9 hW9 => ⟨⟨r25, (I26, G, A, L), rfl, by cases h; exact ⟨rfl, rfl⟩, by rw [ht9]; exact hP, va_K.moved hW9.alike hK⟩, hS.F ht9⟩) hS.2.2 dX6_number_49
      · have h := ip c_17 h
        refine lv_aload_n hx hb dX6_number_28 rfl (lv_at hl 0 rfl) ?_
        refine lv_iconst (v := (-1)) hx hb dX6_number_29 (by decide) ?_
        obtain ⟨⟨r28, I29⟩, hc30, h⟩ := Option.bind_eq_some_iff.mp h
        refine ecV (As := [.int (-1)]) (rest := []) ⟨hx, hb, hml, hown, hts⟩ (e_X6_refuse l D K ad hap0 (-1) I G A L r28 I29 hc30) (cwV 1 hts gX6_number_X6_refuse rfl rfl rfl (by decide +kernel) ⟨Nat.le_of_ble_eq_true rfl, Nat.le_of_ble_eq_true rfl⟩) hK hP hS (by decide) (show kd 0 = 6 by decide) (by decide) rfl rfl rfl hl.1 (Nat.le_of_ble_eq_true rfl) (Nat.le_of_ble_eq_true rfl) (Nat.le_of_ble_eq_true rfl) dX6_number_30 (fun H locs hP hS => ?_) rfl
        have hP : va_P D vwCl (VW K ad I29 G A L) H := hP
        exact W.iret (v := r28) hx hb hr (fun t9 ht9 hW9 => ⟨⟨r28, (I29, G, A, L), rfl, by cases h; exact ⟨rfl, rfl⟩, by rw [ht9]; exact hP, va_K.moved hW9.alike hK⟩, hS.F ht9⟩) hS.2.2 dX6_number_33
set_option maxHeartbeats 4000000 in
set_option maxRecDepth 100000 in
theorem e_X2_add (l : Launch) (D : va_G) (K : Nat → ClassId) (ad : Nat → Nat) (hap0 : apart ad (fun _ => True)) (o : Nat) (a1 : Int32) (a2 : Int32) (I : Nat → Nat → Int32) (G : Nat → Nat → Nat) (A : Nat → Nat → Int32) (L : Nat → Nat → Int64) (I0 : Nat → Nat → Int32) (A0 : Nat → Nat → Int32) (h : f_X2_add I A o a1 a2 = some (I0, A0)) : Cv l D K ad yX2_add wsX2_add 0 0 [.ref (ad o), .int a1, .int a2] (I, G, A, L) (fun (u : Mem) => u = (I0, G, A0, L)) := by
  intro sz
  refine Met.ofW (cc := cX2_add) (maxL := 3) (ret := none) (by decide) rfl ?_
  intro p e s m args below meth c s₁ Bd hml hv0
  obtain ⟨rfl, hsz, hP, hK⟩ := hv0
  have hx := Bd.exec
  have hb := Bd.bytes
  have hr := Bd.returns
  have hts := atoms_spec (ws := wsX2_add) Bd.pre
  have hown : s.vm.findClass RX2 = some m.cls := findClass_of_methodNamed Bd.named
  have hlocks := Bd.notSynchronized
  have hi2 : ∀ w ∈ u_ws RX2 TX2 7, w ∈ wsX2_add := fun w h => List.mem_cons_of_mem _ (List.mem_append_right _ h)
  subst hsz
  have hap := vF_ap hap0 s.heap.size
  have hS : va_S (vF ad s.heap.size) s.heap s.heap [] := va_S.rf
  have hP : va_P D vwCl (VW K ad I G A L) s.heap := hP
  have hl := lv_entry ([.ref (ad o), .int a1, .int a2]) (n := 3) (Nat.le_of_ble_eq_true rfl)
  rw [lg_entry_eq]
  generalize (lg_sl ([.ref (ad o), .int a1, .int a2]) ++ List.replicate (3 - (lg_sl ([.ref (ad o), .int a1, .int a2])).length) Slot.unset).toArray = ls at hl ⊢
  have hl : lv_has ls 3 [(0, .ref (ad o)), (1, .int a1), (2, .int a2)] := hl
  rw [f_X2_add] at h
  refine lv_aload_n hx hb dX2_add_0 rfl (lv_at hl 0 rfl) ?_
  obtain ⟨hk1, h⟩ := gk h
  refine vgS hx hb hts hi2 hown hK hP (o) (s318 hk1.1) hk1.2 (C := RX2) (T := TX2) (N := 7) rfl 3 (by decide) (by decide) (by decide) (by decide) (o + 1) rfl (hts (.fieldLink RX2 21 "CrateHelpers$Rule" "variables" "[I") (by decide +kernel)) (fun _ h9 => h9) dX2_add_1 ?_
  refine lv_aload_n hx hb dX2_add_4 rfl (lv_at hl 0 rfl) ?_
  refine vgI hx hb hts hi2 hown hK hP (o) (s318 hk1.1) hk1.2 (C := RX2) (T := TX2) (N := 7) rfl 2 (by decide) (by decide) (by decide) (by decide) (hts (.fieldLink RX2 18 "CrateHelpers$Rule" "parts" "I") (by decide +kernel)) (fun _ h9 => h9) dX2_add_5 ?_
  refine lv_iload_n hx hb dX2_add_8 rfl (lv_at hl 1 rfl) ?_
  obtain ⟨hk2, h⟩ := gk h
  obtain ⟨hn3, h⟩ := gk h
  refine xiast hx hb hK hP hap hS (o + 1) (s318 hk2.1) hk2.2 hn3 dX2_add_9 (fun H locs hP hS => ?_)
  obtain ⟨A4, eA4, h⟩ := bd_e h
  rw [← eA4] at hP
  have hP : va_P D vwCl (VW K ad I G A4 L) H := hP
  refine lv_aload_n hx hb dX2_add_10 rfl (lv_at hl 0 rfl) ?_
  refine vgS hx hb hts hi2 hown hK hP (o) (s318 hk1.1) hk1.2 (C := RX2) (T := TX2) (N := 7) rfl 4 (by decide) (by decide) (by decide) (by decide) (o + 2) rfl (hts (.fieldLink RX2 25 "CrateHelpers$Rule" "weights" "[I") (by decide +kernel)) (fun _ h9 => h9) dX2_add_11 ?_
  refine lv_aload_n hx hb dX2_add_14 rfl (lv_at hl 0 rfl) ?_
  refine vgI hx hb hts hi2 hown hK hP (o) (s318 hk1.1) hk1.2 (C := RX2) (T := TX2) (N := 7) rfl 2 (by decide) (by decide) (by decide) (by decide) (hts (.fieldLink RX2 18 "CrateHelpers$Rule" "parts" "I") (by decide +kernel)) (fun _ h9 => h9) dX2_add_15 ?_
  refine lv_iload_n hx hb dX2_add_18 rfl (lv_at hl 2 rfl) ?_
  obtain ⟨hk5, h⟩ := gk h
  obtain ⟨hn6, h⟩ := gk h
  refine xiast hx hb hK hP hap hS (o + 2) (s318 hk5.1) hk5.2 hn6 dX2_add_19 (fun H locs hP hS => ?_)
  obtain ⟨A7, eA7, h⟩ := bd_e h
  rw [← eA7] at hP
  have hP : va_P D vwCl (VW K ad I G A7 L) H := hP
  refine lv_aload_n hx hb dX2_add_20 rfl (lv_at hl 0 rfl) ?_
  refine vgS hx hb hts hi2 hown hK hP (o) (s318 hk1.1) hk1.2 (C := RX2) (T := TX2) (N := 7) rfl 5 (by decide) (by decide) (by decide) (by decide) (o + 3) rfl (hts (.fieldLink RX2 28 "CrateHelpers$Rule" "isPart" "[Z") (by decide +kernel)) (fun _ h9 => h9) dX2_add_21 ?_
  refine lv_iload_n hx hb dX2_add_24 rfl (lv_at hl 1 rfl) ?_
  refine lv_iconst (v := 1) hx hb dX2_add_25 (by decide) ?_
  obtain ⟨hk8, h⟩ := gk h
  obtain ⟨hn9, h⟩ := gk h
  refine xzast hx hb hK hP hap hS (o + 3) (s318 hk8.1) hk8.2 hn9 dX2_add_26 (fun H locs hP hS => ?_)
  obtain ⟨A10, eA10, h⟩ := bd_e h
  rw [← eA10] at hP
  have hP : va_P D vwCl (VW K ad I G A10 L) H := hP
  refine lv_aload_n hx hb dX2_add_27 rfl (lv_at hl 0 rfl) ?_
  refine vgS hx hb hts hi2 hown hK hP (o) (s318 hk1.1) hk1.2 (C := RX2) (T := TX2) (N := 7) rfl 6 (by decide) (by decide) (by decide) (by decide) (o + 4) rfl (hts (.fieldLink RX2 32 "CrateHelpers$Rule" "weightOf" "[I") (by decide +kernel)) (fun _ h9 => h9) dX2_add_28 ?_
  refine lv_iload_n hx hb dX2_add_31 rfl (lv_at hl 1 rfl) ?_
  refine lv_iload_n hx hb dX2_add_32 rfl (lv_at hl 2 rfl) ?_
  obtain ⟨hk11, h⟩ := gk h
  obtain ⟨hn12, h⟩ := gk h
  refine xiast hx hb hK hP hap hS (o + 4) (s318 hk11.1) hk11.2 hn12 dX2_add_33 (fun H locs hP hS => ?_)
  obtain ⟨A13, eA13, h⟩ := bd_e h
  rw [← eA13] at hP
  have hP : va_P D vwCl (VW K ad I G A13 L) H := hP
  refine lv_aload_n hx hb dX2_add_34 rfl (lv_at hl 0 rfl) ?_
  refine lv_dup hx hb dX2_add_35 rfl ?_
  refine vgI hx hb hts hi2 hown hK hP (o) (s318 hk1.1) hk1.2 (C := RX2) (T := TX2) (N := 7) rfl 2 (by decide) (by decide) (by decide) (by decide) (hts (.fieldLink RX2 18 "CrateHelpers$Rule" "parts" "I") (by decide +kernel)) (fun _ h9 => h9) dX2_add_36 ?_
  refine lv_iconst (v := 1) hx hb dX2_add_39 (by decide) ?_
  refine lv_iadd hx hb dX2_add_40 ?_
  refine vpI (v := ((I o 2) + 1)) (ty := .int) hx hb hts hi2 tyX2 tyX2_ok nmX2 hown hK hP hap hS (o) (s318 hk1.1) hk1.2 (C := RX2) (T := TX2) (N := 7) rfl 2 (by decide) (by decide) (by decide) (by decide) (hts (.fieldLink RX2 18 "CrateHelpers$Rule" "parts" "I") (by decide +kernel)) (fun _ h9 => h9) rfl (by decide +kernel) rfl rfl dX2_add_41 (fun H locs hP hS => ?_)
  obtain ⟨I14, eI14, h⟩ := bd_e h
  rw [← eI14] at hP
  have hP : va_P D vwCl (VW K ad I14 G A13 L) H := hP
  exact W.vret hx hb hr (fun t9 ht9 hW9 => ⟨⟨(I14, G, A13, L), rfl, by cases h; rfl, by rw [ht9]; exact hP, va_K.moved hW9.alike hK⟩, hS.F ht9⟩) hS.2.2 dX2_add_44
set_option maxHeartbeats 4000000 in
set_option maxRecDepth 100000 in
theorem e_X1_addPart (l : Launch) (D : va_G) (K : Nat → ClassId) (ad : Nat → Nat) (hap0 : apart ad (fun _ => True)) (o : Nat) (a1 : Int32) (a2 : Int32) (a3 : Int32) (I : Nat → Nat → Int32) (G : Nat → Nat → Nat) (A : Nat → Nat → Int32) (L : Nat → Nat → Int64) (r0 : Int32) (I0 : Nat → Nat → Int32) (A0 : Nat → Nat → Int32) (h : f_X1_addPart I A o a1 a2 a3 = some (r0, I0, A0)) : Ci l D K ad yX1_addPart wsX1_addPart 1 25 [.ref (ad o), .int a1, .int a2, .int a3] (I, G, A, L) (fun (r : Int32) (u : Mem) => r = r0 ∧ u = (I0, G, A0, L)) := by
  intro sz
  refine Met.ofW (cc := cX1_addPart) (maxL := 4) (ret := (some .int)) (by decide) rfl ?_
  intro p e s m args below meth c s₁ Bd hml hv0
  obtain ⟨rfl, hsz, hP, hK⟩ := hv0
  have hx := Bd.exec
  have hb := Bd.bytes
  have hr := Bd.returns
  have hts := atoms_spec (ws := wsX1_addPart) Bd.pre
  have hown : s.vm.findClass RX1 = some m.cls := findClass_of_methodNamed Bd.named
  have hlocks := Bd.notSynchronized
  have hi1 : ∀ w ∈ u_ws RX1 TX1 9, w ∈ wsX1_addPart := fun w h => List.mem_cons_of_mem _ (List.mem_append_left _ (List.mem_append_right _ h))
  have hi2 : ∀ w ∈ u_ws RX2 TX2 7, w ∈ wsX1_addPart := fun w h => List.mem_cons_of_mem _ (List.mem_append_right _ h)
  subst hsz
  have hap := vF_ap hap0 s.heap.size
  have hS : va_S (vF ad s.heap.size) s.heap s.heap [] := va_S.rf
  have hP : va_P D vwCl (VW K ad I G A L) s.heap := hP
  have hl := lv_entry ([.ref (ad o), .int a1, .int a2, .int a3]) (n := 4) (Nat.le_of_ble_eq_true rfl)
  rw [lg_entry_eq]
  generalize (lg_sl ([.ref (ad o), .int a1, .int a2, .int a3]) ++ List.replicate (4 - (lg_sl ([.ref (ad o), .int a1, .int a2, .int a3])).length) Slot.unset).toArray = ls at hl ⊢
  have hl : lv_has ls 4 [(0, .ref (ad o)), (1, .int a1), (2, .int a2), (3, .int a3)] := hl
  rw [f_X1_addPart] at h
  refine lv_aload_n hx hb dX1_addPart_0 rfl (lv_at hl 0 rfl) ?_
  obtain ⟨hk1, h⟩ := gk h
  obtain ⟨I2, hc3, h⟩ := Option.bind_eq_some_iff.mp h
  refine ecVv (As := []) (rest := []) ⟨hx, hb, hml, hown, hts⟩ (e_X1_change l D K ad hap0 o I G A L I2 hc3) (cwV 0 hts gX1_addPart_X1_change rfl rfl rfl (by decide +kernel) ⟨Nat.le_of_ble_eq_true rfl, Nat.le_of_ble_eq_true rfl⟩) hK hP hS (s318 hk1.1) hk1.2 (by decide) rfl rfl rfl hl.1 (Nat.le_of_ble_eq_true rfl) (Nat.le_of_ble_eq_true rfl) (Nat.le_of_ble_eq_true rfl) dX1_addPart_1 (fun H locs hP hS => ?_) rfl
  have hP : va_P D vwCl (VW K ad I2 G A L) H := hP
  refine lv_aload_n hx hb dX1_addPart_4 rfl (lv_at hl 0 rfl) ?_
  refine vgS hx hb hts hi1 hown hK hP (o) (s318 hk1.1) hk1.2 (C := RX1) (T := TX1) (N := 9) rfl 7 (by decide) (by decide) (by decide) (by decide) (o + 10) rfl (hts (.fieldLink RX1 39 "CrateHelpers$Problem" "rules" "[LCrateHelpers$Rule;") (by decide +kernel)) (fun _ h9 => h9) dX1_addPart_5 ?_
  refine lv_iload_n hx hb dX1_addPart_8 rfl (lv_at hl 1 rfl) ?_
  obtain ⟨hk4, h⟩ := gk h
  obtain ⟨hn5, h⟩ := gk h
  refine xaald hx hb hK hP (o + 10) (s318 hk4.1) 6 14 hk4.2 (by decide) rfl hn5 (o + 12 + 5 * a1.toNatClampNeg) (drf14 (hk4.2)) dX1_addPart_9 ?_
  refine lv_iload_n hx hb dX1_addPart_10 rfl (lv_at hl 2 rfl) ?_
  refine lv_iload_n hx hb dX1_addPart_11 rfl (lv_at hl 3 rfl) ?_
  obtain ⟨hk6, h⟩ := gk h
  obtain ⟨⟨I7, A8⟩, hc9, h⟩ := Option.bind_eq_some_iff.mp h
  refine ecVv (As := [.int a2, .int a3]) (rest := []) ⟨hx, hb, hml, hown, hts⟩ (e_X2_add l D K ad hap0 (o + 12 + 5 * a1.toNatClampNeg) a2 a3 I2 G A L I7 A8 hc9) (cwV 2 hts gX1_addPart_X2_add rfl rfl rfl (by decide +kernel) ⟨Nat.le_of_ble_eq_true rfl, Nat.le_of_ble_eq_true rfl⟩) hK hP hS (s318 hk6.1) hk6.2 (by decide) rfl rfl rfl hl.1 (Nat.le_of_ble_eq_true rfl) (Nat.le_of_ble_eq_true rfl) (Nat.le_of_ble_eq_true rfl) dX1_addPart_12 (fun H locs hP hS => ?_) rfl
  have hP : va_P D vwCl (VW K ad I7 G A8 L) H := hP
  refine lv_aload_n hx hb dX1_addPart_15 rfl (lv_at hl 0 rfl) ?_
  refine vgS hx hb hts hi1 hown hK hP (o) (s318 hk1.1) hk1.2 (C := RX1) (T := TX1) (N := 9) rfl 7 (by decide) (by decide) (by decide) (by decide) (o + 10) rfl (hts (.fieldLink RX1 39 "CrateHelpers$Problem" "rules" "[LCrateHelpers$Rule;") (by decide +kernel)) (fun _ h9 => h9) dX1_addPart_16 ?_
  refine lv_iload_n hx hb dX1_addPart_19 rfl (lv_at hl 1 rfl) ?_
  refine xaald hx hb hK hP (o + 10) (s318 hk4.1) 6 14 hk4.2 (by decide) rfl hn5 (o + 12 + 5 * a1.toNatClampNeg) (drf14 (hk4.2)) dX1_addPart_20 ?_
  refine vgI hx hb hts hi2 hown hK hP (o + 12 + 5 * a1.toNatClampNeg) (s318 hk6.1) hk6.2 (C := RX2) (T := TX2) (N := 7) rfl 2 (by decide) (by decide) (by decide) (by decide) (hts (.fieldLink RX1 64 "CrateHelpers$Rule" "parts" "I") (by decide +kernel)) (fun _ h9 => h9) dX1_addPart_21 ?_
  exact W.iret (v := (I7 (o + 12 + 5 * a1.toNatClampNeg) 2)) hx hb hr (fun t9 ht9 hW9 => ⟨⟨(I7 (o + 12 + 5 * a1.toNatClampNeg) 2), (I7, G, A8, L), rfl, by cases h; exact ⟨rfl, rfl⟩, by rw [ht9]; exact hP, va_K.moved hW9.alike hK⟩, hS.F ht9⟩) hS.2.2 dX1_addPart_24

/-! part 53.c03 -/
set_option maxHeartbeats 4000000 in
set_option maxRecDepth 100000 in
theorem e_X6_part (l : Launch) (D : va_G) (K : Nat → ClassId) (ad : Nat → Nat) (hap0 : apart ad (fun _ => True)) (a1 : Int32) (a2 : Int32) (a3 : Int32) (a4 : Int32) (I : Nat → Nat → Int32) (G : Nat → Nat → Nat) (A : Nat → Nat → Int32) (L : Nat → Nat → Int64) (r0 : Int32) (I0 : Nat → Nat → Int32) (A0 : Nat → Nat → Int32) (h : f_X6_part I A a1 a2 a3 a4 = some (r0, I0, A0)) : Ci l D K ad yX6_part wsX6_part 2 51 [.ref (ad 0), .int a1, .int a2, .int a3, .int a4] (I, G, A, L) (fun (r : Int32) (u : Mem) => r = r0 ∧ u = (I0, G, A0, L)) := by
  intro sz
  refine Met.ofW (cc := cX6_part) (maxL := 6) (ret := (some .int)) (by decide) rfl ?_
  intro p e s m args below meth c s₁ Bd hml hv0
  obtain ⟨rfl, hsz, hP, hK⟩ := hv0
  have hx := Bd.exec
  have hb := Bd.bytes
  have hr := Bd.returns
  have hts := atoms_spec (ws := wsX6_part) Bd.pre
  have hown : s.vm.findClass RX6 = some m.cls := findClass_of_methodNamed Bd.named
  have hlocks := Bd.notSynchronized
  have hi6 : ∀ w ∈ u_ws RX6 TX6 18, w ∈ wsX6_part := fun w h => List.mem_cons_of_mem _ (List.mem_append_left _ (List.mem_append_left _ (List.mem_append_right _ h)))
  have hi1 : ∀ w ∈ u_ws RX1 TX1 9, w ∈ wsX6_part := fun w h => List.mem_cons_of_mem _ (List.mem_append_left _ (List.mem_append_right _ h))
  have hi2 : ∀ w ∈ u_ws RX2 TX2 7, w ∈ wsX6_part := fun w h => List.mem_cons_of_mem _ (List.mem_append_right _ h)
  subst hsz
  have hap := vF_ap hap0 s.heap.size
  have hS : va_S (vF ad s.heap.size) s.heap s.heap [] := va_S.rf
  have hP : va_P D vwCl (VW K ad I G A L) s.heap := hP
  have hl := lv_entry ([.ref (ad 0), .int a1, .int a2, .int a3, .int a4]) (n := 6) (Nat.le_of_ble_eq_true rfl)
  rw [lg_entry_eq]
  generalize (lg_sl ([.ref (ad 0), .int a1, .int a2, .int a3, .int a4]) ++ List.replicate (6 - (lg_sl ([.ref (ad 0), .int a1, .int a2, .int a3, .int a4])).length) Slot.unset).toArray = ls at hl ⊢
  have hl : lv_has ls 6 [(0, .ref (ad 0)), (1, .int a1), (2, .int a2), (3, .int a3), (4, .int a4)] := hl
  rw [f_X6_part] at h
  refine lv_aload_n hx hb dX6_part_0 rfl (lv_at hl 0 rfl) ?_
  refine lv_iload_n hx hb dX6_part_1 rfl (lv_at hl 1 rfl) ?_
  obtain ⟨r1, hc2, h⟩ := Option.bind_eq_some_iff.mp h
  refine ecV (As := [.int a1]) (rest := []) ⟨hx, hb, hml, hown, hts⟩ (e_X6_isProblem l D K ad hap0 a1 I G A L r1 hc2) (cwV 1 hts gX6_part_X6_isProblem rfl rfl rfl (by decide +kernel) ⟨Nat.le_of_ble_eq_true rfl, Nat.le_of_ble_eq_true rfl⟩) hK hP hS (by decide) (show kd 0 = 6 by decide) (by decide) rfl rfl rfl hl.1 (Nat.le_of_ble_eq_true rfl) (Nat.le_of_ble_eq_true rfl) (Nat.le_of_ble_eq_true rfl) dX6_part_2 (fun H locs hP hS => ?_) rfl
  have hP : va_P D vwCl (VW K ad I G A L) H := hP
  refine lv_if_eq (tgt := 20) hx hb dX6_part_5 (by decide) (fun c_3 => ?_) (fun c_3 => ?_)
  · have h := ip c_3 h
    refine lv_iconst (v := (-1)) hx hb dX6_part_20 (by decide) ?_
    exact W.iret (v := (-1)) hx hb hr (fun t9 ht9 hW9 => ⟨⟨(-1), (I, G, A, L), rfl, by cases h; exact ⟨rfl, rfl⟩, by rw [ht9]; exact hP, va_K.moved hW9.alike hK⟩, hS.F ht9⟩) hS.2.2 dX6_part_21
  · have h := iN c_3 h
    refine lv_iload hx hb dX6_part_8 (lv_at hl 4 rfl) ?_
    refine lv_bipush (v := (-50)) hx hb dX6_part_10 (by decide) ?_
    refine lv_bipush (v := 50) hx hb dX6_part_12 (by decide) ?_
    obtain ⟨r4, hc5, h⟩ := Option.bind_eq_some_iff.mp h
    refine ecS (As := [.int a4, .int (-50), .int 50]) (rest := []) ⟨hx, hb, hml, hown, hts⟩ (e_X6_isWithin l D K ad hap0 a4 (-50) 50 I G A L r4 hc5) (va_cwS 3 hts gX6_part_X6_isWithin rfl rfl rfl (by decide +kernel) ⟨Nat.le_of_ble_eq_true rfl, Nat.le_of_ble_eq_true rfl⟩) hK hP hS rfl hl.1 (Nat.le_of_ble_eq_true rfl) (Nat.le_of_ble_eq_true rfl) (Nat.le_of_ble_eq_true rfl) dX6_part_14 (fun H locs hP hS => ?_) rfl
    have hP : va_P D vwCl (VW K ad I G A L) H := hP
    refine lv_if_ne (tgt := 22) hx hb dX6_part_17 (by decide) (fun c_6 => ?_) (fun c_6 => ?_)
    · have h := iN c_6 h
      refine lv_aload_n hx hb dX6_part_22 rfl (lv_at hl 0 rfl) ?_
      refine vgC hx hb hts hi6 hown hK hP (0) (by decide) (show kd 0 = 6 by decide) (C := RX6) (T := TX6) (N := 18) rfl 0 (by decide) (by decide) (by decide) (by decide) (1) rfl (hts (.fieldLink RX6 11 "CrateHelpers" "problems" "[LCrateHelpers$Problem;") (by decide +kernel)) (fun _ h9 => h9) dX6_part_23 ?_
      refine lv_iload_n hx hb dX6_part_26 rfl (lv_at hl 1 rfl) ?_
      obtain ⟨hn7, h⟩ := gk h
      refine xaald hx hb hK hP (1) (by decide) 5 13 (show kd 1 = 13 by decide) (by decide) rfl (by rw [show ln 1 = 5 by decide]; exact hn7) (58 + 52 * a1.toNatClampNeg) (drf13 ((show kd 1 = 13 by decide))) dX6_part_27 ?_
      refine lv_astore (lv' := [(5, .ref (ad (58 + 52 * a1.toNatClampNeg))), (0, .ref (ad 0)), (1, .int a1), (2, .int a2), (3, .int a3), (4, .int a4)]) hx hb dX6_part_28 hl (by decide) rfl (fun ls hl => ?_)
      refine lv_aload hx hb dX6_part_30 (lv_at hl 0 rfl) ?_
      refine lv_iload_n hx hb dX6_part_32 rfl (lv_at hl 3 rfl) ?_
      obtain ⟨hk8, h⟩ := gk h
      obtain ⟨r9, hc10, h⟩ := Option.bind_eq_some_iff.mp h
      refine ecV (As := [.int a2]) (rest := []) ⟨hx, hb, hml, hown, hts⟩ (e_X1_hasRule l D K ad hap0 (58 + 52 * a1.toNatClampNeg) a2 I G A L r9 hc10) (cwV 1 hts gX6_part_X1_hasRule rfl rfl rfl (by decide +kernel) ⟨Nat.le_of_ble_eq_true rfl, Nat.le_of_ble_eq_true rfl⟩) hK hP hS (s318 hk8.1) hk8.2 (by decide) rfl rfl rfl hl.1 (Nat.le_of_ble_eq_true rfl) (Nat.le_of_ble_eq_true rfl) (Nat.le_of_ble_eq_true rfl) dX6_part_33 (fun H locs hP hS => ?_) rfl
      have hP : va_P D vwCl (VW K ad I G A L) H := hP
      refine lv_if_eq (tgt := 48) hx hb dX6_part_36 (by decide) (fun c_11 => ?_) (fun c_11 => ?_)
      · have h := ip c_11 h
        refine lv_iconst (v := (-1)) hx hb dX6_part_48 (by decide) ?_
        exact W.iret (v := (-1)) hx hb hr (fun t9 ht9 hW9 => ⟨⟨(-1), (I, G, A, L), rfl, by cases h; exact ⟨rfl, rfl⟩, by rw [ht9]; exact hP, va_K.moved hW9.alike hK⟩, hS.F ht9⟩) hS.2.2 dX6_part_49
      · have h := iN c_11 h
        refine lv_aload hx hb dX6_part_39 (lv_at hl 0 rfl) ?_
        refine lv_iload_n hx hb dX6_part_41 rfl (lv_at hl 4 rfl) ?_
        obtain ⟨r12, hc13, h⟩ := Option.bind_eq_some_iff.mp h
        refine ecV (As := [.int a3]) (rest := []) ⟨hx, hb, hml, hown, hts⟩ (e_X1_hasVariable l D K ad hap0 (58 + 52 * a1.toNatClampNeg) a3 I G A L r12 hc13) (cwV 1 hts gX6_part_X1_hasVariable rfl rfl rfl (by decide +kernel) ⟨Nat.le_of_ble_eq_true rfl, Nat.le_of_ble_eq_true rfl⟩) hK hP hS (s318 hk8.1) hk8.2 (by decide) rfl rfl rfl hl.1 (Nat.le_of_ble_eq_true rfl) (Nat.le_of_ble_eq_true rfl) (Nat.le_of_ble_eq_true rfl) dX6_part_42 (fun H locs hP hS => ?_) rfl
        have hP : va_P D vwCl (VW K ad I G A L) H := hP
        refine lv_if_ne (tgt := 50) hx hb dX6_part_45 (by decide) (fun c_14 => ?_) (fun c_14 => ?_)
        · have h := iN c_14 h
          refine lv_aload_n hx hb dX6_part_50 rfl (lv_at hl 1 rfl) ?_
          refine vgI hx hb hts hi6 hown hK hP (0) (by decide) (show kd 0 = 6 by decide) (C := RX6) (T := TX6) (N := 18) rfl 5 (by decide) (by decide) (by decide) (by decide) (hts (.fieldLink RX6 29 "CrateHelpers" "underWay" "I") (by decide +kernel)) (fun _ h9 => h9) dX6_part_51 ?_
          refine lv_bipush (v := (-9)) hx hb dX6_part_54 (by decide) ?_
          refine lv_icmp_ne (tgt := 74) hx hb dX6_part_56 (by decide) (fun c_15 => ?_) (fun c_15 => ?_)
          · have h := iN c_15 h
            refine lv_bipush (v := (-2)) hx hb dX6_part_74 (by decide) ?_
            exact W.iret (v := (-2)) hx hb hr (fun t9 ht9 hW9 => ⟨⟨(-2), (I, G, A, L), rfl, by cases h; exact ⟨rfl, rfl⟩, by rw [ht9]; exact hP, va_K.moved hW9.alike hK⟩, hS.F ht9⟩) hS.2.2 dX6_part_76
          · have h := ip c_15 h
            refine lv_aload hx hb dX6_part_59 (lv_at hl 0 rfl) ?_
            refine vgS hx hb hts hi1 hown hK hP (58 + 52 * a1.toNatClampNeg) (s318 hk8.1) hk8.2 (C := RX1) (T := TX1) (N := 9) rfl 7 (by decide) (by decide) (by decide) (by decide) (58 + 52 * a1.toNatClampNeg + 10) rfl (hts (.fieldLink RX6 142 "CrateHelpers$Problem" "rules" "[LCrateHelpers$Rule;") (by decide +kernel)) (fun _ h9 => h9) dX6_part_61 ?_
            refine lv_iload_n hx hb dX6_part_64 rfl (lv_at hl 3 rfl) ?_
            obtain ⟨hk16, h⟩ := gk h
            obtain ⟨hn17, h⟩ := gk h
            refine xaald hx hb hK hP (58 + 52 * a1.toNatClampNeg + 10) (s318 hk16.1) 6 14 hk16.2 (by decide) rfl hn17 (58 + 52 * a1.toNatClampNeg + 12 + 5 * a2.toNatClampNeg) (drf14 (hk16.2)) dX6_part_65 ?_
            obtain ⟨hk18, h⟩ := gk h
            refine vgS hx hb hts hi2 hown hK hP (58 + 52 * a1.toNatClampNeg + 12 + 5 * a2.toNatClampNeg) (s318 hk18.1) hk18.2 (C := RX2) (T := TX2) (N := 7) rfl 5 (by decide) (by decide) (by decide) (by decide) (58 + 52 * a1.toNatClampNeg + 12 + 5 * a2.toNatClampNeg + 3) rfl (hts (.fieldLink RX6 146 "CrateHelpers$Rule" "isPart" "[Z") (by decide +kernel)) (fun _ h9 => h9) dX6_part_66 ?_
            refine lv_iload_n hx hb dX6_part_69 rfl (lv_at hl 4 rfl) ?_
            obtain ⟨hk19, h⟩ := gk h
            obtain ⟨hn20, h⟩ := gk h
            refine xzald hx hb hK hP (58 + 52 * a1.toNatClampNeg + 12 + 5 * a2.toNatClampNeg + 3) (s318 hk19.1) hk19.2 hn20 dX6_part_70 ?_
            refine lv_if_eq (tgt := 77) hx hb dX6_part_71 (by decide) (fun c_21 => ?_) (fun c_21 => ?_)
            · have h := ip c_21 h
              refine lv_aload hx hb dX6_part_77 (lv_at hl 0 rfl) ?_
              refine lv_iload_n hx hb dX6_part_79 rfl (lv_at hl 3 rfl) ?_
              refine lv_iload_n hx hb dX6_part_80 rfl (lv_at hl 4 rfl) ?_
              refine lv_iload hx hb dX6_part_81 (lv_at hl 5 rfl) ?_
              obtain ⟨⟨r22, I23, A24⟩, hc25, h⟩ := Option.bind_eq_some_iff.mp h
              refine ecV (As := [.int a2, .int a3, .int a4]) (rest := []) ⟨hx, hb, hml, hown, hts⟩ (e_X1_addPart l D K ad hap0 (58 + 52 * a1.toNatClampNeg) a2 a3 a4 I G A L r22 I23 A24 hc25) (cwV 3 hts gX6_part_X1_addPart rfl rfl rfl (by decide +kernel) ⟨Nat.le_of_ble_eq_true rfl, Nat.le_of_ble_eq_true rfl⟩) hK hP hS (s318 hk8.1) hk8.2 (by decide) rfl rfl rfl hl.1 (Nat.le_of_ble_eq_true rfl) (Nat.le_of_ble_eq_true rfl) (Nat.le_of_ble_eq_true rfl) dX6_part_83 (fun H locs hP hS => ?_) rfl
              have hP : va_P D vwCl (VW K ad I23 G A24 L) H := hP
              exact W.iret (v := r22) hx hb hr (fun t9 ht9 hW9 => ⟨⟨r22, (I23, G, A24, L), rfl, by cases h; exact ⟨rfl, rfl⟩, by rw [ht9]; exact hP, va_K.moved hW9.alike hK⟩, hS.F ht9⟩) hS.2.2 dX6_part_86
            · have h := iN c_21 h
              refine lv_bipush (v := (-2)) hx hb dX6_part_74 (by decide) ?_
              exact W.iret (v := (-2)) hx hb hr (fun t9 ht9 hW9 => ⟨⟨(-2), (I, G, A, L), rfl, by cases h; exact ⟨rfl, rfl⟩, by rw [ht9]; exact hP, va_K.moved hW9.alike hK⟩, hS.F ht9⟩) hS.2.2 dX6_part_76
        · have h := ip c_14 h
          refine lv_iconst (v := (-1)) hx hb dX6_part_48 (by decide) ?_
          exact W.iret (v := (-1)) hx hb hr (fun t9 ht9 hW9 => ⟨⟨(-1), (I, G, A, L), rfl, by cases h; exact ⟨rfl, rfl⟩, by rw [ht9]; exact hP, va_K.moved hW9.alike hK⟩, hS.F ht9⟩) hS.2.2 dX6_part_49
    · have h := ip c_6 h
      refine lv_iconst (v := (-1)) hx hb dX6_part_20 (by decide) ?_
      exact W.iret (v := (-1)) hx hb hr (fun t9 ht9 hW9 => ⟨⟨(-1), (I, G, A, L), rfl, by cases h; exact ⟨rfl, rfl⟩, by rw [ht9]; exact hP, va_K.moved hW9.alike hK⟩, hS.F ht9⟩) hS.2.2 dX6_part_21
set_option maxHeartbeats 4000000 in
set_option maxRecDepth 100000 in
theorem e_X6_plain (l : Launch) (D : va_G) (K : Nat → ClassId) (ad : Nat → Nat) (hap0 : apart ad (fun _ => True)) (I : Nat → Nat → Int32) (G : Nat → Nat → Nat) (A : Nat → Nat → Int32) (L : Nat → Nat → Int64) (r0 : Int32) (I0 : Nat → Nat → Int32) (h : f_X6_plain I = some (r0, I0)) : Ci l D K ad yX6_plain wsX6_plain 0 0 [.ref (ad 0)] (I, G, A, L) (fun (r : Int32) (u : Mem) => r = r0 ∧ u = (I0, G, A, L)) := by
  intro sz
  refine Met.ofW (cc := cX6_plain) (maxL := 2) (ret := (some .int)) (by decide) rfl ?_
  intro p e s m args below meth c s₁ Bd hml hv0
  obtain ⟨rfl, hsz, hP, hK⟩ := hv0
  have hx := Bd.exec
  have hb := Bd.bytes
  have hr := Bd.returns
  have hts := atoms_spec (ws := wsX6_plain) Bd.pre
  have hown : s.vm.findClass RX6 = some m.cls := findClass_of_methodNamed Bd.named
  have hlocks := Bd.notSynchronized
  have hi6 : ∀ w ∈ u_ws RX6 TX6 18, w ∈ wsX6_plain := fun w h => List.mem_cons_of_mem _ (List.mem_append_left _ (List.mem_append_right _ h))
  have hi4 : ∀ w ∈ u_ws RX4 TX4 7, w ∈ wsX6_plain := fun w h => List.mem_cons_of_mem _ (List.mem_append_right _ h)
  subst hsz
  have hap := vF_ap hap0 s.heap.size
  have hS : va_S (vF ad s.heap.size) s.heap s.heap [] := va_S.rf
  have hP : va_P D vwCl (VW K ad I G A L) s.heap := hP
  have hl := lv_entry ([.ref (ad 0)]) (n := 2) (Nat.le_of_ble_eq_true rfl)
  rw [lg_entry_eq]
  generalize (lg_sl ([.ref (ad 0)]) ++ List.replicate (2 - (lg_sl ([.ref (ad 0)])).length) Slot.unset).toArray = ls at hl ⊢
  have hl : lv_has ls 2 [(0, .ref (ad 0))] := hl
  rw [f_X6_plain] at h
  refine lv_aload_n hx hb dX6_plain_0 rfl (lv_at hl 0 rfl) ?_
  refine vgI hx hb hts hi6 hown hK hP (0) (by decide) (show kd 0 = 6 by decide) (C := RX6) (T := TX6) (N := 18) rfl 5 (by decide) (by decide) (by decide) (by decide) (hts (.fieldLink RX6 29 "CrateHelpers" "underWay" "I") (by decide +kernel)) (fun _ h9 => h9) dX6_plain_1 ?_
  refine lv_bipush (v := (-9)) hx hb dX6_plain_4 (by decide) ?_
  refine lv_icmp_eq (tgt := 12) hx hb dX6_plain_6 (by decide) (fun c_1 => ?_) (fun c_1 => ?_)
  · have h := ip c_1 h
    refine lv_aload_n hx hb dX6_plain_12 rfl (lv_at hl 0 rfl) ?_
    refine vgC hx hb hts hi6 hown hK hP (0) (by decide) (show kd 0 = 6 by decide) (C := RX6) (T := TX6) (N := 18) rfl 2 (by decide) (by decide) (by decide) (by decide) (2) rfl (hts (.fieldLink RX6 22 "CrateHelpers" "team" "LCrateHelpers$Team;") (by decide +kernel)) (fun _ h9 => h9) dX6_plain_13 ?_
    refine vgI hx hb hts hi4 hown hK hP (2) (by decide) (show kd 2 = 4 by decide) (C := RX4) (T := TX4) (N := 7) rfl 1 (by decide) (by decide) (by decide) (by decide) (hts (.fieldLink RX6 168 "CrateHelpers$Team" "scheduled" "I") (by decide +kernel)) (fun _ h9 => h9) dX6_plain_16 ?_
    refine lv_istore_n (lv' := [(1, .int (I 2 1)), (0, .ref (ad 0))]) hx hb dX6_plain_19 rfl hl (by decide) rfl (fun ls hl => ?_)
    refine lv_aload_n hx hb dX6_plain_20 rfl (lv_at hl 1 rfl) ?_
    refine vgC hx hb hts hi6 hown hK hP (0) (by decide) (show kd 0 = 6 by decide) (C := RX6) (T := TX6) (N := 18) rfl 2 (by decide) (by decide) (by decide) (by decide) (2) rfl (hts (.fieldLink RX6 22 "CrateHelpers" "team" "LCrateHelpers$Team;") (by decide +kernel)) (fun _ h9 => h9) dX6_plain_21 ?_
    refine lv_iconst (v := 0) hx hb dX6_plain_24 (by decide) ?_
    refine vpI (v := 0) (ty := .int) hx hb hts hi4 tyX4 tyX4_ok nmX4 hown hK hP hap hS (2) (by decide) (show kd 2 = 4 by decide) (C := RX4) (T := TX4) (N := 7) rfl 1 (by decide) (by decide) (by decide) (by decide) (hts (.fieldLink RX6 168 "CrateHelpers$Team" "scheduled" "I") (by decide +kernel)) (fun _ h9 => h9) rfl (by decide +kernel) rfl rfl dX6_plain_25 (fun H locs hP hS => ?_)
    obtain ⟨I2, eI2, h⟩ := bd_e h
    rw [← eI2] at hP
    have hP : va_P D vwCl (VW K ad I2 G A L) H := hP
    refine lv_iload_n hx hb dX6_plain_28 rfl (lv_at hl 0 rfl) ?_
    exact W.iret (v := (I 2 1)) hx hb hr (fun t9 ht9 hW9 => ⟨⟨(I 2 1), (I2, G, A, L), rfl, by cases h; exact ⟨rfl, rfl⟩, by rw [ht9]; exact hP, va_K.moved hW9.alike hK⟩, hS.F ht9⟩) hS.2.2 dX6_plain_29
  · have h := iN c_1 h
    refine lv_bipush (v := (-2)) hx hb dX6_plain_9 (by decide) ?_
    exact W.iret (v := (-2)) hx hb hr (fun t9 ht9 hW9 => ⟨⟨(-2), (I, G, A, L), rfl, by cases h; exact ⟨rfl, rfl⟩, by rw [ht9]; exact hP, va_K.moved hW9.alike hK⟩, hS.F ht9⟩) hS.2.2 dX6_plain_11
set_option maxHeartbeats 4000000 in
set_option maxRecDepth 100000 in
theorem e_X6_problem (l : Launch) (D : va_G) (K : Nat → ClassId) (ad : Nat → Nat) (hap0 : apart ad (fun _ => True)) (I : Nat → Nat → Int32) (G : Nat → Nat → Nat) (A : Nat → Nat → Int32) (L : Nat → Nat → Int64) (r0 : Int32) (I0 : Nat → Nat → Int32) (h : f_X6_problem I = some (r0, I0)) : Ci l D K ad yX6_problem wsX6_problem 0 0 [.ref (ad 0)] (I, G, A, L) (fun (r : Int32) (u : Mem) => r = r0 ∧ u = (I0, G, A, L)) := by
  intro sz
  refine Met.ofW (cc := cX6_problem) (maxL := 1) (ret := (some .int)) (by decide) rfl ?_
  intro p e s m args below meth c s₁ Bd hml hv0
  obtain ⟨rfl, hsz, hP, hK⟩ := hv0
  have hx := Bd.exec
  have hb := Bd.bytes
  have hr := Bd.returns
  have hts := atoms_spec (ws := wsX6_problem) Bd.pre
  have hown : s.vm.findClass RX6 = some m.cls := findClass_of_methodNamed Bd.named
  have hlocks := Bd.notSynchronized
  have hi6 : ∀ w ∈ u_ws RX6 TX6 18, w ∈ wsX6_problem := fun w h => List.mem_cons_of_mem _ (List.mem_append_right _ h)
  subst hsz
  have hap := vF_ap hap0 s.heap.size
  have hS : va_S (vF ad s.heap.size) s.heap s.heap [] := va_S.rf
  have hP : va_P D vwCl (VW K ad I G A L) s.heap := hP
  have hl := lv_entry ([.ref (ad 0)]) (n := 1) (Nat.le_of_ble_eq_true rfl)
  rw [lg_entry_eq]
  generalize (lg_sl ([.ref (ad 0)]) ++ List.replicate (1 - (lg_sl ([.ref (ad 0)])).length) Slot.unset).toArray = ls at hl ⊢
  have hl : lv_has ls 1 [(0, .ref (ad 0))] := hl
  rw [f_X6_problem] at h
  refine lv_aload_n hx hb dX6_problem_0 rfl (lv_at hl 0 rfl) ?_
  refine vgI hx hb hts hi6 hown hK hP (0) (by decide) (show kd 0 = 6 by decide) (C := RX6) (T := TX6) (N := 18) rfl 5 (by decide) (by decide) (by decide) (by decide) (hts (.fieldLink RX6 29 "CrateHelpers" "underWay" "I") (by decide +kernel)) (fun _ h9 => h9) dX6_problem_1 ?_
  refine lv_bipush (v := (-9)) hx hb dX6_problem_4 (by decide) ?_
  refine lv_icmp_eq (tgt := 12) hx hb dX6_problem_6 (by decide) (fun c_1 => ?_) (fun c_1 => ?_)
  · have h := ip c_1 h
    refine lv_aload_n hx hb dX6_problem_12 rfl (lv_at hl 0 rfl) ?_
    refine vgI hx hb hts hi6 hown hK hP (0) (by decide) (show kd 0 = 6 by decide) (C := RX6) (T := TX6) (N := 18) rfl 1 (by decide) (by decide) (by decide) (by decide) (hts (.fieldLink RX6 15 "CrateHelpers" "problemCount" "I") (by decide +kernel)) (fun _ h9 => h9) dX6_problem_13 ?_
    refine lv_iconst (v := 5) hx hb dX6_problem_16 (by decide) ?_
    refine lv_icmp_lt (tgt := 23) hx hb dX6_problem_17 (by decide) (fun c_2 => ?_) (fun c_2 => ?_)
    · have h := ip c_2 h
      refine lv_aload_n hx hb dX6_problem_23 rfl (lv_at hl 0 rfl) ?_
      refine lv_dup hx hb dX6_problem_24 rfl ?_
      refine vgI hx hb hts hi6 hown hK hP (0) (by decide) (show kd 0 = 6 by decide) (C := RX6) (T := TX6) (N := 18) rfl 1 (by decide) (by decide) (by decide) (by decide) (hts (.fieldLink RX6 15 "CrateHelpers" "problemCount" "I") (by decide +kernel)) (fun _ h9 => h9) dX6_problem_25 ?_
      refine lv_dup_x1 hx hb dX6_problem_28 rfl rfl ?_
      refine lv_iconst (v := 1) hx hb dX6_problem_29 (by decide) ?_
      refine lv_iadd hx hb dX6_problem_30 ?_
      refine vpI (v := ((I 0 1) + 1)) (ty := .int) hx hb hts hi6 tyX6 tyX6_ok nmX6 hown hK hP hap hS (0) (by decide) (show kd 0 = 6 by decide) (C := RX6) (T := TX6) (N := 18) rfl 1 (by decide) (by decide) (by decide) (by decide) (hts (.fieldLink RX6 15 "CrateHelpers" "problemCount" "I") (by decide +kernel)) (fun _ h9 => h9) rfl (by decide +kernel) rfl rfl dX6_problem_31 (fun H locs hP hS => ?_)
      obtain ⟨I3, eI3, h⟩ := bd_e h
      rw [← eI3] at hP
      have hP : va_P D vwCl (VW K ad I3 G A L) H := hP
      exact W.iret (v := (I 0 1)) hx hb hr (fun t9 ht9 hW9 => ⟨⟨(I 0 1), (I3, G, A, L), rfl, by cases h; exact ⟨rfl, rfl⟩, by rw [ht9]; exact hP, va_K.moved hW9.alike hK⟩, hS.F ht9⟩) hS.2.2 dX6_problem_34
    · have h := iN c_2 h
      refine lv_bipush (v := (-3)) hx hb dX6_problem_20 (by decide) ?_
      exact W.iret (v := (-3)) hx hb hr (fun t9 ht9 hW9 => ⟨⟨(-3), (I, G, A, L), rfl, by cases h; exact ⟨rfl, rfl⟩, by rw [ht9]; exact hP, va_K.moved hW9.alike hK⟩, hS.F ht9⟩) hS.2.2 dX6_problem_22
  · have h := iN c_1 h
    refine lv_bipush (v := (-2)) hx hb dX6_problem_9 (by decide) ?_
    exact W.iret (v := (-2)) hx hb hr (fun t9 ht9 hW9 => ⟨⟨(-2), (I, G, A, L), rfl, by cases h; exact ⟨rfl, rfl⟩, by rw [ht9]; exact hP, va_K.moved hW9.alike hK⟩, hS.F ht9⟩) hS.2.2 dX6_problem_11
set_option maxHeartbeats 4000000 in
set_option maxRecDepth 100000 in
theorem e_X6_row (l : Launch) (D : va_G) (K : Nat → ClassId) (ad : Nat → Nat) (hap0 : apart ad (fun _ => True)) (a1 : Int32) (I : Nat → Nat → Int32) (G : Nat → Nat → Nat) (A : Nat → Nat → Int32) (L : Nat → Nat → Int64) (r0 : Int32) (h : f_X6_row A a1 = some r0) : Ci l D K ad yX6_row wsX6_row 1 25 [.ref (ad 0), .int a1] (I, G, A, L) (fun (r : Int32) (u : Mem) => r = r0 ∧ u = (I, G, A, L)) := by
  intro sz
  refine Met.ofW (cc := cX6_row) (maxL := 2) (ret := (some .int)) (by decide) rfl ?_
  intro p e s m args below meth c s₁ Bd hml hv0
  obtain ⟨rfl, hsz, hP, hK⟩ := hv0
  have hx := Bd.exec
  have hb := Bd.bytes
  have hr := Bd.returns
  have hts := atoms_spec (ws := wsX6_row) Bd.pre
  have hown : s.vm.findClass RX6 = some m.cls := findClass_of_methodNamed Bd.named
  have hlocks := Bd.notSynchronized
  have hi6 : ∀ w ∈ u_ws RX6 TX6 18, w ∈ wsX6_row := fun w h => List.mem_cons_of_mem _ (List.mem_append_right _ h)
  subst hsz
  have hap := vF_ap hap0 s.heap.size
  have hS : va_S (vF ad s.heap.size) s.heap s.heap [] := va_S.rf
  have hP : va_P D vwCl (VW K ad I G A L) s.heap := hP
  have hl := lv_entry ([.ref (ad 0), .int a1]) (n := 2) (Nat.le_of_ble_eq_true rfl)
  rw [lg_entry_eq]
  generalize (lg_sl ([.ref (ad 0), .int a1]) ++ List.replicate (2 - (lg_sl ([.ref (ad 0), .int a1])).length) Slot.unset).toArray = ls at hl ⊢
  have hl : lv_has ls 2 [(0, .ref (ad 0)), (1, .int a1)] := hl
  rw [f_X6_row] at h
  refine lv_iload_n hx hb dX6_row_0 rfl (lv_at hl 1 rfl) ?_
  refine lv_iconst (v := 0) hx hb dX6_row_1 (by decide) ?_
  refine lv_iconst (v := 5) hx hb dX6_row_2 (by decide) ?_
  obtain ⟨r1, hc2, h⟩ := Option.bind_eq_some_iff.mp h
  refine ecS (As := [.int a1, .int 0, .int 5]) (rest := []) ⟨hx, hb, hml, hown, hts⟩ (e_X6_isWithin l D K ad hap0 a1 0 5 I G A L r1 hc2) (va_cwS 3 hts gX6_row_X6_isWithin rfl rfl rfl (by decide +kernel) ⟨Nat.le_of_ble_eq_true rfl, Nat.le_of_ble_eq_true rfl⟩) hK hP hS rfl hl.1 (Nat.le_of_ble_eq_true rfl) (Nat.le_of_ble_eq_true rfl) (Nat.le_of_ble_eq_true rfl) dX6_row_3 (fun H locs hP hS => ?_) rfl
  have hP : va_P D vwCl (VW K ad I G A L) H := hP
  refine lv_if_eq (tgt := 18) hx hb dX6_row_6 (by decide) (fun c_3 => ?_) (fun c_3 => ?_)
  · have h := ip c_3 h
    refine lv_bipush (v := (-9)) hx hb dX6_row_18 (by decide) ?_
    exact W.iret (v := (-9)) hx hb hr (fun t9 ht9 hW9 => ⟨⟨(-9), (I, G, A, L), rfl, by cases h; exact ⟨rfl, rfl⟩, by rw [ht9]; exact hP, va_K.moved hW9.alike hK⟩, hS.F ht9⟩) hS.2.2 dX6_row_20
  · have h := iN c_3 h
    refine lv_aload_n hx hb dX6_row_9 rfl (lv_at hl 0 rfl) ?_
    refine vgC hx hb hts hi6 hown hK hP (0) (by decide) (show kd 0 = 6 by decide) (C := RX6) (T := TX6) (N := 18) rfl 13 (by decide) (by decide) (by decide) (by decide) (19) rfl (hts (.fieldLink RX6 52 "CrateHelpers" "secondRow" "[I") (by decide +kernel)) (fun _ h9 => h9) dX6_row_10 ?_
    refine lv_iload_n hx hb dX6_row_13 rfl (lv_at hl 1 rfl) ?_
    obtain ⟨hn4, h⟩ := gk h
    refine xiald hx hb hK hP (19) (by decide) (show kd 19 = 8 by decide) (by rw [show ln 19 = 6 by decide]; exact hn4) dX6_row_14 ?_
    refine lv_goto (tgt := 20) hx hb dX6_row_15 (by decide) ?_
    exact W.iret (v := (A 19 a1.toNatClampNeg)) hx hb hr (fun t9 ht9 hW9 => ⟨⟨(A 19 a1.toNatClampNeg), (I, G, A, L), rfl, by cases h; exact ⟨rfl, rfl⟩, by rw [ht9]; exact hP, va_K.moved hW9.alike hK⟩, hS.F ht9⟩) hS.2.2 dX6_row_20
set_option maxHeartbeats 4000000 in
set_option maxRecDepth 100000 in
theorem e_X1_addRule (l : Launch) (D : va_G) (K : Nat → ClassId) (ad : Nat → Nat) (hap0 : apart ad (fun _ => True)) (o : Nat) (a1 : Int32) (a2 : Int32) (I : Nat → Nat → Int32) (G : Nat → Nat → Nat) (A : Nat → Nat → Int32) (L : Nat → Nat → Int64) (r0 : Int32) (I0 : Nat → Nat → Int32) (h : f_X1_addRule I o a1 a2 = some (r0, I0)) : Ci l D K ad yX1_addRule wsX1_addRule 1 23 [.ref (ad o), .int a1, .int a2] (I, G, A, L) (fun (r : Int32) (u : Mem) => r = r0 ∧ u = (I0, G, A, L)) := by
  intro sz
  refine Met.ofW (cc := cX1_addRule) (maxL := 3) (ret := (some .int)) (by decide) rfl ?_
  intro p e s m args below meth c s₁ Bd hml hv0
  obtain ⟨rfl, hsz, hP, hK⟩ := hv0
  have hx := Bd.exec
  have hb := Bd.bytes
  have hr := Bd.returns
  have hts := atoms_spec (ws := wsX1_addRule) Bd.pre
  have hown : s.vm.findClass RX1 = some m.cls := findClass_of_methodNamed Bd.named
  have hlocks := Bd.notSynchronized
  have hi1 : ∀ w ∈ u_ws RX1 TX1 9, w ∈ wsX1_addRule := fun w h => List.mem_cons_of_mem _ (List.mem_append_left _ (List.mem_append_right _ h))
  have hi2 : ∀ w ∈ u_ws RX2 TX2 7, w ∈ wsX1_addRule := fun w h => List.mem_cons_of_mem _ (List.mem_append_right _ h)
  subst hsz
  have hap := vF_ap hap0 s.heap.size
  have hS : va_S (vF ad s.heap.size) s.heap s.heap [] := va_S.rf
  have hP : va_P D vwCl (VW K ad I G A L) s.heap := hP
  have hl := lv_entry ([.ref (ad o), .int a1, .int a2]) (n := 3) (Nat.le_of_ble_eq_true rfl)
  rw [lg_entry_eq]
  generalize (lg_sl ([.ref (ad o), .int a1, .int a2]) ++ List.replicate (3 - (lg_sl ([.ref (ad o), .int a1, .int a2])).length) Slot.unset).toArray = ls at hl ⊢
  have hl : lv_has ls 3 [(0, .ref (ad o)), (1, .int a1), (2, .int a2)] := hl
  rw [f_X1_addRule] at h
  refine lv_aload_n hx hb dX1_addRule_0 rfl (lv_at hl 0 rfl) ?_
  obtain ⟨hk1, h⟩ := gk h
  obtain ⟨I2, hc3, h⟩ := Option.bind_eq_some_iff.mp h
  refine ecVv (As := []) (rest := []) ⟨hx, hb, hml, hown, hts⟩ (e_X1_change l D K ad hap0 o I G A L I2 hc3) (cwV 0 hts gX1_addRule_X1_change rfl rfl rfl (by decide +kernel) ⟨Nat.le_of_ble_eq_true rfl, Nat.le_of_ble_eq_true rfl⟩) hK hP hS (s318 hk1.1) hk1.2 (by decide) rfl rfl rfl hl.1 (Nat.le_of_ble_eq_true rfl) (Nat.le_of_ble_eq_true rfl) (Nat.le_of_ble_eq_true rfl) dX1_addRule_1 (fun H locs hP hS => ?_) rfl
  have hP : va_P D vwCl (VW K ad I2 G A L) H := hP
  refine lv_aload_n hx hb dX1_addRule_4 rfl (lv_at hl 0 rfl) ?_
  refine vgS hx hb hts hi1 hown hK hP (o) (s318 hk1.1) hk1.2 (C := RX1) (T := TX1) (N := 9) rfl 7 (by decide) (by decide) (by decide) (by decide) (o + 10) rfl (hts (.fieldLink RX1 39 "CrateHelpers$Problem" "rules" "[LCrateHelpers$Rule;") (by decide +kernel)) (fun _ h9 => h9) dX1_addRule_5 ?_
  refine lv_aload_n hx hb dX1_addRule_8 rfl (lv_at hl 0 rfl) ?_
  refine vgI hx hb hts hi1 hown hK hP (o) (s318 hk1.1) hk1.2 (C := RX1) (T := TX1) (N := 9) rfl 1 (by decide) (by decide) (by decide) (by decide) (hts (.fieldLink RX1 15 "CrateHelpers$Problem" "ruleCount" "I") (by decide +kernel)) (fun _ h9 => h9) dX1_addRule_9 ?_
  obtain ⟨hk4, h⟩ := gk h
  obtain ⟨hn5, h⟩ := gk h
  refine xaald hx hb hK hP (o + 10) (s318 hk4.1) 6 14 hk4.2 (by decide) rfl hn5 (o + 12 + 5 * ((I2 o 1).toNatClampNeg)) (drf14 (hk4.2)) dX1_addRule_12 ?_
  refine lv_iload_n hx hb dX1_addRule_13 rfl (lv_at hl 1 rfl) ?_
  obtain ⟨hk6, h⟩ := gk h
  refine vpI (v := a1) (ty := .int) hx hb hts hi2 tyX2 tyX2_ok nmX2 hown hK hP hap hS (o + 12 + 5 * ((I2 o 1).toNatClampNeg)) (s318 hk6.1) hk6.2 (C := RX2) (T := TX2) (N := 7) rfl 0 (by decide) (by decide) (by decide) (by decide) (hts (.fieldLink RX1 54 "CrateHelpers$Rule" "kind" "I") (by decide +kernel)) (fun _ h9 => h9) rfl (by decide +kernel) rfl rfl dX1_addRule_14 (fun H locs hP hS => ?_)
  obtain ⟨I7, eI7, h⟩ := bd_e h
  rw [← eI7] at hP
  have hP : va_P D vwCl (VW K ad I7 G A L) H := hP
  refine lv_aload_n hx hb dX1_addRule_17 rfl (lv_at hl 0 rfl) ?_
  refine vgS hx hb hts hi1 hown hK hP (o) (s318 hk1.1) hk1.2 (C := RX1) (T := TX1) (N := 9) rfl 7 (by decide) (by decide) (by decide) (by decide) (o + 10) rfl (hts (.fieldLink RX1 39 "CrateHelpers$Problem" "rules" "[LCrateHelpers$Rule;") (by decide +kernel)) (fun _ h9 => h9) dX1_addRule_18 ?_
  refine lv_aload_n hx hb dX1_addRule_21 rfl (lv_at hl 0 rfl) ?_
  refine vgI hx hb hts hi1 hown hK hP (o) (s318 hk1.1) hk1.2 (C := RX1) (T := TX1) (N := 9) rfl 1 (by decide) (by decide) (by decide) (by decide) (hts (.fieldLink RX1 15 "CrateHelpers$Problem" "ruleCount" "I") (by decide +kernel)) (fun _ h9 => h9) dX1_addRule_22 ?_
  obtain ⟨hn8, h⟩ := gk h
  refine xaald hx hb hK hP (o + 10) (s318 hk4.1) 6 14 hk4.2 (by decide) rfl hn8 (o + 12 + 5 * ((I7 o 1).toNatClampNeg)) (drf14 (hk4.2)) dX1_addRule_25 ?_
  refine lv_iload_n hx hb dX1_addRule_26 rfl (lv_at hl 2 rfl) ?_
  obtain ⟨hk9, h⟩ := gk h
  refine vpI (v := a2) (ty := .int) hx hb hts hi2 tyX2 tyX2_ok nmX2 hown hK hP hap hS (o + 12 + 5 * ((I7 o 1).toNatClampNeg)) (s318 hk9.1) hk9.2 (C := RX2) (T := TX2) (N := 7) rfl 1 (by decide) (by decide) (by decide) (by decide) (hts (.fieldLink RX1 57 "CrateHelpers$Rule" "c" "I") (by decide +kernel)) (fun _ h9 => h9) rfl (by decide +kernel) rfl rfl dX1_addRule_27 (fun H locs hP hS => ?_)
  obtain ⟨I10, eI10, h⟩ := bd_e h
  rw [← eI10] at hP
  have hP : va_P D vwCl (VW K ad I10 G A L) H := hP
  refine lv_aload_n hx hb dX1_addRule_30 rfl (lv_at hl 0 rfl) ?_
  refine lv_dup hx hb dX1_addRule_31 rfl ?_
  refine vgI hx hb hts hi1 hown hK hP (o) (s318 hk1.1) hk1.2 (C := RX1) (T := TX1) (N := 9) rfl 1 (by decide) (by decide) (by decide) (by decide) (hts (.fieldLink RX1 15 "CrateHelpers$Problem" "ruleCount" "I") (by decide +kernel)) (fun _ h9 => h9) dX1_addRule_32 ?_
  refine lv_dup_x1 hx hb dX1_addRule_35 rfl rfl ?_
  refine lv_iconst (v := 1) hx hb dX1_addRule_36 (by decide) ?_
  refine lv_iadd hx hb dX1_addRule_37 ?_
  refine vpI (v := ((I10 o 1) + 1)) (ty := .int) hx hb hts hi1 tyX1 tyX1_ok nmX1 hown hK hP hap hS (o) (s318 hk1.1) hk1.2 (C := RX1) (T := TX1) (N := 9) rfl 1 (by decide) (by decide) (by decide) (by decide) (hts (.fieldLink RX1 15 "CrateHelpers$Problem" "ruleCount" "I") (by decide +kernel)) (fun _ h9 => h9) rfl (by decide +kernel) rfl rfl dX1_addRule_38 (fun H locs hP hS => ?_)
  obtain ⟨I11, eI11, h⟩ := bd_e h
  rw [← eI11] at hP
  have hP : va_P D vwCl (VW K ad I11 G A L) H := hP
  exact W.iret (v := (I10 o 1)) hx hb hr (fun t9 ht9 hW9 => ⟨⟨(I10 o 1), (I11, G, A, L), rfl, by cases h; exact ⟨rfl, rfl⟩, by rw [ht9]; exact hP, va_K.moved hW9.alike hK⟩, hS.F ht9⟩) hS.2.2 dX1_addRule_41
set_option maxHeartbeats 4000000 in
set_option maxRecDepth 100000 in
theorem e_X6_rule (l : Launch) (D : va_G) (K : Nat → ClassId) (ad : Nat → Nat) (hap0 : apart ad (fun _ => True)) (a1 : Int32) (a2 : Int32) (a3 : Int32) (I : Nat → Nat → Int32) (G : Nat → Nat → Nat) (A : Nat → Nat → Int32) (L : Nat → Nat → Int64) (r0 : Int32) (I0 : Nat → Nat → Int32) (h : f_X6_rule I a1 a2 a3 = some (r0, I0)) : Ci l D K ad yX6_rule wsX6_rule 2 49 [.ref (ad 0), .int a1, .int a2, .int a3] (I, G, A, L) (fun (r : Int32) (u : Mem) => r = r0 ∧ u = (I0, G, A, L)) := by
  intro sz
  refine Met.ofW (cc := cX6_rule) (maxL := 5) (ret := (some .int)) (by decide) rfl ?_
  intro p e s m args below meth c s₁ Bd hml hv0
  obtain ⟨rfl, hsz, hP, hK⟩ := hv0
  have hx := Bd.exec
  have hb := Bd.bytes
  have hr := Bd.returns
  have hts := atoms_spec (ws := wsX6_rule) Bd.pre
  have hown : s.vm.findClass RX6 = some m.cls := findClass_of_methodNamed Bd.named
  have hlocks := Bd.notSynchronized
  have hi6 : ∀ w ∈ u_ws RX6 TX6 18, w ∈ wsX6_rule := fun w h => List.mem_cons_of_mem _ (List.mem_append_left _ (List.mem_append_left _ (List.mem_append_right _ h)))
  have hi1 : ∀ w ∈ u_ws RX1 TX1 9, w ∈ wsX6_rule := fun w h => List.mem_cons_of_mem _ (List.mem_append_left _ (List.mem_append_right _ h))
  have hi2 : ∀ w ∈ u_ws RX2 TX2 7, w ∈ wsX6_rule := fun w h => List.mem_cons_of_mem _ (List.mem_append_right _ h)
  subst hsz
  have hap := vF_ap hap0 s.heap.size
  have hS : va_S (vF ad s.heap.size) s.heap s.heap [] := va_S.rf
  have hP : va_P D vwCl (VW K ad I G A L) s.heap := hP
  have hl := lv_entry ([.ref (ad 0), .int a1, .int a2, .int a3]) (n := 5) (Nat.le_of_ble_eq_true rfl)
  rw [lg_entry_eq]
  generalize (lg_sl ([.ref (ad 0), .int a1, .int a2, .int a3]) ++ List.replicate (5 - (lg_sl ([.ref (ad 0), .int a1, .int a2, .int a3])).length) Slot.unset).toArray = ls at hl ⊢
  have hl : lv_has ls 5 [(0, .ref (ad 0)), (1, .int a1), (2, .int a2), (3, .int a3)] := hl
  rw [f_X6_rule] at h
  refine lv_aload_n hx hb dX6_rule_0 rfl (lv_at hl 0 rfl) ?_
  refine lv_iload_n hx hb dX6_rule_1 rfl (lv_at hl 1 rfl) ?_
  obtain ⟨r1, hc2, h⟩ := Option.bind_eq_some_iff.mp h
  refine ecV (As := [.int a1]) (rest := []) ⟨hx, hb, hml, hown, hts⟩ (e_X6_isProblem l D K ad hap0 a1 I G A L r1 hc2) (cwV 1 hts gX6_rule_X6_isProblem rfl rfl rfl (by decide +kernel) ⟨Nat.le_of_ble_eq_true rfl, Nat.le_of_ble_eq_true rfl⟩) hK hP hS (by decide) (show kd 0 = 6 by decide) (by decide) rfl rfl rfl hl.1 (Nat.le_of_ble_eq_true rfl) (Nat.le_of_ble_eq_true rfl) (Nat.le_of_ble_eq_true rfl) dX6_rule_2 (fun H locs hP hS => ?_) rfl
  have hP : va_P D vwCl (VW K ad I G A L) H := hP
  refine lv_if_eq (tgt := 25) hx hb dX6_rule_5 (by decide) (fun c_3 => ?_) (fun c_3 => ?_)
  · have h := ip c_3 h
    refine lv_iconst (v := (-1)) hx hb dX6_rule_25 (by decide) ?_
    exact W.iret (v := (-1)) hx hb hr (fun t9 ht9 hW9 => ⟨⟨(-1), (I, G, A, L), rfl, by cases h; exact ⟨rfl, rfl⟩, by rw [ht9]; exact hP, va_K.moved hW9.alike hK⟩, hS.F ht9⟩) hS.2.2 dX6_rule_26
  · have h := iN c_3 h
    refine lv_iload_n hx hb dX6_rule_8 rfl (lv_at hl 2 rfl) ?_
    refine lv_iconst (v := 0) hx hb dX6_rule_9 (by decide) ?_
    refine lv_bipush (v := 7) hx hb dX6_rule_10 (by decide) ?_
    obtain ⟨r4, hc5, h⟩ := Option.bind_eq_some_iff.mp h
    refine ecS (As := [.int a2, .int 0, .int 7]) (rest := []) ⟨hx, hb, hml, hown, hts⟩ (e_X6_isWithin l D K ad hap0 a2 0 7 I G A L r4 hc5) (va_cwS 3 hts gX6_rule_X6_isWithin rfl rfl rfl (by decide +kernel) ⟨Nat.le_of_ble_eq_true rfl, Nat.le_of_ble_eq_true rfl⟩) hK hP hS rfl hl.1 (Nat.le_of_ble_eq_true rfl) (Nat.le_of_ble_eq_true rfl) (Nat.le_of_ble_eq_true rfl) dX6_rule_12 (fun H locs hP hS => ?_) rfl
    have hP : va_P D vwCl (VW K ad I G A L) H := hP
    refine lv_if_eq (tgt := 25) hx hb dX6_rule_15 (by decide) (fun c_6 => ?_) (fun c_6 => ?_)
    · have h := ip c_6 h
      refine lv_iconst (v := (-1)) hx hb dX6_rule_25 (by decide) ?_
      exact W.iret (v := (-1)) hx hb hr (fun t9 ht9 hW9 => ⟨⟨(-1), (I, G, A, L), rfl, by cases h; exact ⟨rfl, rfl⟩, by rw [ht9]; exact hP, va_K.moved hW9.alike hK⟩, hS.F ht9⟩) hS.2.2 dX6_rule_26
    · have h := iN c_6 h
      refine lv_iload_n hx hb dX6_rule_18 rfl (lv_at hl 3 rfl) ?_
      obtain ⟨r7, hc8, h⟩ := Option.bind_eq_some_iff.mp h
      refine ecS (As := [.int a3]) (rest := []) ⟨hx, hb, hml, hown, hts⟩ (e_X6_isRuleNumber l D K ad hap0 a3 I G A L r7 hc8) (va_cwS 1 hts gX6_rule_X6_isRuleNumber rfl rfl rfl (by decide +kernel) ⟨Nat.le_of_ble_eq_true rfl, Nat.le_of_ble_eq_true rfl⟩) hK hP hS rfl hl.1 (Nat.le_of_ble_eq_true rfl) (Nat.le_of_ble_eq_true rfl) (Nat.le_of_ble_eq_true rfl) dX6_rule_19 (fun H locs hP hS => ?_) rfl
      have hP : va_P D vwCl (VW K ad I G A L) H := hP
      refine lv_if_ne (tgt := 27) hx hb dX6_rule_22 (by decide) (fun c_9 => ?_) (fun c_9 => ?_)
      · have h := iN c_9 h
        refine lv_aload_n hx hb dX6_rule_27 rfl (lv_at hl 0 rfl) ?_
        refine vgI hx hb hts hi6 hown hK hP (0) (by decide) (show kd 0 = 6 by decide) (C := RX6) (T := TX6) (N := 18) rfl 5 (by decide) (by decide) (by decide) (by decide) (hts (.fieldLink RX6 29 "CrateHelpers" "underWay" "I") (by decide +kernel)) (fun _ h9 => h9) dX6_rule_28 ?_
        refine lv_bipush (v := (-9)) hx hb dX6_rule_31 (by decide) ?_
        refine lv_icmp_eq (tgt := 39) hx hb dX6_rule_33 (by decide) (fun c_10 => ?_) (fun c_10 => ?_)
        · have h := ip c_10 h
          refine lv_aload_n hx hb dX6_rule_39 rfl (lv_at hl 0 rfl) ?_
          refine vgC hx hb hts hi6 hown hK hP (0) (by decide) (show kd 0 = 6 by decide) (C := RX6) (T := TX6) (N := 18) rfl 0 (by decide) (by decide) (by decide) (by decide) (1) rfl (hts (.fieldLink RX6 11 "CrateHelpers" "problems" "[LCrateHelpers$Problem;") (by decide +kernel)) (fun _ h9 => h9) dX6_rule_40 ?_
          refine lv_iload_n hx hb dX6_rule_43 rfl (lv_at hl 1 rfl) ?_
          obtain ⟨hn11, h⟩ := gk h
          refine xaald hx hb hK hP (1) (by decide) 5 13 (show kd 1 = 13 by decide) (by decide) rfl (by rw [show ln 1 = 5 by decide]; exact hn11) (58 + 52 * a1.toNatClampNeg) (drf13 ((show kd 1 = 13 by decide))) dX6_rule_44 ?_
          refine lv_astore (lv' := [(4, .ref (ad (58 + 52 * a1.toNatClampNeg))), (0, .ref (ad 0)), (1, .int a1), (2, .int a2), (3, .int a3)]) hx hb dX6_rule_45 hl (by decide) rfl (fun ls hl => ?_)
          refine lv_aload hx hb dX6_rule_47 (lv_at hl 0 rfl) ?_
          obtain ⟨hk12, h⟩ := gk h
          refine vgI hx hb hts hi1 hown hK hP (58 + 52 * a1.toNatClampNeg) (s318 hk12.1) hk12.2 (C := RX1) (T := TX1) (N := 9) rfl 1 (by decide) (by decide) (by decide) (by decide) (hts (.fieldLink RX6 130 "CrateHelpers$Problem" "ruleCount" "I") (by decide +kernel)) (fun _ h9 => h9) dX6_rule_49 ?_
          refine lv_bipush (v := 8) hx hb dX6_rule_52 (by decide) ?_
          refine lv_icmp_lt (tgt := 62) hx hb dX6_rule_54 (by decide) (fun c_13 => ?_) (fun c_13 => ?_)
          · have h := ip c_13 h
            refine lv_aload hx hb dX6_rule_62 (lv_at hl 0 rfl) ?_
            refine lv_iload_n hx hb dX6_rule_64 rfl (lv_at hl 3 rfl) ?_
            refine lv_iload_n hx hb dX6_rule_65 rfl (lv_at hl 4 rfl) ?_
            obtain ⟨⟨r14, I15⟩, hc16, h⟩ := Option.bind_eq_some_iff.mp h
            refine ecV (As := [.int a2, .int a3]) (rest := []) ⟨hx, hb, hml, hown, hts⟩ (e_X1_addRule l D K ad hap0 (58 + 52 * a1.toNatClampNeg) a2 a3 I G A L r14 I15 hc16) (cwV 2 hts gX6_rule_X1_addRule rfl rfl rfl (by decide +kernel) ⟨Nat.le_of_ble_eq_true rfl, Nat.le_of_ble_eq_true rfl⟩) hK hP hS (s318 hk12.1) hk12.2 (by decide) rfl rfl rfl hl.1 (Nat.le_of_ble_eq_true rfl) (Nat.le_of_ble_eq_true rfl) (Nat.le_of_ble_eq_true rfl) dX6_rule_66 (fun H locs hP hS => ?_) rfl
            have hP : va_P D vwCl (VW K ad I15 G A L) H := hP
            exact W.iret (v := r14) hx hb hr (fun t9 ht9 hW9 => ⟨⟨r14, (I15, G, A, L), rfl, by cases h; exact ⟨rfl, rfl⟩, by rw [ht9]; exact hP, va_K.moved hW9.alike hK⟩, hS.F ht9⟩) hS.2.2 dX6_rule_69
          · have h := iN c_13 h
            refine lv_bipush (v := (-3)) hx hb dX6_rule_57 (by decide) ?_
            refine lv_goto (tgt := 69) hx hb dX6_rule_59 (by decide) ?_
            exact W.iret (v := (-3)) hx hb hr (fun t9 ht9 hW9 => ⟨⟨(-3), (I, G, A, L), rfl, by cases h; exact ⟨rfl, rfl⟩, by rw [ht9]; exact hP, va_K.moved hW9.alike hK⟩, hS.F ht9⟩) hS.2.2 dX6_rule_69
        · have h := iN c_10 h
          refine lv_bipush (v := (-2)) hx hb dX6_rule_36 (by decide) ?_
          exact W.iret (v := (-2)) hx hb hr (fun t9 ht9 hW9 => ⟨⟨(-2), (I, G, A, L), rfl, by cases h; exact ⟨rfl, rfl⟩, by rw [ht9]; exact hP, va_K.moved hW9.alike hK⟩, hS.F ht9⟩) hS.2.2 dX6_rule_38
      · have h := ip c_9 h
        refine lv_iconst (v := (-1)) hx hb dX6_rule_25 (by decide) ?_
        exact W.iret (v := (-1)) hx hb hr (fun t9 ht9 hW9 => ⟨⟨(-1), (I, G, A, L), rfl, by cases h; exact ⟨rfl, rfl⟩, by rw [ht9]; exact hP, va_K.moved hW9.alike hK⟩, hS.F ht9⟩) hS.2.2 dX6_rule_26
set_option maxHeartbeats 4000000 in
set_option maxRecDepth 100000 in
theorem e_X5_addJudged (l : Launch) (D : va_G) (K : Nat → ClassId) (ad : Nat → Nat) (hap0 : apart ad (fun _ => True)) (o : Nat) (a1 : Int32) (a2 : Int64) (I : Nat → Nat → Int32) (G : Nat → Nat → Nat) (A : Nat → Nat → Int32) (L : Nat → Nat → Int64) (I0 : Nat → Nat → Int32) (A0 : Nat → Nat → Int32) (L0 : Nat → Nat → Int64) (h : f_X5_addJudged I A L o a1 a2 = some (I0, A0, L0)) : Cv l D K ad yX5_addJudged wsX5_addJudged 0 0 [.ref (ad o), .int a1, .long a2] (I, G, A, L) (fun (u : Mem) => u = (I0, G, A0, L0)) := by
  intro sz
  refine Met.ofW (cc := cX5_addJudged) (maxL := 4) (ret := none) (by decide) rfl ?_
  intro p e s m args below meth c s₁ Bd hml hv0
  obtain ⟨rfl, hsz, hP, hK⟩ := hv0
  have hx := Bd.exec
  have hb := Bd.bytes
  have hr := Bd.returns
  have hts := atoms_spec (ws := wsX5_addJudged) Bd.pre
  have hown : s.vm.findClass RX5 = some m.cls := findClass_of_methodNamed Bd.named
  have hlocks := Bd.notSynchronized
  have hi5 : ∀ w ∈ u_ws RX5 TX5 16, w ∈ wsX5_addJudged := fun w h => List.mem_cons_of_mem _ (List.mem_append_left _ (List.mem_append_right _ h))
  have hi0 : ∀ w ∈ u_ws RX0 TX0 3, w ∈ wsX5_addJudged := fun w h => List.mem_cons_of_mem _ (List.mem_append_right _ h)
  subst hsz
  have hap := vF_ap hap0 s.heap.size
  have hS : va_S (vF ad s.heap.size) s.heap s.heap [] := va_S.rf
  have hP : va_P D vwCl (VW K ad I G A L) s.heap := hP
  have hl := lv_entry ([.ref (ad o), .int a1, .long a2]) (n := 4) (Nat.le_of_ble_eq_true rfl)
  rw [lg_entry_eq]
  generalize (lg_sl ([.ref (ad o), .int a1, .long a2]) ++ List.replicate (4 - (lg_sl ([.ref (ad o), .int a1, .long a2])).length) Slot.unset).toArray = ls at hl ⊢
  have hl : lv_has ls 4 [(0, .ref (ad o)), (1, .int a1), (2, .long a2)] := hl
  rw [f_X5_addJudged] at h
  refine lv_aload_n hx hb dX5_addJudged_0 rfl (lv_at hl 0 rfl) ?_
  obtain ⟨hk1, h⟩ := gk h
  refine vgS hx hb hts hi5 hown hK hP (o) (s318 hk1.1) hk1.2 (C := RX5) (T := TX5) (N := 16) rfl 0 (by decide) (by decide) (by decide) (by decide) (o + 1) rfl (hts (.fieldLink RX5 49 "CrateHelpers$Tree" "place" "[J") (by decide +kernel)) (fun _ h9 => h9) dX5_addJudged_1 ?_
  refine lv_aload_n hx hb dX5_addJudged_4 rfl (lv_at hl 0 rfl) ?_
  refine vgI hx hb hts hi5 hown hK hP (o) (s318 hk1.1) hk1.2 (C := RX5) (T := TX5) (N := 16) rfl 9 (by decide) (by decide) (by decide) (by decide) (hts (.fieldLink RX5 15 "CrateHelpers$Tree" "known" "I") (by decide +kernel)) (fun _ h9 => h9) dX5_addJudged_5 ?_
  refine lv_aload_n hx hb dX5_addJudged_8 rfl (lv_at hl 0 rfl) ?_
  refine vgS hx hb hts hi5 hown hK hP (o) (s318 hk1.1) hk1.2 (C := RX5) (T := TX5) (N := 16) rfl 13 (by decide) (by decide) (by decide) (by decide) (o + 11) rfl (hts (.fieldLink RX5 31 "CrateHelpers$Tree" "judge" "LCrateHelpers$Judge;") (by decide +kernel)) (fun _ h9 => h9) dX5_addJudged_9 ?_
  obtain ⟨hk2, h⟩ := gk h
  refine vgI hx hb hts hi0 hown hK hP (o + 11) (s318 hk2.1) hk2.2 (C := RX0) (T := TX0) (N := 3) rfl 2 (by decide) (by decide) (by decide) (by decide) (hts (.fieldLink RX5 91 "CrateHelpers$Judge" "bound" "I") (by decide +kernel)) (fun _ h9 => h9) dX5_addJudged_12 ?_
  refine lv_i2l hx hb dX5_addJudged_15 rfl ?_
  refine lv_bipush (v := 18) hx hb dX5_addJudged_16 (by decide) ?_
  refine lv_lshl hx hb dX5_addJudged_18 rfl ?_
  refine lv_lload_n hx hb dX5_addJudged_19 rfl (lv_at hl 2 rfl) ?_
  refine lv_lor hx hb dX5_addJudged_20 ?_
  obtain ⟨hk3, h⟩ := gk h
  obtain ⟨hn4, h⟩ := gk h
  refine xlast hx hb hK hP hap hS (o + 1) (s318 hk3.1) hk3.2 hn4 dX5_addJudged_21 (fun H locs hP hS => ?_)
  obtain ⟨L5, eL5, h⟩ := bd_e h
  rw [← eL5] at hP
  have hP : va_P D vwCl (VW K ad I G A L5) H := hP
  refine lv_aload_n hx hb dX5_addJudged_22 rfl (lv_at hl 0 rfl) ?_
  refine vgS hx hb hts hi5 hown hK hP (o) (s318 hk1.1) hk1.2 (C := RX5) (T := TX5) (N := 16) rfl 1 (by decide) (by decide) (by decide) (by decide) (o + 2) rfl (hts (.fieldLink RX5 53 "CrateHelpers$Tree" "depth" "[B") (by decide +kernel)) (fun _ h9 => h9) dX5_addJudged_23 ?_
  refine lv_aload_n hx hb dX5_addJudged_26 rfl (lv_at hl 0 rfl) ?_
  refine vgI hx hb hts hi5 hown hK hP (o) (s318 hk1.1) hk1.2 (C := RX5) (T := TX5) (N := 16) rfl 9 (by decide) (by decide) (by decide) (by decide) (hts (.fieldLink RX5 15 "CrateHelpers$Tree" "known" "I") (by decide +kernel)) (fun _ h9 => h9) dX5_addJudged_27 ?_
  refine lv_iload_n hx hb dX5_addJudged_30 rfl (lv_at hl 1 rfl) ?_
  refine lv_i2b hx hb dX5_addJudged_31 rfl ?_
  obtain ⟨hk6, h⟩ := gk h
  obtain ⟨hn7, h⟩ := gk h
  refine xbast hx hb hK hP hap hS (o + 2) (s318 hk6.1) hk6.2 hn7 dX5_addJudged_32 (fun H locs hP hS => ?_)
  obtain ⟨A8, eA8, h⟩ := bd_e h
  rw [← eA8] at hP
  have hP : va_P D vwCl (VW K ad I G A8 L5) H := hP
  refine lv_aload_n hx hb dX5_addJudged_33 rfl (lv_at hl 0 rfl) ?_
  refine vgS hx hb hts hi5 hown hK hP (o) (s318 hk1.1) hk1.2 (C := RX5) (T := TX5) (N := 16) rfl 2 (by decide) (by decide) (by decide) (by decide) (o + 3) rfl (hts (.fieldLink RX5 57 "CrateHelpers$Tree" "what" "[B") (by decide +kernel)) (fun _ h9 => h9) dX5_addJudged_34 ?_
  refine lv_aload_n hx hb dX5_addJudged_37 rfl (lv_at hl 0 rfl) ?_
  refine vgI hx hb hts hi5 hown hK hP (o) (s318 hk1.1) hk1.2 (C := RX5) (T := TX5) (N := 16) rfl 9 (by decide) (by decide) (by decide) (by decide) (hts (.fieldLink RX5 15 "CrateHelpers$Tree" "known" "I") (by decide +kernel)) (fun _ h9 => h9) dX5_addJudged_38 ?_
  refine lv_aload_n hx hb dX5_addJudged_41 rfl (lv_at hl 0 rfl) ?_
  refine vgS hx hb hts hi5 hown hK hP (o) (s318 hk1.1) hk1.2 (C := RX5) (T := TX5) (N := 16) rfl 13 (by decide) (by decide) (by decide) (by decide) (o + 11) rfl (hts (.fieldLink RX5 31 "CrateHelpers$Tree" "judge" "LCrateHelpers$Judge;") (by decide +kernel)) (fun _ h9 => h9) dX5_addJudged_42 ?_
  refine vgI hx hb hts hi0 hown hK hP (o + 11) (s318 hk2.1) hk2.2 (C := RX0) (T := TX0) (N := 3) rfl 0 (by decide) (by decide) (by decide) (by decide) (hts (.fieldLink RX5 94 "CrateHelpers$Judge" "what" "I") (by decide +kernel)) (fun _ h9 => h9) dX5_addJudged_45 ?_
  refine lv_i2b hx hb dX5_addJudged_48 rfl ?_
  obtain ⟨hk9, h⟩ := gk h
  obtain ⟨hn10, h⟩ := gk h
  refine xbast hx hb hK hP hap hS (o + 3) (s318 hk9.1) hk9.2 hn10 dX5_addJudged_49 (fun H locs hP hS => ?_)
  obtain ⟨A11, eA11, h⟩ := bd_e h
  rw [← eA11] at hP
  have hP : va_P D vwCl (VW K ad I G A11 L5) H := hP
  refine lv_aload_n hx hb dX5_addJudged_50 rfl (lv_at hl 0 rfl) ?_
  refine vgS hx hb hts hi5 hown hK hP (o) (s318 hk1.1) hk1.2 (C := RX5) (T := TX5) (N := 16) rfl 3 (by decide) (by decide) (by decide) (by decide) (o + 4) rfl (hts (.fieldLink RX5 60 "CrateHelpers$Tree" "why" "[B") (by decide +kernel)) (fun _ h9 => h9) dX5_addJudged_51 ?_
  refine lv_aload_n hx hb dX5_addJudged_54 rfl (lv_at hl 0 rfl) ?_
  refine vgI hx hb hts hi5 hown hK hP (o) (s318 hk1.1) hk1.2 (C := RX5) (T := TX5) (N := 16) rfl 9 (by decide) (by decide) (by decide) (by decide) (hts (.fieldLink RX5 15 "CrateHelpers$Tree" "known" "I") (by decide +kernel)) (fun _ h9 => h9) dX5_addJudged_55 ?_
  refine lv_aload_n hx hb dX5_addJudged_58 rfl (lv_at hl 0 rfl) ?_
  refine vgS hx hb hts hi5 hown hK hP (o) (s318 hk1.1) hk1.2 (C := RX5) (T := TX5) (N := 16) rfl 13 (by decide) (by decide) (by decide) (by decide) (o + 11) rfl (hts (.fieldLink RX5 31 "CrateHelpers$Tree" "judge" "LCrateHelpers$Judge;") (by decide +kernel)) (fun _ h9 => h9) dX5_addJudged_59 ?_
  refine vgI hx hb hts hi0 hown hK hP (o + 11) (s318 hk2.1) hk2.2 (C := RX0) (T := TX0) (N := 3) rfl 1 (by decide) (by decide) (by decide) (by decide) (hts (.fieldLink RX5 96 "CrateHelpers$Judge" "why" "I") (by decide +kernel)) (fun _ h9 => h9) dX5_addJudged_62 ?_
  refine lv_i2b hx hb dX5_addJudged_65 rfl ?_
  obtain ⟨hk12, h⟩ := gk h
  obtain ⟨hn13, h⟩ := gk h
  refine xbast hx hb hK hP hap hS (o + 4) (s318 hk12.1) hk12.2 hn13 dX5_addJudged_66 (fun H locs hP hS => ?_)
  obtain ⟨A14, eA14, h⟩ := bd_e h
  rw [← eA14] at hP
  have hP : va_P D vwCl (VW K ad I G A14 L5) H := hP
  refine lv_aload_n hx hb dX5_addJudged_67 rfl (lv_at hl 0 rfl) ?_
  refine vgS hx hb hts hi5 hown hK hP (o) (s318 hk1.1) hk1.2 (C := RX5) (T := TX5) (N := 16) rfl 4 (by decide) (by decide) (by decide) (by decide) (o + 5) rfl (hts (.fieldLink RX5 63 "CrateHelpers$Tree" "stage" "[B") (by decide +kernel)) (fun _ h9 => h9) dX5_addJudged_68 ?_
  refine lv_aload_n hx hb dX5_addJudged_71 rfl (lv_at hl 0 rfl) ?_
  refine vgI hx hb hts hi5 hown hK hP (o) (s318 hk1.1) hk1.2 (C := RX5) (T := TX5) (N := 16) rfl 9 (by decide) (by decide) (by decide) (by decide) (hts (.fieldLink RX5 15 "CrateHelpers$Tree" "known" "I") (by decide +kernel)) (fun _ h9 => h9) dX5_addJudged_72 ?_
  refine lv_iconst (v := 0) hx hb dX5_addJudged_75 (by decide) ?_
  obtain ⟨hk15, h⟩ := gk h
  obtain ⟨hn16, h⟩ := gk h
  refine xbast hx hb hK hP hap hS (o + 5) (s318 hk15.1) hk15.2 hn16 dX5_addJudged_76 (fun H locs hP hS => ?_)
  obtain ⟨A17, eA17, h⟩ := bd_e h
  rw [← eA17] at hP
  have hP : va_P D vwCl (VW K ad I G A17 L5) H := hP
  refine lv_aload_n hx hb dX5_addJudged_77 rfl (lv_at hl 0 rfl) ?_
  refine vgS hx hb hts hi5 hown hK hP (o) (s318 hk1.1) hk1.2 (C := RX5) (T := TX5) (N := 16) rfl 5 (by decide) (by decide) (by decide) (by decide) (o + 6) rfl (hts (.fieldLink RX5 66 "CrateHelpers$Tree" "doneBy" "[B") (by decide +kernel)) (fun _ h9 => h9) dX5_addJudged_78 ?_
  refine lv_aload_n hx hb dX5_addJudged_81 rfl (lv_at hl 0 rfl) ?_
  refine vgI hx hb hts hi5 hown hK hP (o) (s318 hk1.1) hk1.2 (C := RX5) (T := TX5) (N := 16) rfl 9 (by decide) (by decide) (by decide) (by decide) (hts (.fieldLink RX5 15 "CrateHelpers$Tree" "known" "I") (by decide +kernel)) (fun _ h9 => h9) dX5_addJudged_82 ?_
  refine lv_bipush (v := (-9)) hx hb dX5_addJudged_85 (by decide) ?_
  obtain ⟨hk18, h⟩ := gk h
  obtain ⟨hn19, h⟩ := gk h
  refine xbast hx hb hK hP hap hS (o + 6) (s318 hk18.1) hk18.2 hn19 dX5_addJudged_87 (fun H locs hP hS => ?_)
  obtain ⟨A20, eA20, h⟩ := bd_e h
  rw [← eA20] at hP
  have hP : va_P D vwCl (VW K ad I G A20 L5) H := hP
  refine lv_aload_n hx hb dX5_addJudged_88 rfl (lv_at hl 0 rfl) ?_
  refine vgS hx hb hts hi5 hown hK hP (o) (s318 hk1.1) hk1.2 (C := RX5) (T := TX5) (N := 16) rfl 6 (by decide) (by decide) (by decide) (by decide) (o + 7) rfl (hts (.fieldLink RX5 69 "CrateHelpers$Tree" "firstBelow" "[S") (by decide +kernel)) (fun _ h9 => h9) dX5_addJudged_89 ?_
  refine lv_aload_n hx hb dX5_addJudged_92 rfl (lv_at hl 0 rfl) ?_
  refine vgI hx hb hts hi5 hown hK hP (o) (s318 hk1.1) hk1.2 (C := RX5) (T := TX5) (N := 16) rfl 9 (by decide) (by decide) (by decide) (by decide) (hts (.fieldLink RX5 15 "CrateHelpers$Tree" "known" "I") (by decide +kernel)) (fun _ h9 => h9) dX5_addJudged_93 ?_
  refine lv_iconst (v := (-1)) hx hb dX5_addJudged_96 (by decide) ?_
  obtain ⟨hk21, h⟩ := gk h
  obtain ⟨hn22, h⟩ := gk h
  refine xsast hx hb hK hP hap hS (o + 7) (s318 hk21.1) hk21.2 hn22 dX5_addJudged_97 (fun H locs hP hS => ?_)
  obtain ⟨A23, eA23, h⟩ := bd_e h
  rw [← eA23] at hP
  have hP : va_P D vwCl (VW K ad I G A23 L5) H := hP
  refine lv_aload_n hx hb dX5_addJudged_98 rfl (lv_at hl 0 rfl) ?_
  refine vgS hx hb hts hi5 hown hK hP (o) (s318 hk1.1) hk1.2 (C := RX5) (T := TX5) (N := 16) rfl 7 (by decide) (by decide) (by decide) (by decide) (o + 8) rfl (hts (.fieldLink RX5 73 "CrateHelpers$Tree" "isReached" "[Z") (by decide +kernel)) (fun _ h9 => h9) dX5_addJudged_99 ?_
  refine lv_aload_n hx hb dX5_addJudged_102 rfl (lv_at hl 0 rfl) ?_
  refine vgI hx hb hts hi5 hown hK hP (o) (s318 hk1.1) hk1.2 (C := RX5) (T := TX5) (N := 16) rfl 9 (by decide) (by decide) (by decide) (by decide) (hts (.fieldLink RX5 15 "CrateHelpers$Tree" "known" "I") (by decide +kernel)) (fun _ h9 => h9) dX5_addJudged_103 ?_
  refine lv_iconst (v := 0) hx hb dX5_addJudged_106 (by decide) ?_
  obtain ⟨hk24, h⟩ := gk h
  obtain ⟨hn25, h⟩ := gk h
  refine xzast hx hb hK hP hap hS (o + 8) (s318 hk24.1) hk24.2 hn25 dX5_addJudged_107 (fun H locs hP hS => ?_)
  obtain ⟨A26, eA26, h⟩ := bd_e h
  rw [← eA26] at hP
  have hP : va_P D vwCl (VW K ad I G A26 L5) H := hP
  refine lv_aload_n hx hb dX5_addJudged_108 rfl (lv_at hl 0 rfl) ?_
  refine lv_dup hx hb dX5_addJudged_109 rfl ?_
  refine vgI hx hb hts hi5 hown hK hP (o) (s318 hk1.1) hk1.2 (C := RX5) (T := TX5) (N := 16) rfl 9 (by decide) (by decide) (by decide) (by decide) (hts (.fieldLink RX5 15 "CrateHelpers$Tree" "known" "I") (by decide +kernel)) (fun _ h9 => h9) dX5_addJudged_110 ?_
  refine lv_iconst (v := 1) hx hb dX5_addJudged_113 (by decide) ?_
  refine lv_iadd hx hb dX5_addJudged_114 ?_
  refine vpI (v := ((I o 9) + 1)) (ty := .int) hx hb hts hi5 tyX5 tyX5_ok nmX5 hown hK hP hap hS (o) (s318 hk1.1) hk1.2 (C := RX5) (T := TX5) (N := 16) rfl 9 (by decide) (by decide) (by decide) (by decide) (hts (.fieldLink RX5 15 "CrateHelpers$Tree" "known" "I") (by decide +kernel)) (fun _ h9 => h9) rfl (by decide +kernel) rfl rfl dX5_addJudged_115 (fun H locs hP hS => ?_)
  obtain ⟨I27, eI27, h⟩ := bd_e h
  rw [← eI27] at hP
  have hP : va_P D vwCl (VW K ad I27 G A26 L5) H := hP
  exact W.vret hx hb hr (fun t9 ht9 hW9 => ⟨⟨(I27, G, A26, L5), rfl, by cases h; rfl, by rw [ht9]; exact hP, va_K.moved hW9.alike hK⟩, hS.F ht9⟩) hS.2.2 dX5_addJudged_118
set_option maxHeartbeats 4000000 in
set_option maxRecDepth 100000 in
theorem e_X5_plant (l : Launch) (D : va_G) (K : Nat → ClassId) (ad : Nat → Nat) (hap0 : apart ad (fun _ => True)) (o : Nat) (s1 : Nat) (a2 : Int32) (I : Nat → Nat → Int32) (G : Nat → Nat → Nat) (A : Nat → Nat → Int32) (L : Nat → Nat → Int64) (I0 : Nat → Nat → Int32) (G0 : Nat → Nat → Nat) (A0 : Nat → Nat → Int32) (L0 : Nat → Nat → Int64) (h : f_X5_plant I G A L o s1 a2 = some (I0, G0, A0, L0)) : Cv l D K ad yX5_plant wsX5_plant 5 182 [.ref (ad o), .ref (ad s1), .int a2] (I, G, A, L) (fun (u : Mem) => u = (I0, G0, A0, L0)) := by
  intro sz
  refine Met.ofW (cc := cX5_plant) (maxL := 3) (ret := none) (by decide) rfl ?_
  intro p e s m args below meth c s₁ Bd hml hv0
  obtain ⟨rfl, hsz, hP, hK⟩ := hv0
  have hx := Bd.exec
  have hb := Bd.bytes
  have hr := Bd.returns
  have hts := atoms_spec (ws := wsX5_plant) Bd.pre
  have hown : s.vm.findClass RX5 = some m.cls := findClass_of_methodNamed Bd.named
  have hlocks := Bd.notSynchronized
  have hi5 : ∀ w ∈ u_ws RX5 TX5 16, w ∈ wsX5_plant := fun w h => List.mem_cons_of_mem _ (List.mem_append_left _ (List.mem_append_left _ (List.mem_append_left _ (List.mem_append_right _ h))))
  have hi1 : ∀ w ∈ u_ws RX1 TX1 9, w ∈ wsX5_plant := fun w h => List.mem_cons_of_mem _ (List.mem_append_left _ (List.mem_append_left _ (List.mem_append_right _ h)))
  have hi0 : ∀ w ∈ u_ws RX0 TX0 3, w ∈ wsX5_plant := fun w h => List.mem_cons_of_mem _ (List.mem_append_left _ (List.mem_append_right _ h))
  have hi2 : ∀ w ∈ u_ws RX2 TX2 7, w ∈ wsX5_plant := fun w h => List.mem_cons_of_mem _ (List.mem_append_right _ h)
  subst hsz
  have hap := vF_ap hap0 s.heap.size
  have hS : va_S (vF ad s.heap.size) s.heap s.heap [] := va_S.rf
  have hP : va_P D vwCl (VW K ad I G A L) s.heap := hP
  have hl := lv_entry ([.ref (ad o), .ref (ad s1), .int a2]) (n := 3) (Nat.le_of_ble_eq_true rfl)
  rw [lg_entry_eq]
  generalize (lg_sl ([.ref (ad o), .ref (ad s1), .int a2]) ++ List.replicate (3 - (lg_sl ([.ref (ad o), .ref (ad s1), .int a2])).length) Slot.unset).toArray = ls at hl ⊢
  have hl : lv_has ls 3 [(0, .ref (ad o)), (1, .ref (ad s1)), (2, .int a2)] := hl
  rw [f_X5_plant] at h
  refine lv_aload_n hx hb dX5_plant_0 rfl (lv_at hl 0 rfl) ?_
  refine lv_aload_n hx hb dX5_plant_1 rfl (lv_at hl 1 rfl) ?_
  obtain ⟨hk1, h⟩ := gk h
  refine vpG (q := s1) (ty := .object "CrateHelpers$Problem") hx hb hts hi5 tyX5 tyX5_ok nmX5 hown hK hP hap hS (o) (s318 hk1.1) hk1.2 (C := RX5) (T := TX5) (N := 16) rfl 14 (by decide) (by decide) (by decide) (by decide) (hts (.fieldLink RX5 45 "CrateHelpers$Tree" "problem" "LCrateHelpers$Problem;") (by decide +kernel)) (fun _ h9 => h9) rfl (by decide +kernel) rfl rfl dX5_plant_2 (fun H locs hP hS => ?_)
  obtain ⟨G2, eG2, h⟩ := bd_e h
  rw [← eG2] at hP
  have hP : va_P D vwCl (VW K ad I G2 A L) H := hP
  refine lv_aload_n hx hb dX5_plant_5 rfl (lv_at hl 0 rfl) ?_
  refine lv_iload_n hx hb dX5_plant_6 rfl (lv_at hl 2 rfl) ?_
  obtain ⟨hz3, h⟩ := gk h
  refine vpI (v := a2) (ty := .boolean) hx hb hts hi5 tyX5 tyX5_ok nmX5 hown hK hP hap hS (o) (s318 hk1.1) hk1.2 (C := RX5) (T := TX5) (N := 16) rfl 15 (by decide) (by decide) (by decide) (by decide) (hts (.fieldLink RX5 35 "CrateHelpers$Tree" "mindsTwins" "Z") (by decide +kernel)) (fun _ h9 => h9) rfl (by decide +kernel) (nar01 hz3) (fit01 hz3) dX5_plant_7 (fun H locs hP hS => ?_)
  obtain ⟨I4, eI4, h⟩ := bd_e h
  rw [← eI4] at hP
  have hP : va_P D vwCl (VW K ad I4 G2 A L) H := hP
  refine lv_aload_n hx hb dX5_plant_10 rfl (lv_at hl 0 rfl) ?_
  refine lv_iconst (v := 0) hx hb dX5_plant_11 (by decide) ?_
  refine vpI (v := 0) (ty := .int) hx hb hts hi5 tyX5 tyX5_ok nmX5 hown hK hP hap hS (o) (s318 hk1.1) hk1.2 (C := RX5) (T := TX5) (N := 16) rfl 9 (by decide) (by decide) (by decide) (by decide) (hts (.fieldLink RX5 15 "CrateHelpers$Tree" "known" "I") (by decide +kernel)) (fun _ h9 => h9) rfl (by decide +kernel) rfl rfl dX5_plant_12 (fun H locs hP hS => ?_)
  obtain ⟨I5, eI5, h⟩ := bd_e h
  rw [← eI5] at hP
  have hP : va_P D vwCl (VW K ad I5 G2 A L) H := hP
  refine lv_aload_n hx hb dX5_plant_15 rfl (lv_at hl 0 rfl) ?_
  refine lv_iconst (v := 0) hx hb dX5_plant_16 (by decide) ?_
  refine vpI (v := 0) (ty := .int) hx hb hts hi5 tyX5 tyX5_ok nmX5 hown hK hP hap hS (o) (s318 hk1.1) hk1.2 (C := RX5) (T := TX5) (N := 16) rfl 10 (by decide) (by decide) (by decide) (by decide) (hts (.fieldLink RX5 19 "CrateHelpers$Tree" "done" "I") (by decide +kernel)) (fun _ h9 => h9) rfl (by decide +kernel) rfl rfl dX5_plant_17 (fun H locs hP hS => ?_)
  obtain ⟨I6, eI6, h⟩ := bd_e h
  rw [← eI6] at hP
  have hP : va_P D vwCl (VW K ad I6 G2 A L) H := hP
  refine lv_aload_n hx hb dX5_plant_20 rfl (lv_at hl 0 rfl) ?_
  refine lv_iconst (v := 0) hx hb dX5_plant_21 (by decide) ?_
  refine vpI (v := 0) (ty := .int) hx hb hts hi5 tyX5 tyX5_ok nmX5 hown hK hP hap hS (o) (s318 hk1.1) hk1.2 (C := RX5) (T := TX5) (N := 16) rfl 11 (by decide) (by decide) (by decide) (by decide) (hts (.fieldLink RX5 22 "CrateHelpers$Tree" "taken" "I") (by decide +kernel)) (fun _ h9 => h9) rfl (by decide +kernel) rfl rfl dX5_plant_22 (fun H locs hP hS => ?_)
  obtain ⟨I7, eI7, h⟩ := bd_e h
  rw [← eI7] at hP
  have hP : va_P D vwCl (VW K ad I7 G2 A L) H := hP
  refine lv_aload_n hx hb dX5_plant_25 rfl (lv_at hl 0 rfl) ?_
  refine vgS hx hb hts hi5 hown hK hP (o) (s318 hk1.1) hk1.2 (C := RX5) (T := TX5) (N := 16) rfl 12 (by decide) (by decide) (by decide) (by decide) (o + 10) rfl (hts (.fieldLink RX5 25 "CrateHelpers$Tree" "values" "[I") (by decide +kernel)) (fun _ h9 => h9) dX5_plant_26 ?_
  refine lv_iconst (v := (-1)) hx hb dX5_plant_29 (by decide) ?_
  obtain ⟨A8, hc9, h⟩ := Option.bind_eq_some_iff.mp h
  refine ecSv (As := [.ref (ad (o + 10)), .int (-1)]) (rest := []) ⟨hx, hb, hml, hown, hts⟩ (e_J7_fill_53178 l D K ad hap0 (o + 10) (-1) I7 G2 A L A8 hc9) (va_cwS 2 hts gX5_plant_J7_fill_53178 rfl rfl rfl (by decide +kernel) ⟨Nat.le_of_ble_eq_true rfl, Nat.le_of_ble_eq_true rfl⟩) hK hP hS rfl hl.1 (Nat.le_of_ble_eq_true rfl) (Nat.le_of_ble_eq_true rfl) (Nat.le_of_ble_eq_true rfl) dX5_plant_30 (fun H locs hP hS => ?_) rfl
  have hP : va_P D vwCl (VW K ad I7 G2 A8 L) H := hP
  refine lv_aload_n hx hb dX5_plant_33 rfl (lv_at hl 0 rfl) ?_
  refine vgS hx hb hts hi5 hown hK hP (o) (s318 hk1.1) hk1.2 (C := RX5) (T := TX5) (N := 16) rfl 13 (by decide) (by decide) (by decide) (by decide) (o + 11) rfl (hts (.fieldLink RX5 31 "CrateHelpers$Tree" "judge" "LCrateHelpers$Judge;") (by decide +kernel)) (fun _ h9 => h9) dX5_plant_34 ?_
  refine lv_aload_n hx hb dX5_plant_37 rfl (lv_at hl 0 rfl) ?_
  refine vgG hx hb hts hi5 hown hK hP (o) (s318 hk1.1) hk1.2 (C := RX5) (T := TX5) (N := 16) rfl 14 (by decide) (by decide) (by decide) (by decide) (hts (.fieldLink RX5 45 "CrateHelpers$Tree" "problem" "LCrateHelpers$Problem;") (by decide +kernel)) (fun _ h9 => h9) dX5_plant_38 ?_
  refine lv_aload_n hx hb dX5_plant_41 rfl (lv_at hl 0 rfl) ?_
  refine vgS hx hb hts hi5 hown hK hP (o) (s318 hk1.1) hk1.2 (C := RX5) (T := TX5) (N := 16) rfl 12 (by decide) (by decide) (by decide) (by decide) (o + 10) rfl (hts (.fieldLink RX5 25 "CrateHelpers$Tree" "values" "[I") (by decide +kernel)) (fun _ h9 => h9) dX5_plant_42 ?_
  refine lv_iconst (v := 0) hx hb dX5_plant_45 (by decide) ?_
  refine lv_aload_n hx hb dX5_plant_46 rfl (lv_at hl 0 rfl) ?_
  refine vgI hx hb hts hi5 hown hK hP (o) (s318 hk1.1) hk1.2 (C := RX5) (T := TX5) (N := 16) rfl 15 (by decide) (by decide) (by decide) (by decide) (hts (.fieldLink RX5 35 "CrateHelpers$Tree" "mindsTwins" "Z") (by decide +kernel)) (fun _ h9 => h9) dX5_plant_47 ?_
  obtain ⟨hk10, h⟩ := gk h
  obtain ⟨I11, hc12, h⟩ := Option.bind_eq_some_iff.mp h
  refine ecVv (As := [.ref (ad (G2 o 14)), .ref (ad (o + 10)), .int 0, .int (I7 o 15)]) (rest := []) ⟨hx, hb, hml, hown, hts⟩ (e_X0_look l D K ad hap0 (o + 11) (G2 o 14) (o + 10) 0 (I7 o 15) I7 G2 A8 L I11 hc12) (cwV 4 hts gX5_plant_X0_look rfl rfl rfl (by decide +kernel) ⟨Nat.le_of_ble_eq_true rfl, Nat.le_of_ble_eq_true rfl⟩) hK hP hS (s318 hk10.1) hk10.2 (by decide) rfl rfl rfl hl.1 (Nat.le_of_ble_eq_true rfl) (Nat.le_of_ble_eq_true rfl) (Nat.le_of_ble_eq_true rfl) dX5_plant_50 (fun H locs hP hS => ?_) rfl
  have hP : va_P D vwCl (VW K ad I11 G2 A8 L) H := hP
  refine lv_aload_n hx hb dX5_plant_53 rfl (lv_at hl 0 rfl) ?_
  refine lv_iconst (v := 0) hx hb dX5_plant_54 (by decide) ?_
  refine lv_lconst (v := 0) hx hb dX5_plant_55 rfl ?_
  obtain ⟨⟨I13, A14, L15⟩, hc16, h⟩ := Option.bind_eq_some_iff.mp h
  refine ecVv (As := [.int 0, .long 0]) (rest := []) ⟨hx, hb, hml, hown, hts⟩ (e_X5_addJudged l D K ad hap0 o 0 0 I11 G2 A8 L I13 A14 L15 hc16) (cwV 2 hts gX5_plant_X5_addJudged rfl rfl rfl (by decide +kernel) ⟨Nat.le_of_ble_eq_true rfl, Nat.le_of_ble_eq_true rfl⟩) hK hP hS (s318 hk1.1) hk1.2 (by decide) rfl rfl rfl hl.1 (Nat.le_of_ble_eq_true rfl) (Nat.le_of_ble_eq_true rfl) (Nat.le_of_ble_eq_true rfl) dX5_plant_56 (fun H locs hP hS => ?_) rfl
  have hP : va_P D vwCl (VW K ad I13 G2 A14 L15) H := hP
  refine lv_aload_n hx hb dX5_plant_59 rfl (lv_at hl 0 rfl) ?_
  refine vgS hx hb hts hi5 hown hK hP (o) (s318 hk1.1) hk1.2 (C := RX5) (T := TX5) (N := 16) rfl 7 (by decide) (by decide) (by decide) (by decide) (o + 8) rfl (hts (.fieldLink RX5 73 "CrateHelpers$Tree" "isReached" "[Z") (by decide +kernel)) (fun _ h9 => h9) dX5_plant_60 ?_
  refine lv_iconst (v := 0) hx hb dX5_plant_63 (by decide) ?_
  refine lv_iconst (v := 1) hx hb dX5_plant_64 (by decide) ?_
  obtain ⟨hk17, h⟩ := gk h
  obtain ⟨hn18, h⟩ := gk h
  refine xzast hx hb hK hP hap hS (o + 8) (s318 hk17.1) hk17.2 hn18 dX5_plant_65 (fun H locs hP hS => ?_)
  rw [show (0 : Int32).toNatClampNeg = 0 by decide] at hP
  obtain ⟨A19, eA19, h⟩ := bd_e h
  rw [← eA19] at hP
  have hP : va_P D vwCl (VW K ad I13 G2 A19 L15) H := hP
  exact W.vret hx hb hr (fun t9 ht9 hW9 => ⟨⟨(I13, G2, A19, L15), rfl, by cases h; rfl, by rw [ht9]; exact hP, va_K.moved hW9.alike hK⟩, hS.F ht9⟩) hS.2.2 dX5_plant_66
set_option maxHeartbeats 4000000 in
set_option maxRecDepth 100000 in
theorem e_X3_begin (l : Launch) (D : va_G) (K : Nat → ClassId) (ad : Nat → Nat) (hap0 : apart ad (fun _ => True)) (s1 : Nat) (s2 : Nat) (a3 : Int32) (I : Nat → Nat → Int32) (G : Nat → Nat → Nat) (A : Nat → Nat → Int32) (L : Nat → Nat → Int64) (r0 : Int32) (I0 : Nat → Nat → Int32) (G0 : Nat → Nat → Nat) (A0 : Nat → Nat → Int32) (L0 : Nat → Nat → Int64) (h : f_X3_begin I G A L s1 s2 a3 = some (r0, I0, G0, A0, L0)) : Ci l D K ad yX3_begin wsX3_begin 6 207 [.ref (ad 14), .ref (ad s1), .ref (ad s2), .int a3] (I, G, A, L) (fun (r : Int32) (u : Mem) => r = r0 ∧ u = (I0, G0, A0, L0)) := by
  intro sz
  refine Met.ofW (cc := cX3_begin) (maxL := 4) (ret := (some .int)) (by decide) rfl ?_
  intro p e s m args below meth c s₁ Bd hml hv0
  obtain ⟨rfl, hsz, hP, hK⟩ := hv0
  have hx := Bd.exec
  have hb := Bd.bytes
  have hr := Bd.returns
  have hts := atoms_spec (ws := wsX3_begin) Bd.pre
  have hown : s.vm.findClass RX3 = some m.cls := findClass_of_methodNamed Bd.named
  have hlocks := Bd.notSynchronized
  have hi3 : ∀ w ∈ u_ws RX3 TX3 6, w ∈ wsX3_begin := fun w h => List.mem_cons_of_mem _ (List.mem_append_left _ (List.mem_append_left _ (List.mem_append_left _ (List.mem_append_left _ (List.mem_append_left _ (List.mem_append_right _ h))))))
  have hi4 : ∀ w ∈ u_ws RX4 TX4 7, w ∈ wsX3_begin := fun w h => List.mem_cons_of_mem _ (List.mem_append_left _ (List.mem_append_left _ (List.mem_append_left _ (List.mem_append_left _ (List.mem_append_right _ h)))))
  have hi5 : ∀ w ∈ u_ws RX5 TX5 16, w ∈ wsX3_begin := fun w h => List.mem_cons_of_mem _ (List.mem_append_left _ (List.mem_append_left _ (List.mem_append_left _ (List.mem_append_right _ h))))
  have hi1 : ∀ w ∈ u_ws RX1 TX1 9, w ∈ wsX3_begin := fun w h => List.mem_cons_of_mem _ (List.mem_append_left _ (List.mem_append_left _ (List.mem_append_right _ h)))
  have hi0 : ∀ w ∈ u_ws RX0 TX0 3, w ∈ wsX3_begin := fun w h => List.mem_cons_of_mem _ (List.mem_append_left _ (List.mem_append_right _ h))
  have hi2 : ∀ w ∈ u_ws RX2 TX2 7, w ∈ wsX3_begin := fun w h => List.mem_cons_of_mem _ (List.mem_append_right _ h)
  subst hsz
  have hap := vF_ap hap0 s.heap.size
  have hS : va_S (vF ad s.heap.size) s.heap s.heap [] := va_S.rf
  have hP : va_P D vwCl (VW K ad I G A L) s.heap := hP
  have hl := lv_entry ([.ref (ad 14), .ref (ad s1), .ref (ad s2), .int a3]) (n := 4) (Nat.le_of_ble_eq_true rfl)
  rw [lg_entry_eq]
  generalize (lg_sl ([.ref (ad 14), .ref (ad s1), .ref (ad s2), .int a3]) ++ List.replicate (4 - (lg_sl ([.ref (ad 14), .ref (ad s1), .ref (ad s2), .int a3])).length) Slot.unset).toArray = ls at hl ⊢
  have hl : lv_has ls 4 [(0, .ref (ad 14)), (1, .ref (ad s1)), (2, .ref (ad s2)), (3, .int a3)] := hl
  rw [f_X3_begin] at h
  refine lv_aload_n hx hb dX3_begin_0 rfl (lv_at hl 0 rfl) ?_
  refine lv_aload_n hx hb dX3_begin_1 rfl (lv_at hl 2 rfl) ?_
  refine vpG (q := s2) (ty := .object "CrateHelpers$Team") hx hb hts hi3 tyX3 tyX3_ok nmX3 hown hK hP hap hS (14) (by decide) (show kd 14 = 3 by decide) (C := RX3) (T := TX3) (N := 6) rfl 1 (by decide) (by decide) (by decide) (by decide) (hts (.fieldLink RX3 34 "CrateHelpers$Solving" "team" "LCrateHelpers$Team;") (by decide +kernel)) (fun _ h9 => h9) rfl (by decide +kernel) rfl rfl dX3_begin_2 (fun H locs hP hS => ?_)
  obtain ⟨G1, eG1, h⟩ := bd_e h
  rw [← eG1] at hP
  have hP : va_P D vwCl (VW K ad I G1 A L) H := hP
  refine lv_aload_n hx hb dX3_begin_5 rfl (lv_at hl 0 rfl) ?_
  refine lv_iload_n hx hb dX3_begin_6 rfl (lv_at hl 3 rfl) ?_
  refine vpI (v := a3) (ty := .int) hx hb hts hi3 tyX3 tyX3_ok nmX3 hown hK hP hap hS (14) (by decide) (show kd 14 = 3 by decide) (C := RX3) (T := TX3) (N := 6) rfl 2 (by decide) (by decide) (by decide) (by decide) (hts (.fieldLink RX3 9 "CrateHelpers$Solving" "limit" "I") (by decide +kernel)) (fun _ h9 => h9) rfl (by decide +kernel) rfl rfl dX3_begin_7 (fun H locs hP hS => ?_)
  obtain ⟨I2, eI2, h⟩ := bd_e h
  rw [← eI2] at hP
  have hP : va_P D vwCl (VW K ad I2 G1 A L) H := hP
  refine lv_aload_n hx hb dX3_begin_10 rfl (lv_at hl 0 rfl) ?_
  refine lv_iconst (v := 0) hx hb dX3_begin_11 (by decide) ?_
  refine vpI (v := 0) (ty := .int) hx hb hts hi3 tyX3 tyX3_ok nmX3 hown hK hP hap hS (14) (by decide) (show kd 14 = 3 by decide) (C := RX3) (T := TX3) (N := 6) rfl 3 (by decide) (by decide) (by decide) (by decide) (hts (.fieldLink RX3 15 "CrateHelpers$Solving" "turns" "I") (by decide +kernel)) (fun _ h9 => h9) rfl (by decide +kernel) rfl rfl dX3_begin_12 (fun H locs hP hS => ?_)
  obtain ⟨I3, eI3, h⟩ := bd_e h
  rw [← eI3] at hP
  have hP : va_P D vwCl (VW K ad I3 G1 A L) H := hP
  refine lv_aload_n hx hb dX3_begin_15 rfl (lv_at hl 0 rfl) ?_
  refine vgG hx hb hts hi3 hown hK hP (14) (by decide) (show kd 14 = 3 by decide) (C := RX3) (T := TX3) (N := 6) rfl 1 (by decide) (by decide) (by decide) (by decide) (hts (.fieldLink RX3 34 "CrateHelpers$Solving" "team" "LCrateHelpers$Team;") (by decide +kernel)) (fun _ h9 => h9) dX3_begin_16 ?_
  obtain ⟨hk4, h⟩ := gk h
  refine vgS hx hb hts hi4 hown hK hP (G1 14 1) (s318 hk4.1) hk4.2 (C := RX4) (T := TX4) (N := 7) rfl 4 (by decide) (by decide) (by decide) (by decide) (G1 14 1 + 3) rfl (hts (.fieldLink RX3 38 "CrateHelpers$Team" "done" "[I") (by decide +kernel)) (fun _ h9 => h9) dX3_begin_19 ?_
  refine lv_iconst (v := 0) hx hb dX3_begin_22 (by decide) ?_
  obtain ⟨A5, hc6, h⟩ := Option.bind_eq_some_iff.mp h
  refine ecSv (As := [.ref (ad (G1 14 1 + 3)), .int 0]) (rest := []) ⟨hx, hb, hml, hown, hts⟩ (e_J7_fill_53178 l D K ad hap0 (G1 14 1 + 3) 0 I3 G1 A L A5 hc6) (va_cwS 2 hts gX3_begin_J7_fill_53178 rfl rfl rfl (by decide +kernel) ⟨Nat.le_of_ble_eq_true rfl, Nat.le_of_ble_eq_true rfl⟩) hK hP hS rfl hl.1 (Nat.le_of_ble_eq_true rfl) (Nat.le_of_ble_eq_true rfl) (Nat.le_of_ble_eq_true rfl) dX3_begin_23 (fun H locs hP hS => ?_) rfl
  have hP : va_P D vwCl (VW K ad I3 G1 A5 L) H := hP
  refine lv_aload_n hx hb dX3_begin_26 rfl (lv_at hl 0 rfl) ?_
  refine vgS hx hb hts hi3 hown hK hP (14) (by decide) (show kd 14 = 3 by decide) (C := RX3) (T := TX3) (N := 6) rfl 4 (by decide) (by decide) (by decide) (by decide) (15) rfl (hts (.fieldLink RX3 18 "CrateHelpers$Solving" "holds" "[I") (by decide +kernel)) (fun _ h9 => h9) dX3_begin_27 ?_
  refine lv_iconst (v := (-1)) hx hb dX3_begin_30 (by decide) ?_
  obtain ⟨A7, hc8, h⟩ := Option.bind_eq_some_iff.mp h
  refine ecSv (As := [.ref (ad 15), .int (-1)]) (rest := []) ⟨hx, hb, hml, hown, hts⟩ (e_J7_fill_53178 l D K ad hap0 15 (-1) I3 G1 A5 L A7 hc8) (va_cwS 2 hts gX3_begin_J7_fill_53178 rfl rfl rfl (by decide +kernel) ⟨Nat.le_of_ble_eq_true rfl, Nat.le_of_ble_eq_true rfl⟩) hK hP hS rfl hl.1 (Nat.le_of_ble_eq_true rfl) (Nat.le_of_ble_eq_true rfl) (Nat.le_of_ble_eq_true rfl) dX3_begin_31 (fun H locs hP hS => ?_) rfl
  have hP : va_P D vwCl (VW K ad I3 G1 A7 L) H := hP
  refine lv_aload_n hx hb dX3_begin_34 rfl (lv_at hl 0 rfl) ?_
  refine vgS hx hb hts hi3 hown hK hP (14) (by decide) (show kd 14 = 3 by decide) (C := RX3) (T := TX3) (N := 6) rfl 5 (by decide) (by decide) (by decide) (by decide) (16) rfl (hts (.fieldLink RX3 22 "CrateHelpers$Solving" "had" "[I") (by decide +kernel)) (fun _ h9 => h9) dX3_begin_35 ?_
  refine lv_iconst (v := 0) hx hb dX3_begin_38 (by decide) ?_
  obtain ⟨A9, hc10, h⟩ := Option.bind_eq_some_iff.mp h
  refine ecSv (As := [.ref (ad 16), .int 0]) (rest := []) ⟨hx, hb, hml, hown, hts⟩ (e_J7_fill_53178 l D K ad hap0 16 0 I3 G1 A7 L A9 hc10) (va_cwS 2 hts gX3_begin_J7_fill_53178 rfl rfl rfl (by decide +kernel) ⟨Nat.le_of_ble_eq_true rfl, Nat.le_of_ble_eq_true rfl⟩) hK hP hS rfl hl.1 (Nat.le_of_ble_eq_true rfl) (Nat.le_of_ble_eq_true rfl) (Nat.le_of_ble_eq_true rfl) dX3_begin_39 (fun H locs hP hS => ?_) rfl
  have hP : va_P D vwCl (VW K ad I3 G1 A9 L) H := hP
  refine lv_aload_n hx hb dX3_begin_42 rfl (lv_at hl 0 rfl) ?_
  refine vgG hx hb hts hi3 hown hK hP (14) (by decide) (show kd 14 = 3 by decide) (C := RX3) (T := TX3) (N := 6) rfl 0 (by decide) (by decide) (by decide) (by decide) (hts (.fieldLink RX3 30 "CrateHelpers$Solving" "tree" "LCrateHelpers$Tree;") (by decide +kernel)) (fun _ h9 => h9) dX3_begin_43 ?_
  refine lv_aload_n hx hb dX3_begin_46 rfl (lv_at hl 1 rfl) ?_
  refine lv_iconst (v := 1) hx hb dX3_begin_47 (by decide) ?_
  obtain ⟨hk11, h⟩ := gk h
  obtain ⟨⟨I12, G13, A14, L15⟩, hc16, h⟩ := Option.bind_eq_some_iff.mp h
  refine ecVv (As := [.ref (ad s1), .int 1]) (rest := []) ⟨hx, hb, hml, hown, hts⟩ (e_X5_plant l D K ad hap0 (G1 14 0) s1 1 I3 G1 A9 L I12 G13 A14 L15 hc16) (cwV 2 hts gX3_begin_X5_plant rfl rfl rfl (by decide +kernel) ⟨Nat.le_of_ble_eq_true rfl, Nat.le_of_ble_eq_true rfl⟩) hK hP hS (s318 hk11.1) hk11.2 (by decide) rfl rfl rfl hl.1 (Nat.le_of_ble_eq_true rfl) (Nat.le_of_ble_eq_true rfl) (Nat.le_of_ble_eq_true rfl) dX3_begin_48 (fun H locs hP hS => ?_) rfl
  have hP : va_P D vwCl (VW K ad I12 G13 A14 L15) H := hP
  refine lv_aload_n hx hb dX3_begin_51 rfl (lv_at hl 0 rfl) ?_
  refine vgG hx hb hts hi3 hown hK hP (14) (by decide) (show kd 14 = 3 by decide) (C := RX3) (T := TX3) (N := 6) rfl 0 (by decide) (by decide) (by decide) (by decide) (hts (.fieldLink RX3 30 "CrateHelpers$Solving" "tree" "LCrateHelpers$Tree;") (by decide +kernel)) (fun _ h9 => h9) dX3_begin_52 ?_
  obtain ⟨hk17, h⟩ := gk h
  refine vgS hx hb hts hi5 hown hK hP (G13 14 0) (s318 hk17.1) hk17.2 (C := RX5) (T := TX5) (N := 16) rfl 2 (by decide) (by decide) (by decide) (by decide) (G13 14 0 + 3) rfl (hts (.fieldLink RX3 53 "CrateHelpers$Tree" "what" "[B") (by decide +kernel)) (fun _ h9 => h9) dX3_begin_55 ?_
  refine lv_iconst (v := 0) hx hb dX3_begin_58 (by decide) ?_
  obtain ⟨hk18, h⟩ := gk h
  obtain ⟨hn19, h⟩ := gk h
  refine xbald hx hb hK hP (G13 14 0 + 3) (s318 hk18.1) hk18.2 hn19 dX3_begin_59 ?_
  rw [show (0 : Int32).toNatClampNeg = 0 by decide]
  refine lv_if_ne (tgt := 67) hx hb dX3_begin_60 (by decide) (fun c_20 => ?_) (fun c_20 => ?_)
  · have h := iN c_20 h
    refine lv_iconst (v := 2) hx hb dX3_begin_67 (by decide) ?_
    exact W.iret (v := 2) hx hb hr (fun t9 ht9 hW9 => ⟨⟨2, (I12, G13, A14, L15), rfl, by cases h; exact ⟨rfl, rfl⟩, by rw [ht9]; exact hP, va_K.moved hW9.alike hK⟩, hS.F ht9⟩) hS.2.2 dX3_begin_68
  · have h := ip c_20 h
    refine lv_iconst (v := 0) hx hb dX3_begin_63 (by decide) ?_
    refine lv_goto (tgt := 68) hx hb dX3_begin_64 (by decide) ?_
    exact W.iret (v := 0) hx hb hr (fun t9 ht9 hW9 => ⟨⟨0, (I12, G13, A14, L15), rfl, by cases h; exact ⟨rfl, rfl⟩, by rw [ht9]; exact hP, va_K.moved hW9.alike hK⟩, hS.F ht9⟩) hS.2.2 dX3_begin_68
set_option maxHeartbeats 4000000 in
set_option maxRecDepth 100000 in
theorem e_X3_pick (l : Launch) (D : va_G) (K : Nat → ClassId) (ad : Nat → Nat) (hap0 : apart ad (fun _ => True)) (a1 : Int32) (I : Nat → Nat → Int32) (G : Nat → Nat → Nat) (A : Nat → Nat → Int32) (L : Nat → Nat → Int64) (A0 : Nat → Nat → Int32) (h : f_X3_pick I G A L a1 = some A0) : Cv l D K ad yX3_pick wsX3_pick 1 26 [.ref (ad 14), .int a1] (I, G, A, L) (fun (u : Mem) => u = (I, G, A0, L)) := by
  intro sz
  refine Met.ofW (cc := cX3_pick) (maxL := 4) (ret := none) (by decide) rfl ?_
  intro p e s m args below meth c s₁ Bd hml hv0
  obtain ⟨rfl, hsz, hP, hK⟩ := hv0
  have hx := Bd.exec
  have hb := Bd.bytes
  have hr := Bd.returns
  have hts := atoms_spec (ws := wsX3_pick) Bd.pre
  have hown : s.vm.findClass RX3 = some m.cls := findClass_of_methodNamed Bd.named
  have hlocks := Bd.notSynchronized
  have hi3 : ∀ w ∈ u_ws RX3 TX3 6, w ∈ wsX3_pick := fun w h => List.mem_cons_of_mem _ (List.mem_append_left _ (List.mem_append_left _ (List.mem_append_right _ h)))
  have hi5 : ∀ w ∈ u_ws RX5 TX5 16, w ∈ wsX3_pick := fun w h => List.mem_cons_of_mem _ (List.mem_append_left _ (List.mem_append_right _ h))
  have hi4 : ∀ w ∈ u_ws RX4 TX4 7, w ∈ wsX3_pick := fun w h => List.mem_cons_of_mem _ (List.mem_append_right _ h)
  subst hsz
  have hap := vF_ap hap0 s.heap.size
  have hS : va_S (vF ad s.heap.size) s.heap s.heap [] := va_S.rf
  have hP : va_P D vwCl (VW K ad I G A L) s.heap := hP
  have hl := lv_entry ([.ref (ad 14), .int a1]) (n := 4) (Nat.le_of_ble_eq_true rfl)
  rw [lg_entry_eq]
  generalize (lg_sl ([.ref (ad 14), .int a1]) ++ List.replicate (4 - (lg_sl ([.ref (ad 14), .int a1])).length) Slot.unset).toArray = ls at hl ⊢
  have hl : lv_has ls 4 [(0, .ref (ad 14)), (1, .int a1)] := hl
  rw [f_X3_pick] at h
  refine lv_aload_n hx hb dX3_pick_0 rfl (lv_at hl 0 rfl) ?_
  refine vgG hx hb hts hi3 hown hK hP (14) (by decide) (show kd 14 = 3 by decide) (C := RX3) (T := TX3) (N := 6) rfl 0 (by decide) (by decide) (by decide) (by decide) (hts (.fieldLink RX3 30 "CrateHelpers$Solving" "tree" "LCrateHelpers$Tree;") (by decide +kernel)) (fun _ h9 => h9) dX3_pick_1 ?_
  obtain ⟨hk1, h⟩ := gk h
  refine vgI hx hb hts hi5 hown hK hP (G 14 0) (s318 hk1.1) hk1.2 (C := RX5) (T := TX5) (N := 16) rfl 10 (by decide) (by decide) (by decide) (by decide) (hts (.fieldLink RX3 79 "CrateHelpers$Tree" "done" "I") (by decide +kernel)) (fun _ h9 => h9) dX3_pick_4 ?_
  refine lv_aload_n hx hb dX3_pick_7 rfl (lv_at hl 0 rfl) ?_
  refine vgG hx hb hts hi3 hown hK hP (14) (by decide) (show kd 14 = 3 by decide) (C := RX3) (T := TX3) (N := 6) rfl 0 (by decide) (by decide) (by decide) (by decide) (hts (.fieldLink RX3 30 "CrateHelpers$Solving" "tree" "LCrateHelpers$Tree;") (by decide +kernel)) (fun _ h9 => h9) dX3_pick_8 ?_
  refine vgI hx hb hts hi5 hown hK hP (G 14 0) (s318 hk1.1) hk1.2 (C := RX5) (T := TX5) (N := 16) rfl 11 (by decide) (by decide) (by decide) (by decide) (hts (.fieldLink RX3 81 "CrateHelpers$Tree" "taken" "I") (by decide +kernel)) (fun _ h9 => h9) dX3_pick_11 ?_
  refine lv_isub hx hb dX3_pick_14 ?_
  refine lv_bipush (v := 30) hx hb dX3_pick_15 (by decide) ?_
  obtain ⟨j3, ej3, h⟩ := bd_e h
  have kj3 : ∀ (z2 : Int32), j3 z2 = some A0 → ∀ (H : Heap) (locs : List Loc), va_P D vwCl (VW K ad I G A L) H → va_S (vF ad s.heap.size) s.heap H locs → ∀ (ls : Array Slot), lv_has ls 4 [(0, .ref (ad 14)), (1, .int a1)] → W p l e ({ frames := 1, cells := 0, slots := 0, locals := 26 }) s m ([.ref (ad 14), .int a1] : List Value).toArray below meth c H locs 0 0 (MQ below (va_Qv (fun (u : Mem) => u = (I, G, A0, L)) (vB D K ad) (vF ad s.heap.size)) ([.ref (ad 14), .int a1] : List Value).toArray s 0 0 (vF ad s.heap.size)) (F0 m 25 ls [.int z2]) := by
    intro z2 h H locs hP hS ls hl
    subst ej3
    refine lv_istore_n (lv' := [(2, .int z2), (0, .ref (ad 14)), (1, .int a1)]) hx hb dX3_pick_25 rfl hl (by decide) rfl (fun ls hl => ?_)
    refine lv_iload_n hx hb dX3_pick_26 rfl (lv_at hl 0 rfl) ?_
    obtain ⟨j7, ej7, h⟩ := bd_e h
    have kj7 : ∀ (z6 : Int32), j7 z6 = some A0 → ∀ (H : Heap) (locs : List Loc), va_P D vwCl (VW K ad I G A L) H → va_S (vF ad s.heap.size) s.heap H locs → ∀ (ls : Array Slot), lv_has ls 4 [(0, .ref (ad 14)), (1, .int a1)] → W p l e ({ frames := 1, cells := 0, slots := 0, locals := 26 }) s m ([.ref (ad 14), .int a1] : List Value).toArray below meth c H locs 0 0 (MQ below (va_Qv (fun (u : Mem) => u = (I, G, A0, L)) (vB D K ad) (vF ad s.heap.size)) ([.ref (ad 14), .int a1] : List Value).toArray s 0 0 (vF ad s.heap.size)) (F0 m 41 ls [.int z6]) := by
      intro z6 h H locs hP hS ls hl
      subst ej7
      refine lv_istore_n (lv' := [(3, .int z6), (0, .ref (ad 14)), (1, .int a1)]) hx hb dX3_pick_41 rfl hl (by decide) rfl (fun ls hl => ?_)
      refine lv_iload_n hx hb dX3_pick_42 rfl (lv_at hl 0 rfl) ?_
      refine lv_iconst (v := (-1)) hx hb dX3_pick_43 (by decide) ?_
      refine lv_icmp_ne (tgt := 61) hx hb dX3_pick_44 (by decide) (fun c_8 => ?_) (fun c_8 => ?_)
      · have h := iN c_8 h
        refine lv_aload_n hx hb dX3_pick_61 rfl (lv_at hl 1 rfl) ?_
        refine vgG hx hb hts hi3 hown hK hP (14) (by decide) (show kd 14 = 3 by decide) (C := RX3) (T := TX3) (N := 6) rfl 0 (by decide) (by decide) (by decide) (by decide) (hts (.fieldLink RX3 30 "CrateHelpers$Solving" "tree" "LCrateHelpers$Tree;") (by decide +kernel)) (fun _ h9 => h9) dX3_pick_62 ?_
        refine vgS hx hb hts hi5 hown hK hP (G 14 0) (s318 hk1.1) hk1.2 (C := RX5) (T := TX5) (N := 16) rfl 4 (by decide) (by decide) (by decide) (by decide) (G 14 0 + 5) rfl (hts (.fieldLink RX3 90 "CrateHelpers$Tree" "stage" "[B") (by decide +kernel)) (fun _ h9 => h9) dX3_pick_65 ?_
        refine lv_iload_n hx hb dX3_pick_68 rfl (lv_at hl 0 rfl) ?_
        refine lv_iconst (v := 1) hx hb dX3_pick_69 (by decide) ?_
        obtain ⟨hk9, h⟩ := gk h
        obtain ⟨hn10, h⟩ := gk h
        refine xbast hx hb hK hP hap hS (G 14 0 + 5) (s318 hk9.1) hk9.2 hn10 dX3_pick_70 (fun H locs hP hS => ?_)
        obtain ⟨A11, eA11, h⟩ := bd_e h
        rw [← eA11] at hP
        have hP : va_P D vwCl (VW K ad I G A11 L) H := hP
        refine lv_aload_n hx hb dX3_pick_71 rfl (lv_at hl 1 rfl) ?_
        refine vgS hx hb hts hi3 hown hK hP (14) (by decide) (show kd 14 = 3 by decide) (C := RX3) (T := TX3) (N := 6) rfl 4 (by decide) (by decide) (by decide) (by decide) (15) rfl (hts (.fieldLink RX3 18 "CrateHelpers$Solving" "holds" "[I") (by decide +kernel)) (fun _ h9 => h9) dX3_pick_72 ?_
        refine lv_iload_n hx hb dX3_pick_75 rfl (lv_at hl 2 rfl) ?_
        refine lv_iload_n hx hb dX3_pick_76 rfl (lv_at hl 0 rfl) ?_
        obtain ⟨hn12, h⟩ := gk h
        refine xiast hx hb hK hP hap hS (15) (by decide) (show kd 15 = 8 by decide) (by rw [show ln 15 = 5 by decide]; exact hn12) dX3_pick_77 (fun H locs hP hS => ?_)
        obtain ⟨A13, eA13, h⟩ := bd_e h
        rw [← eA13] at hP
        have hP : va_P D vwCl (VW K ad I G A13 L) H := hP
        refine lv_aload_n hx hb dX3_pick_78 rfl (lv_at hl 1 rfl) ?_
        refine vgS hx hb hts hi3 hown hK hP (14) (by decide) (show kd 14 = 3 by decide) (C := RX3) (T := TX3) (N := 6) rfl 5 (by decide) (by decide) (by decide) (by decide) (16) rfl (hts (.fieldLink RX3 22 "CrateHelpers$Solving" "had" "[I") (by decide +kernel)) (fun _ h9 => h9) dX3_pick_79 ?_
        refine lv_iload_n hx hb dX3_pick_82 rfl (lv_at hl 2 rfl) ?_
        refine lv_dup2_11 hx hb dX3_pick_83 rfl rfl ?_
        refine xiald hx hb hK hP (16) (by decide) (show kd 16 = 8 by decide) (by rw [show ln 16 = 5 by decide]; exact hn12) dX3_pick_84 ?_
        refine lv_iconst (v := 1) hx hb dX3_pick_85 (by decide) ?_
        refine lv_iadd hx hb dX3_pick_86 ?_
        refine xiast hx hb hK hP hap hS (16) (by decide) (show kd 16 = 8 by decide) (by rw [show ln 16 = 5 by decide]; exact hn12) dX3_pick_87 (fun H locs hP hS => ?_)
        obtain ⟨A14, eA14, h⟩ := bd_e h
        rw [← eA14] at hP
        have hP : va_P D vwCl (VW K ad I G A14 L) H := hP
        exact W.vret hx hb hr (fun t9 ht9 hW9 => ⟨⟨(I, G, A14, L), rfl, by cases h; rfl, by rw [ht9]; exact hP, va_K.moved hW9.alike hK⟩, hS.F ht9⟩) hS.2.2 dX3_pick_88
      · have h := ip c_8 h
        refine lv_aload_n hx hb dX3_pick_47 rfl (lv_at hl 1 rfl) ?_
        refine vgG hx hb hts hi3 hown hK hP (14) (by decide) (show kd 14 = 3 by decide) (C := RX3) (T := TX3) (N := 6) rfl 1 (by decide) (by decide) (by decide) (by decide) (hts (.fieldLink RX3 34 "CrateHelpers$Solving" "team" "LCrateHelpers$Team;") (by decide +kernel)) (fun _ h9 => h9) dX3_pick_48 ?_
        obtain ⟨hk15, h⟩ := gk h
        refine vgS hx hb hts hi4 hown hK hP (G 14 1) (s318 hk15.1) hk15.2 (C := RX4) (T := TX4) (N := 7) rfl 5 (by decide) (by decide) (by decide) (by decide) (G 14 1 + 4) rfl (hts (.fieldLink RX3 87 "CrateHelpers$Team" "idle" "[I") (by decide +kernel)) (fun _ h9 => h9) dX3_pick_51 ?_
        refine lv_iload_n hx hb dX3_pick_54 rfl (lv_at hl 2 rfl) ?_
        refine lv_dup2_11 hx hb dX3_pick_55 rfl rfl ?_
        obtain ⟨hk16, h⟩ := gk h
        obtain ⟨hn17, h⟩ := gk h
        refine xiald hx hb hK hP (G 14 1 + 4) (s318 hk16.1) hk16.2 hn17 dX3_pick_56 ?_
        refine lv_iconst (v := 1) hx hb dX3_pick_57 (by decide) ?_
        refine lv_iadd hx hb dX3_pick_58 ?_
        refine xiast hx hb hK hP hap hS (G 14 1 + 4) (s318 hk16.1) hk16.2 hn17 dX3_pick_59 (fun H locs hP hS => ?_)
        obtain ⟨A18, eA18, h⟩ := bd_e h
        rw [← eA18] at hP
        have hP : va_P D vwCl (VW K ad I G A18 L) H := hP
        exact W.vret hx hb hr (fun t9 ht9 hW9 => ⟨⟨(I, G, A18, L), rfl, by cases h; rfl, by rw [ht9]; exact hP, va_K.moved hW9.alike hK⟩, hS.F ht9⟩) hS.2.2 dX3_pick_60
    refine lv_if_eq (tgt := 34) hx hb dX3_pick_27 (by decide) (fun c_19 => ?_) (fun c_19 => ?_)
    · have h := ip c_19 h
      refine lv_aload_n hx hb dX3_pick_34 rfl (lv_at hl 1 rfl) ?_
      refine vgG hx hb hts hi3 hown hK hP (14) (by decide) (show kd 14 = 3 by decide) (C := RX3) (T := TX3) (N := 6) rfl 0 (by decide) (by decide) (by decide) (by decide) (hts (.fieldLink RX3 30 "CrateHelpers$Solving" "tree" "LCrateHelpers$Tree;") (by decide +kernel)) (fun _ h9 => h9) dX3_pick_35 ?_
      obtain ⟨r20, hc21, h⟩ := Option.bind_eq_some_iff.mp h
      refine ecV (As := []) (rest := []) ⟨hx, hb, hml, hown, hts⟩ (e_X5_nextFree l D K ad hap0 (G 14 0) I G A L r20 hc21) (cwV 0 hts gX3_pick_X5_nextFree rfl rfl rfl (by decide +kernel) ⟨Nat.le_of_ble_eq_true rfl, Nat.le_of_ble_eq_true rfl⟩) hK hP hS (s318 hk1.1) hk1.2 (by decide) rfl rfl rfl hl.1 (Nat.le_of_ble_eq_true rfl) (Nat.le_of_ble_eq_true rfl) (Nat.le_of_ble_eq_true rfl) dX3_pick_38 (fun H locs hP hS => ?_) rfl
      have hP : va_P D vwCl (VW K ad I G A L) H := hP
      exact kj7 r20 h _ _ hP hS ls (lv_sub hl [1, 2] rfl)
    · have h := iN c_19 h
      refine lv_iconst (v := (-1)) hx hb dX3_pick_30 (by decide) ?_
      refine lv_goto (tgt := 41) hx hb dX3_pick_31 (by decide) ?_
      exact kj7 (-1) h _ _ hP hS ls (lv_sub hl [1, 2] rfl)
  refine lv_icmp_lt (tgt := 24) hx hb dX3_pick_17 (by decide) (fun c_22 => ?_) (fun c_22 => ?_)
  · have h := ip c_22 h
    refine lv_iconst (v := 0) hx hb dX3_pick_24 (by decide) ?_
    exact kj3 0 h _ _ hP hS ls (lv_sub hl [0, 1] rfl)
  · have h := iN c_22 h
    refine lv_iconst (v := 1) hx hb dX3_pick_20 (by decide) ?_
    refine lv_goto (tgt := 25) hx hb dX3_pick_21 (by decide) ?_
    exact kj3 1 h _ _ hP hS ls (lv_sub hl [0, 1] rfl)
set_option maxHeartbeats 4000000 in
set_option maxRecDepth 100000 in
theorem e_X3_replace (l : Launch) (D : va_G) (K : Nat → ClassId) (ad : Nat → Nat) (hap0 : apart ad (fun _ => True)) (a1 : Int32) (I : Nat → Nat → Int32) (G : Nat → Nat → Nat) (A : Nat → Nat → Int32) (L : Nat → Nat → Int64) (A0 : Nat → Nat → Int32) (h : f_X3_replace G A a1 = some A0) : Cv l D K ad yX3_replace wsX3_replace 0 0 [.ref (ad 14), .int a1] (I, G, A, L) (fun (u : Mem) => u = (I, G, A0, L)) := by
  intro sz
  refine Met.ofW (cc := cX3_replace) (maxL := 2) (ret := none) (by decide) rfl ?_
  intro p e s m args below meth c s₁ Bd hml hv0
  obtain ⟨rfl, hsz, hP, hK⟩ := hv0
  have hx := Bd.exec
  have hb := Bd.bytes
  have hr := Bd.returns
  have hts := atoms_spec (ws := wsX3_replace) Bd.pre
  have hown : s.vm.findClass RX3 = some m.cls := findClass_of_methodNamed Bd.named
  have hlocks := Bd.notSynchronized
  have hi3 : ∀ w ∈ u_ws RX3 TX3 6, w ∈ wsX3_replace := fun w h => List.mem_cons_of_mem _ (List.mem_append_left _ (List.mem_append_left _ (List.mem_append_right _ h)))
  have hi5 : ∀ w ∈ u_ws RX5 TX5 16, w ∈ wsX3_replace := fun w h => List.mem_cons_of_mem _ (List.mem_append_left _ (List.mem_append_right _ h))
  have hi4 : ∀ w ∈ u_ws RX4 TX4 7, w ∈ wsX3_replace := fun w h => List.mem_cons_of_mem _ (List.mem_append_right _ h)
  subst hsz
  have hap := vF_ap hap0 s.heap.size
  have hS : va_S (vF ad s.heap.size) s.heap s.heap [] := va_S.rf
  have hP : va_P D vwCl (VW K ad I G A L) s.heap := hP
  have hl := lv_entry ([.ref (ad 14), .int a1]) (n := 2) (Nat.le_of_ble_eq_true rfl)
  rw [lg_entry_eq]
  generalize (lg_sl ([.ref (ad 14), .int a1]) ++ List.replicate (2 - (lg_sl ([.ref (ad 14), .int a1])).length) Slot.unset).toArray = ls at hl ⊢
  have hl : lv_has ls 2 [(0, .ref (ad 14)), (1, .int a1)] := hl
  rw [f_X3_replace] at h
  refine lv_aload_n hx hb dX3_replace_0 rfl (lv_at hl 0 rfl) ?_
  refine vgG hx hb hts hi3 hown hK hP (14) (by decide) (show kd 14 = 3 by decide) (C := RX3) (T := TX3) (N := 6) rfl 0 (by decide) (by decide) (by decide) (by decide) (hts (.fieldLink RX3 30 "CrateHelpers$Solving" "tree" "LCrateHelpers$Tree;") (by decide +kernel)) (fun _ h9 => h9) dX3_replace_1 ?_
  obtain ⟨hk1, h⟩ := gk h
  refine vgS hx hb hts hi5 hown hK hP (G 14 0) (s318 hk1.1) hk1.2 (C := RX5) (T := TX5) (N := 16) rfl 4 (by decide) (by decide) (by decide) (by decide) (G 14 0 + 5) rfl (hts (.fieldLink RX3 90 "CrateHelpers$Tree" "stage" "[B") (by decide +kernel)) (fun _ h9 => h9) dX3_replace_4 ?_
  refine lv_aload_n hx hb dX3_replace_7 rfl (lv_at hl 0 rfl) ?_
  refine vgS hx hb hts hi3 hown hK hP (14) (by decide) (show kd 14 = 3 by decide) (C := RX3) (T := TX3) (N := 6) rfl 4 (by decide) (by decide) (by decide) (by decide) (15) rfl (hts (.fieldLink RX3 18 "CrateHelpers$Solving" "holds" "[I") (by decide +kernel)) (fun _ h9 => h9) dX3_replace_8 ?_
  refine lv_iload_n hx hb dX3_replace_11 rfl (lv_at hl 1 rfl) ?_
  obtain ⟨hn2, h⟩ := gk h
  refine xiald hx hb hK hP (15) (by decide) (show kd 15 = 8 by decide) (by rw [show ln 15 = 5 by decide]; exact hn2) dX3_replace_12 ?_
  refine lv_iconst (v := 0) hx hb dX3_replace_13 (by decide) ?_
  obtain ⟨hk3, h⟩ := gk h
  obtain ⟨hn4, h⟩ := gk h
  refine xbast hx hb hK hP hap hS (G 14 0 + 5) (s318 hk3.1) hk3.2 hn4 dX3_replace_14 (fun H locs hP hS => ?_)
  obtain ⟨A5, eA5, h⟩ := bd_e h
  rw [← eA5] at hP
  have hP : va_P D vwCl (VW K ad I G A5 L) H := hP
  refine lv_aload_n hx hb dX3_replace_15 rfl (lv_at hl 0 rfl) ?_
  refine vgS hx hb hts hi3 hown hK hP (14) (by decide) (show kd 14 = 3 by decide) (C := RX3) (T := TX3) (N := 6) rfl 4 (by decide) (by decide) (by decide) (by decide) (15) rfl (hts (.fieldLink RX3 18 "CrateHelpers$Solving" "holds" "[I") (by decide +kernel)) (fun _ h9 => h9) dX3_replace_16 ?_
  refine lv_iload_n hx hb dX3_replace_19 rfl (lv_at hl 1 rfl) ?_
  refine lv_iconst (v := (-1)) hx hb dX3_replace_20 (by decide) ?_
  refine xiast hx hb hK hP hap hS (15) (by decide) (show kd 15 = 8 by decide) (by rw [show ln 15 = 5 by decide]; exact hn2) dX3_replace_21 (fun H locs hP hS => ?_)
  obtain ⟨A6, eA6, h⟩ := bd_e h
  rw [← eA6] at hP
  have hP : va_P D vwCl (VW K ad I G A6 L) H := hP
  refine lv_aload_n hx hb dX3_replace_22 rfl (lv_at hl 0 rfl) ?_
  refine vgG hx hb hts hi3 hown hK hP (14) (by decide) (show kd 14 = 3 by decide) (C := RX3) (T := TX3) (N := 6) rfl 1 (by decide) (by decide) (by decide) (by decide) (hts (.fieldLink RX3 34 "CrateHelpers$Solving" "team" "LCrateHelpers$Team;") (by decide +kernel)) (fun _ h9 => h9) dX3_replace_23 ?_
  obtain ⟨hk7, h⟩ := gk h
  refine vgS hx hb hts hi4 hown hK hP (G 14 1) (s318 hk7.1) hk7.2 (C := RX4) (T := TX4) (N := 7) rfl 6 (by decide) (by decide) (by decide) (by decide) (G 14 1 + 5) rfl (hts (.fieldLink RX3 93 "CrateHelpers$Team" "replaced" "[I") (by decide +kernel)) (fun _ h9 => h9) dX3_replace_26 ?_
  refine lv_iload_n hx hb dX3_replace_29 rfl (lv_at hl 1 rfl) ?_
  refine lv_dup2_11 hx hb dX3_replace_30 rfl rfl ?_
  obtain ⟨hk8, h⟩ := gk h
  obtain ⟨hn9, h⟩ := gk h
  refine xiald hx hb hK hP (G 14 1 + 5) (s318 hk8.1) hk8.2 hn9 dX3_replace_31 ?_
  refine lv_iconst (v := 1) hx hb dX3_replace_32 (by decide) ?_
  refine lv_iadd hx hb dX3_replace_33 ?_
  refine xiast hx hb hK hP hap hS (G 14 1 + 5) (s318 hk8.1) hk8.2 hn9 dX3_replace_34 (fun H locs hP hS => ?_)
  obtain ⟨A10, eA10, h⟩ := bd_e h
  rw [← eA10] at hP
  have hP : va_P D vwCl (VW K ad I G A10 L) H := hP
  exact W.vret hx hb hr (fun t9 ht9 hW9 => ⟨⟨(I, G, A10, L), rfl, by cases h; rfl, by rw [ht9]; exact hP, va_K.moved hW9.alike hK⟩, hS.F ht9⟩) hS.2.2 dX3_replace_35

/-! part 53.c04 -/
set_option maxHeartbeats 4000000 in
set_option maxRecDepth 100000 in
theorem e_X5_isFull (l : Launch) (D : va_G) (K : Nat → ClassId) (ad : Nat → Nat) (hap0 : apart ad (fun _ => True)) (o : Nat) (a1 : Int32) (I : Nat → Nat → Int32) (G : Nat → Nat → Nat) (A : Nat → Nat → Int32) (L : Nat → Nat → Int64) (r0 : Int32) (h : f_X5_isFull I G A o a1 = some r0) : Ci l D K ad yX5_isFull wsX5_isFull 0 0 [.ref (ad o), .int a1] (I, G, A, L) (fun (r : Int32) (u : Mem) => r = r0 ∧ u = (I, G, A, L)) := by
  intro sz
  refine Met.ofW (cc := cX5_isFull) (maxL := 2) (ret := (some .boolean)) (by decide) rfl ?_
  intro p e s m args below meth c s₁ Bd hml hv0
  obtain ⟨rfl, hsz, hP, hK⟩ := hv0
  have hx := Bd.exec
  have hb := Bd.bytes
  have hr := Bd.returns
  have hts := atoms_spec (ws := wsX5_isFull) Bd.pre
  have hown : s.vm.findClass RX5 = some m.cls := findClass_of_methodNamed Bd.named
  have hlocks := Bd.notSynchronized
  have hi5 : ∀ w ∈ u_ws RX5 TX5 16, w ∈ wsX5_isFull := fun w h => List.mem_cons_of_mem _ (List.mem_append_left _ (List.mem_append_right _ h))
  have hi1 : ∀ w ∈ u_ws RX1 TX1 9, w ∈ wsX5_isFull := fun w h => List.mem_cons_of_mem _ (List.mem_append_right _ h)
  subst hsz
  have hap := vF_ap hap0 s.heap.size
  have hS : va_S (vF ad s.heap.size) s.heap s.heap [] := va_S.rf
  have hP : va_P D vwCl (VW K ad I G A L) s.heap := hP
  have hl := lv_entry ([.ref (ad o), .int a1]) (n := 2) (Nat.le_of_ble_eq_true rfl)
  rw [lg_entry_eq]
  generalize (lg_sl ([.ref (ad o), .int a1]) ++ List.replicate (2 - (lg_sl ([.ref (ad o), .int a1])).length) Slot.unset).toArray = ls at hl ⊢
  have hl : lv_has ls 2 [(0, .ref (ad o)), (1, .int a1)] := hl
  rw [f_X5_isFull] at h
  refine lv_aload_n hx hb dX5_isFull_0 rfl (lv_at hl 0 rfl) ?_
  obtain ⟨hk1, h⟩ := gk h
  refine vgS hx hb hts hi5 hown hK hP (o) (s318 hk1.1) hk1.2 (C := RX5) (T := TX5) (N := 16) rfl 1 (by decide) (by decide) (by decide) (by decide) (o + 2) rfl (hts (.fieldLink RX5 53 "CrateHelpers$Tree" "depth" "[B") (by decide +kernel)) (fun _ h9 => h9) dX5_isFull_1 ?_
  refine lv_iload_n hx hb dX5_isFull_4 rfl (lv_at hl 1 rfl) ?_
  obtain ⟨hk2, h⟩ := gk h
  obtain ⟨hn3, h⟩ := gk h
  refine xbald hx hb hK hP (o + 2) (s318 hk2.1) hk2.2 hn3 dX5_isFull_5 ?_
  refine lv_aload_n hx hb dX5_isFull_6 rfl (lv_at hl 0 rfl) ?_
  refine vgG hx hb hts hi5 hown hK hP (o) (s318 hk1.1) hk1.2 (C := RX5) (T := TX5) (N := 16) rfl 14 (by decide) (by decide) (by decide) (by decide) (hts (.fieldLink RX5 45 "CrateHelpers$Tree" "problem" "LCrateHelpers$Problem;") (by decide +kernel)) (fun _ h9 => h9) dX5_isFull_7 ?_
  obtain ⟨hk4, h⟩ := gk h
  refine vgI hx hb hts hi1 hown hK hP (G o 14) (s318 hk4.1) hk4.2 (C := RX1) (T := TX1) (N := 9) rfl 0 (by decide) (by decide) (by decide) (by decide) (hts (.fieldLink RX5 120 "CrateHelpers$Problem" "variables" "I") (by decide +kernel)) (fun _ h9 => h9) dX5_isFull_10 ?_
  refine lv_icmp_lt (tgt := 20) hx hb dX5_isFull_13 (by decide) (fun c_5 => ?_) (fun c_5 => ?_)
  · have h := ip c_5 h
    refine lv_iconst (v := 0) hx hb dX5_isFull_20 (by decide) ?_
    exact W.zret (v := 0) hx hb hr (by decide) (fun t9 ht9 hW9 => ⟨⟨0, (I, G, A, L), rfl, by cases h; exact ⟨rfl, rfl⟩, by rw [ht9]; exact hP, va_K.moved hW9.alike hK⟩, hS.F ht9⟩) hS.2.2 dX5_isFull_21
  · have h := iN c_5 h
    refine lv_iconst (v := 1) hx hb dX5_isFull_16 (by decide) ?_
    refine lv_goto (tgt := 21) hx hb dX5_isFull_17 (by decide) ?_
    exact W.zret (v := 1) hx hb hr (by decide) (fun t9 ht9 hW9 => ⟨⟨1, (I, G, A, L), rfl, by cases h; exact ⟨rfl, rfl⟩, by rw [ht9]; exact hP, va_K.moved hW9.alike hK⟩, hS.F ht9⟩) hS.2.2 dX5_isFull_21
set_option maxHeartbeats 4000000 in
set_option maxRecDepth 100000 in
theorem e_X3_walkOn (l : Launch) (D : va_G) (K : Nat → ClassId) (ad : Nat → Nat) (hap0 : apart ad (fun _ => True)) (I : Nat → Nat → Int32) (G : Nat → Nat → Nat) (A : Nat → Nat → Int32) (L : Nat → Nat → Int64) (r0 : Int32) (I0 : Nat → Nat → Int32) (A0 : Nat → Nat → Int32) (h : f_X3_walkOn I G A L = some (r0, I0, A0)) : Ci l D K ad yX3_walkOn wsX3_walkOn 2 66 [.ref (ad 14)] (I, G, A, L) (fun (r : Int32) (u : Mem) => r = r0 ∧ u = (I0, G, A0, L)) := by
  intro sz
  refine Met.ofW (cc := cX3_walkOn) (maxL := 3) (ret := (some .int)) (by decide) rfl ?_
  intro p e s m args below meth c s₁ Bd hml hv0
  obtain ⟨rfl, hsz, hP, hK⟩ := hv0
  have hx := Bd.exec
  have hb := Bd.bytes
  have hr := Bd.returns
  have hts := atoms_spec (ws := wsX3_walkOn) Bd.pre
  have hown : s.vm.findClass RX3 = some m.cls := findClass_of_methodNamed Bd.named
  have hlocks := Bd.notSynchronized
  have hi3 : ∀ w ∈ u_ws RX3 TX3 6, w ∈ wsX3_walkOn := fun w h => List.mem_cons_of_mem _ (List.mem_append_left _ (List.mem_append_left _ (List.mem_append_right _ h)))
  have hi5 : ∀ w ∈ u_ws RX5 TX5 16, w ∈ wsX3_walkOn := fun w h => List.mem_cons_of_mem _ (List.mem_append_left _ (List.mem_append_right _ h))
  have hi1 : ∀ w ∈ u_ws RX1 TX1 9, w ∈ wsX3_walkOn := fun w h => List.mem_cons_of_mem _ (List.mem_append_right _ h)
  subst hsz
  have hap := vF_ap hap0 s.heap.size
  have hS : va_S (vF ad s.heap.size) s.heap s.heap [] := va_S.rf
  have hP : va_P D vwCl (VW K ad I G A L) s.heap := hP
  have hl := lv_entry ([.ref (ad 14)]) (n := 3) (Nat.le_of_ble_eq_true rfl)
  rw [lg_entry_eq]
  generalize (lg_sl ([.ref (ad 14)]) ++ List.replicate (3 - (lg_sl ([.ref (ad 14)])).length) Slot.unset).toArray = ls at hl ⊢
  have hl : lv_has ls 3 [(0, .ref (ad 14))] := hl
  rw [f_X3_walkOn] at h
  refine lv_iconst (v := 0) hx hb dX3_walkOn_0 (by decide) ?_
  refine lv_istore_n (lv' := [(1, .int 0), (0, .ref (ad 14))]) hx hb dX3_walkOn_1 rfl hl (by decide) rfl (fun ls hl => ?_)
  obtain ⟨k5, ek5, h⟩ := bd_e h
  have kk5 : ∀ (I6 : Nat → Nat → Int32) (A7 : Nat → Nat → Int32), k5 I6 A7 = some (r0, I0, A0) → ∀ (H : Heap) (locs : List Loc), va_P D vwCl (VW K ad I6 G A7 L) H → va_S (vF ad s.heap.size) s.heap H locs → ∀ (ls : Array Slot), lv_has ls 3 [] → W p l e ({ frames := 2, cells := 0, slots := 0, locals := 66 }) s m ([.ref (ad 14)] : List Value).toArray below meth c H locs 0 0 (MQ below (va_Qi (fun (r : Int32) (u : Mem) => r = r0 ∧ u = (I0, G, A0, L)) (vB D K ad) (vF ad s.heap.size)) ([.ref (ad 14)] : List Value).toArray s 0 0 (vF ad s.heap.size)) (F0 m 22 ls []) := by
    intro I6 A7 h H locs hP hS ls hl
    subst ek5
    refine lv_iconst (v := 2) hx hb dX3_walkOn_22 (by decide) ?_
    exact W.iret (v := 2) hx hb hr (fun t9 ht9 hW9 => ⟨⟨2, (I6, G, A7, L), rfl, by cases h; exact ⟨rfl, rfl⟩, by rw [ht9]; exact hP, va_K.moved hW9.alike hK⟩, hS.F ht9⟩) hS.2.2 dX3_walkOn_23
  obtain ⟨k8, ek8, h⟩ := bd_e h
  have kk8 : ∀ (I9 : Nat → Nat → Int32) (A10 : Nat → Nat → Int32), k8 I9 A10 = some (r0, I0, A0) → ∀ (H : Heap) (locs : List Loc), va_P D vwCl (VW K ad I9 G A10 L) H → va_S (vF ad s.heap.size) s.heap H locs → ∀ (ls : Array Slot), lv_has ls 3 [] → W p l e ({ frames := 2, cells := 0, slots := 0, locals := 66 }) s m ([.ref (ad 14)] : List Value).toArray below meth c H locs 0 0 (MQ below (va_Qi (fun (r : Int32) (u : Mem) => r = r0 ∧ u = (I0, G, A0, L)) (vB D K ad) (vF ad s.heap.size)) ([.ref (ad 14)] : List Value).toArray s 0 0 (vF ad s.heap.size)) (F0 m 37 ls []) := by
    intro I9 A10 h H locs hP hS ls hl
    subst ek8
    refine lv_iconst (v := 0) hx hb dX3_walkOn_37 (by decide) ?_
    exact W.iret (v := 0) hx hb hr (fun t9 ht9 hW9 => ⟨⟨0, (I9, G, A10, L), rfl, by cases h; exact ⟨rfl, rfl⟩, by rw [ht9]; exact hP, va_K.moved hW9.alike hK⟩, hS.F ht9⟩) hS.2.2 dX3_walkOn_38
  obtain ⟨k11, ek11, h⟩ := bd_e h
  have kk11 : ∀ (I12 : Nat → Nat → Int32) (A13 : Nat → Nat → Int32), k11 I12 A13 = some (r0, I0, A0) → ∀ (H : Heap) (locs : List Loc), va_P D vwCl (VW K ad I12 G A13 L) H → va_S (vF ad s.heap.size) s.heap H locs → ∀ (ls : Array Slot), lv_has ls 3 [] → W p l e ({ frames := 2, cells := 0, slots := 0, locals := 66 }) s m ([.ref (ad 14)] : List Value).toArray below meth c H locs 0 0 (MQ below (va_Qi (fun (r : Int32) (u : Mem) => r = r0 ∧ u = (I0, G, A0, L)) (vB D K ad) (vF ad s.heap.size)) ([.ref (ad 14)] : List Value).toArray s 0 0 (vF ad s.heap.size)) (F0 m 58 ls []) := by
    intro I12 A13 h H locs hP hS ls hl
    subst ek11
    refine lv_iconst (v := 1) hx hb dX3_walkOn_58 (by decide) ?_
    exact W.iret (v := 1) hx hb hr (fun t9 ht9 hW9 => ⟨⟨1, (I12, G, A13, L), rfl, by cases h; exact ⟨rfl, rfl⟩, by rw [ht9]; exact hP, va_K.moved hW9.alike hK⟩, hS.F ht9⟩) hS.2.2 dX3_walkOn_59
  obtain ⟨k14, ek14, h⟩ := bd_e h
  have kk14 : ∀ (I15 : Nat → Nat → Int32) (A16 : Nat → Nat → Int32), k14 I15 A16 = some (r0, I0, A0) → ∀ (H : Heap) (locs : List Loc), va_P D vwCl (VW K ad I15 G A16 L) H → va_S (vF ad s.heap.size) s.heap H locs → ∀ (ls : Array Slot), lv_has ls 3 [] → W p l e ({ frames := 2, cells := 0, slots := 0, locals := 66 }) s m ([.ref (ad 14)] : List Value).toArray below meth c H locs 0 0 (MQ below (va_Qi (fun (r : Int32) (u : Mem) => r = r0 ∧ u = (I0, G, A0, L)) (vB D K ad) (vF ad s.heap.size)) ([.ref (ad 14)] : List Value).toArray s 0 0 (vF ad s.heap.size)) (F0 m 73 ls []) := by
    intro I15 A16 h H locs hP hS ls hl
    subst ek14
    refine lv_iconst (v := 4) hx hb dX3_walkOn_73 (by decide) ?_
    exact W.iret (v := 4) hx hb hr (fun t9 ht9 hW9 => ⟨⟨4, (I15, G, A16, L), rfl, by cases h; exact ⟨rfl, rfl⟩, by rw [ht9]; exact hP, va_K.moved hW9.alike hK⟩, hS.F ht9⟩) hS.2.2 dX3_walkOn_74
  obtain ⟨k17, ek17, h⟩ := bd_e h
  have kk17 : ∀ (I18 : Nat → Nat → Int32) (A19 : Nat → Nat → Int32), k17 I18 A19 = some (r0, I0, A0) → ∀ (H : Heap) (locs : List Loc), va_P D vwCl (VW K ad I18 G A19 L) H → va_S (vF ad s.heap.size) s.heap H locs → ∀ (ls : Array Slot), lv_has ls 3 [] → W p l e ({ frames := 2, cells := 0, slots := 0, locals := 66 }) s m ([.ref (ad 14)] : List Value).toArray below meth c H locs 0 0 (MQ below (va_Qi (fun (r : Int32) (u : Mem) => r = r0 ∧ u = (I0, G, A0, L)) (vB D K ad) (vF ad s.heap.size)) ([.ref (ad 14)] : List Value).toArray s 0 0 (vF ad s.heap.size)) (F0 m 89 ls []) := by
    intro I18 A19 h H locs hP hS ls hl
    subst ek17
    refine lv_iconst (v := 3) hx hb dX3_walkOn_89 (by decide) ?_
    exact W.iret (v := 3) hx hb hr (fun t9 ht9 hW9 => ⟨⟨3, (I18, G, A19, L), rfl, by cases h; exact ⟨rfl, rfl⟩, by rw [ht9]; exact hP, va_K.moved hW9.alike hK⟩, hS.F ht9⟩) hS.2.2 dX3_walkOn_90
  obtain ⟨k20, ek20, h⟩ := bd_e h
  have kk20 : ∀ (I21 : Nat → Nat → Int32) (A22 : Nat → Nat → Int32), k20 I21 A22 = some (r0, I0, A0) → ∀ (H : Heap) (locs : List Loc), va_P D vwCl (VW K ad I21 G A22 L) H → va_S (vF ad s.heap.size) s.heap H locs → ∀ (ls : Array Slot), lv_has ls 3 [] → W p l e ({ frames := 2, cells := 0, slots := 0, locals := 66 }) s m ([.ref (ad 14)] : List Value).toArray below meth c H locs 0 0 (MQ below (va_Qi (fun (r : Int32) (u : Mem) => r = r0 ∧ u = (I0, G, A0, L)) (vB D K ad) (vF ad s.heap.size)) ([.ref (ad 14)] : List Value).toArray s 0 0 (vF ad s.heap.size)) (F0 m 97 ls []) := by
    intro I21 A22 h H locs hP hS ls hl
    subst ek20
    refine lv_iconst (v := 0) hx hb dX3_walkOn_97 (by decide) ?_
    exact W.iret (v := 0) hx hb hr (fun t9 ht9 hW9 => ⟨⟨0, (I21, G, A22, L), rfl, by cases h; exact ⟨rfl, rfl⟩, by rw [ht9]; exact hP, va_K.moved hW9.alike hK⟩, hS.F ht9⟩) hS.2.2 dX3_walkOn_98
  have lp1 : ∀ (n : Nat) (v2 : Int32) (I3 : Nat → Nat → Int32) (A4 : Nat → Nat → Int32), f_X3_walkOn_L2 G L k5 k8 k11 k14 k17 k20 n v2 I3 A4 = some (r0, I0, A0) → ∀ (H : Heap) (locs : List Loc), va_P D vwCl (VW K ad I3 G A4 L) H → va_S (vF ad s.heap.size) s.heap H locs → ∀ (ls : Array Slot), lv_has ls 3 [(1, .int v2), (0, .ref (ad 14))] → W p l e ({ frames := 2, cells := 0, slots := 0, locals := 66 }) s m ([.ref (ad 14)] : List Value).toArray below meth c H locs 0 0 (MQ below (va_Qi (fun (r : Int32) (u : Mem) => r = r0 ∧ u = (I0, G, A0, L)) (vB D K ad) (vF ad s.heap.size)) ([.ref (ad 14)] : List Value).toArray s 0 0 (vF ad s.heap.size)) (F0 m 2 ls []) := by
    intro n
    induction n with
    | zero => intro v2 I3 A4 h; exact absurd h (by rw [f_X3_walkOn_L2]; exact nofun)
    | succ n ih1 =>
      intro v2 I3 A4 h H locs hP hS ls hl
      rw [f_X3_walkOn_L2] at h
      refine lv_iload_n hx hb dX3_walkOn_2 rfl (lv_at hl 0 rfl) ?_
      refine lv_sipush (v := 250) hx hb dX3_walkOn_3 (by decide) ?_
      refine lv_icmp_ge (tgt := 97) hx hb dX3_walkOn_6 (by decide) (fun c_23 => ?_) (fun c_23 => ?_)
      · have h := iN (Int32.not_lt.mpr c_23) h
        exact kk20 I3 A4 h _ _ hP hS ls (lv_sub hl [] rfl)
      · have h := ip (Int32.not_le.mp c_23) h
        refine lv_aload_n hx hb dX3_walkOn_9 rfl (lv_at hl 1 rfl) ?_
        refine vgG hx hb hts hi3 hown hK hP (14) (by decide) (show kd 14 = 3 by decide) (C := RX3) (T := TX3) (N := 6) rfl 0 (by decide) (by decide) (by decide) (by decide) (hts (.fieldLink RX3 30 "CrateHelpers$Solving" "tree" "LCrateHelpers$Tree;") (by decide +kernel)) (fun _ h9 => h9) dX3_walkOn_10 ?_
        obtain ⟨hk24, h⟩ := gk h
        obtain ⟨r25, hc26, h⟩ := Option.bind_eq_some_iff.mp h
        refine ecV (As := []) (rest := []) ⟨hx, hb, hml, hown, hts⟩ (e_X5_nextOfWalk l D K ad hap0 (G 14 0) I3 G A4 L r25 hc26) (cwV 0 hts gX3_walkOn_X5_nextOfWalk rfl rfl rfl (by decide +kernel) ⟨Nat.le_of_ble_eq_true rfl, Nat.le_of_ble_eq_true rfl⟩) hK hP hS (s318 hk24.1) hk24.2 (by decide) rfl rfl rfl hl.1 (Nat.le_of_ble_eq_true rfl) (Nat.le_of_ble_eq_true rfl) (Nat.le_of_ble_eq_true rfl) dX3_walkOn_13 (fun H locs hP hS => ?_) rfl
        have hP : va_P D vwCl (VW K ad I3 G A4 L) H := hP
        refine lv_istore_n (lv' := [(2, .int r25), (1, .int v2), (0, .ref (ad 14))]) hx hb dX3_walkOn_16 rfl hl (by decide) rfl (fun ls hl => ?_)
        refine lv_iload_n hx hb dX3_walkOn_17 rfl (lv_at hl 0 rfl) ?_
        refine lv_iconst (v := (-1)) hx hb dX3_walkOn_18 (by decide) ?_
        refine lv_icmp_ne (tgt := 24) hx hb dX3_walkOn_19 (by decide) (fun c_27 => ?_) (fun c_27 => ?_)
        · have h := iN c_27 h
          refine lv_aload_n hx hb dX3_walkOn_24 rfl (lv_at hl 2 rfl) ?_
          refine vgG hx hb hts hi3 hown hK hP (14) (by decide) (show kd 14 = 3 by decide) (C := RX3) (T := TX3) (N := 6) rfl 0 (by decide) (by decide) (by decide) (by decide) (hts (.fieldLink RX3 30 "CrateHelpers$Solving" "tree" "LCrateHelpers$Tree;") (by decide +kernel)) (fun _ h9 => h9) dX3_walkOn_25 ?_
          refine vgS hx hb hts hi5 hown hK hP (G 14 0) (s318 hk24.1) hk24.2 (C := RX5) (T := TX5) (N := 16) rfl 4 (by decide) (by decide) (by decide) (by decide) (G 14 0 + 5) rfl (hts (.fieldLink RX3 90 "CrateHelpers$Tree" "stage" "[B") (by decide +kernel)) (fun _ h9 => h9) dX3_walkOn_28 ?_
          refine lv_iload_n hx hb dX3_walkOn_31 rfl (lv_at hl 0 rfl) ?_
          obtain ⟨hk28, h⟩ := gk h
          obtain ⟨hn29, h⟩ := gk h
          refine xbald hx hb hK hP (G 14 0 + 5) (s318 hk28.1) hk28.2 hn29 dX3_walkOn_32 ?_
          refine lv_iconst (v := 2) hx hb dX3_walkOn_33 (by decide) ?_
          refine lv_icmp_eq (tgt := 39) hx hb dX3_walkOn_34 (by decide) (fun c_30 => ?_) (fun c_30 => ?_)
          · have h := ip c_30 h
            refine lv_aload_n hx hb dX3_walkOn_39 rfl (lv_at hl 2 rfl) ?_
            refine vgG hx hb hts hi3 hown hK hP (14) (by decide) (show kd 14 = 3 by decide) (C := RX3) (T := TX3) (N := 6) rfl 0 (by decide) (by decide) (by decide) (by decide) (hts (.fieldLink RX3 30 "CrateHelpers$Solving" "tree" "LCrateHelpers$Tree;") (by decide +kernel)) (fun _ h9 => h9) dX3_walkOn_40 ?_
            refine lv_iload_n hx hb dX3_walkOn_43 rfl (lv_at hl 0 rfl) ?_
            obtain ⟨⟨I31, A32⟩, hc33, h⟩ := Option.bind_eq_some_iff.mp h
            refine ecVv (As := [.int r25]) (rest := []) ⟨hx, hb, hml, hown, hts⟩ (e_X5_take l D K ad hap0 (G 14 0) r25 I3 G A4 L I31 A32 hc33) (cwV 1 hts gX3_walkOn_X5_take rfl rfl rfl (by decide +kernel) ⟨Nat.le_of_ble_eq_true rfl, Nat.le_of_ble_eq_true rfl⟩) hK hP hS (s318 hk24.1) hk24.2 (by decide) rfl rfl rfl hl.1 (Nat.le_of_ble_eq_true rfl) (Nat.le_of_ble_eq_true rfl) (Nat.le_of_ble_eq_true rfl) dX3_walkOn_44 (fun H locs hP hS => ?_) rfl
            have hP : va_P D vwCl (VW K ad I31 G A32 L) H := hP
            refine lv_aload_n hx hb dX3_walkOn_47 rfl (lv_at hl 2 rfl) ?_
            refine vgG hx hb hts hi3 hown hK hP (14) (by decide) (show kd 14 = 3 by decide) (C := RX3) (T := TX3) (N := 6) rfl 0 (by decide) (by decide) (by decide) (by decide) (hts (.fieldLink RX3 30 "CrateHelpers$Solving" "tree" "LCrateHelpers$Tree;") (by decide +kernel)) (fun _ h9 => h9) dX3_walkOn_48 ?_
            refine lv_iload_n hx hb dX3_walkOn_51 rfl (lv_at hl 0 rfl) ?_
            obtain ⟨r34, hc35, h⟩ := Option.bind_eq_some_iff.mp h
            refine ecV (As := [.int r25]) (rest := []) ⟨hx, hb, hml, hown, hts⟩ (e_X5_isFull l D K ad hap0 (G 14 0) r25 I31 G A32 L r34 hc35) (cwV 1 hts gX3_walkOn_X5_isFull rfl rfl rfl (by decide +kernel) ⟨Nat.le_of_ble_eq_true rfl, Nat.le_of_ble_eq_true rfl⟩) hK hP hS (s318 hk24.1) hk24.2 (by decide) rfl rfl rfl hl.1 (Nat.le_of_ble_eq_true rfl) (Nat.le_of_ble_eq_true rfl) (Nat.le_of_ble_eq_true rfl) dX3_walkOn_52 (fun H locs hP hS => ?_) rfl
            have hP : va_P D vwCl (VW K ad I31 G A32 L) H := hP
            refine lv_if_eq (tgt := 60) hx hb dX3_walkOn_55 (by decide) (fun c_36 => ?_) (fun c_36 => ?_)
            · have h := ip c_36 h
              refine lv_aload_n hx hb dX3_walkOn_60 rfl (lv_at hl 2 rfl) ?_
              refine vgG hx hb hts hi3 hown hK hP (14) (by decide) (show kd 14 = 3 by decide) (C := RX3) (T := TX3) (N := 6) rfl 0 (by decide) (by decide) (by decide) (by decide) (hts (.fieldLink RX3 30 "CrateHelpers$Solving" "tree" "LCrateHelpers$Tree;") (by decide +kernel)) (fun _ h9 => h9) dX3_walkOn_61 ?_
              refine vgI hx hb hts hi5 hown hK hP (G 14 0) (s318 hk24.1) hk24.2 (C := RX5) (T := TX5) (N := 16) rfl 11 (by decide) (by decide) (by decide) (by decide) (hts (.fieldLink RX3 81 "CrateHelpers$Tree" "taken" "I") (by decide +kernel)) (fun _ h9 => h9) dX3_walkOn_64 ?_
              refine lv_sipush (v := 250) hx hb dX3_walkOn_67 (by decide) ?_
              refine lv_icmp_lt (tgt := 75) hx hb dX3_walkOn_70 (by decide) (fun c_37 => ?_) (fun c_37 => ?_)
              · have h := ip c_37 h
                refine lv_aload_n hx hb dX3_walkOn_75 rfl (lv_at hl 2 rfl) ?_
                refine vgG hx hb hts hi3 hown hK hP (14) (by decide) (show kd 14 = 3 by decide) (C := RX3) (T := TX3) (N := 6) rfl 0 (by decide) (by decide) (by decide) (by decide) (hts (.fieldLink RX3 30 "CrateHelpers$Solving" "tree" "LCrateHelpers$Tree;") (by decide +kernel)) (fun _ h9 => h9) dX3_walkOn_76 ?_
                refine vgI hx hb hts hi5 hown hK hP (G 14 0) (s318 hk24.1) hk24.2 (C := RX5) (T := TX5) (N := 16) rfl 11 (by decide) (by decide) (by decide) (by decide) (hts (.fieldLink RX3 81 "CrateHelpers$Tree" "taken" "I") (by decide +kernel)) (fun _ h9 => h9) dX3_walkOn_79 ?_
                refine lv_aload_n hx hb dX3_walkOn_82 rfl (lv_at hl 2 rfl) ?_
                refine vgI hx hb hts hi3 hown hK hP (14) (by decide) (show kd 14 = 3 by decide) (C := RX3) (T := TX3) (N := 6) rfl 2 (by decide) (by decide) (by decide) (by decide) (hts (.fieldLink RX3 9 "CrateHelpers$Solving" "limit" "I") (by decide +kernel)) (fun _ h9 => h9) dX3_walkOn_83 ?_
                refine lv_icmp_ne (tgt := 91) hx hb dX3_walkOn_86 (by decide) (fun c_38 => ?_) (fun c_38 => ?_)
                · have h := iN c_38 h
                  refine lv_iinc (v := (v2 + 1)) (lv' := [(1, .int (v2 + 1)), (2, .int r25), (0, .ref (ad 14))]) hx hb dX3_walkOn_91 hl (k := 1) rfl rfl (by decide) rfl (fun ls hl => ?_)
                  refine lv_goto (tgt := 2) hx hb dX3_walkOn_94 (by decide) ?_
                  exact ih1 (v2 + 1) I31 A32 h _ _ hP hS ls (lv_sub hl [0, 2] rfl)
                · have h := ip c_38 h
                  exact kk17 I31 A32 h _ _ hP hS ls (lv_sub hl [] rfl)
              · have h := iN c_37 h
                exact kk14 I31 A32 h _ _ hP hS ls (lv_sub hl [] rfl)
            · have h := iN c_36 h
              exact kk11 I31 A32 h _ _ hP hS ls (lv_sub hl [] rfl)
          · have h := iN c_30 h
            exact kk8 I3 A4 h _ _ hP hS ls (lv_sub hl [] rfl)
        · have h := ip c_27 h
          exact kk5 I3 A4 h _ _ hP hS ls (lv_sub hl [] rfl)
  exact lp1 FU 0 I A h _ _ hP hS ls (lv_sub hl [0, 1] rfl)
set_option maxHeartbeats 4000000 in
set_option maxRecDepth 100000 in
theorem e_X5_shiftOf (l : Launch) (D : va_G) (K : Nat → ClassId) (ad : Nat → Nat) (hap0 : apart ad (fun _ => True)) (a0 : Int32) (I : Nat → Nat → Int32) (G : Nat → Nat → Nat) (A : Nat → Nat → Int32) (L : Nat → Nat → Int64) (r0 : Int32) (h : f_X5_shiftOf a0 = some r0) : Ci l D K ad yX5_shiftOf wsX5_shiftOf 0 0 [.int a0] (I, G, A, L) (fun (r : Int32) (u : Mem) => r = r0 ∧ u = (I, G, A, L)) := by
  intro sz
  refine Met.ofW (cc := cX5_shiftOf) (maxL := 1) (ret := (some .int)) (by decide) rfl ?_
  intro p e s m args below meth c s₁ Bd hml hv0
  obtain ⟨rfl, hsz, hP, hK⟩ := hv0
  have hx := Bd.exec
  have hb := Bd.bytes
  have hr := Bd.returns
  have hts := atoms_spec (ws := wsX5_shiftOf) Bd.pre
  have hown : s.vm.findClass RX5 = some m.cls := findClass_of_methodNamed Bd.named
  have hlocks := Bd.notSynchronized
  subst hsz
  have hap := vF_ap hap0 s.heap.size
  have hS : va_S (vF ad s.heap.size) s.heap s.heap [] := va_S.rf
  have hP : va_P D vwCl (VW K ad I G A L) s.heap := hP
  have hl := lv_entry ([.int a0]) (n := 1) (Nat.le_of_ble_eq_true rfl)
  rw [lg_entry_eq]
  generalize (lg_sl ([.int a0]) ++ List.replicate (1 - (lg_sl ([.int a0])).length) Slot.unset).toArray = ls at hl ⊢
  have hl : lv_has ls 1 [(0, .int a0)] := hl
  rw [f_X5_shiftOf] at h
  refine lv_iconst (v := 3) hx hb dX5_shiftOf_0 (by decide) ?_
  refine lv_iconst (v := 5) hx hb dX5_shiftOf_1 (by decide) ?_
  refine lv_iload_n hx hb dX5_shiftOf_2 rfl (lv_at hl 0 rfl) ?_
  refine lv_isub hx hb dX5_shiftOf_3 ?_
  refine lv_imul hx hb dX5_shiftOf_4 ?_
  exact W.iret (v := (3 * (5 - a0))) hx hb hr (fun t9 ht9 hW9 => ⟨⟨(3 * (5 - a0)), (I, G, A, L), rfl, by cases h; exact ⟨rfl, rfl⟩, by rw [ht9]; exact hP, va_K.moved hW9.alike hK⟩, hS.F ht9⟩) hS.2.2 dX5_shiftOf_5
set_option maxHeartbeats 4000000 in
set_option maxRecDepth 100000 in
theorem e_X5_finish (l : Launch) (D : va_G) (K : Nat → ClassId) (ad : Nat → Nat) (hap0 : apart ad (fun _ => True)) (o : Nat) (a1 : Int32) (a2 : Int32) (I : Nat → Nat → Int32) (G : Nat → Nat → Nat) (A : Nat → Nat → Int32) (L : Nat → Nat → Int64) (I0 : Nat → Nat → Int32) (A0 : Nat → Nat → Int32) (L0 : Nat → Nat → Int64) (h : f_X5_finish I G A L o a1 a2 = some (I0, A0, L0)) : Cv l D K ad yX5_finish wsX5_finish 5 182 [.ref (ad o), .int a1, .int a2] (I, G, A, L) (fun (u : Mem) => u = (I0, G, A0, L0)) := by
  intro sz
  refine Met.ofW (cc := cX5_finish) (maxL := 7) (ret := none) (by decide) rfl ?_
  intro p e s m args below meth c s₁ Bd hml hv0
  obtain ⟨rfl, hsz, hP, hK⟩ := hv0
  have hx := Bd.exec
  have hb := Bd.bytes
  have hr := Bd.returns
  have hts := atoms_spec (ws := wsX5_finish) Bd.pre
  have hown : s.vm.findClass RX5 = some m.cls := findClass_of_methodNamed Bd.named
  have hlocks := Bd.notSynchronized
  have hi5 : ∀ w ∈ u_ws RX5 TX5 16, w ∈ wsX5_finish := fun w h => List.mem_cons_of_mem _ (List.mem_append_left _ (List.mem_append_left _ (List.mem_append_left _ (List.mem_append_right _ h))))
  have hi1 : ∀ w ∈ u_ws RX1 TX1 9, w ∈ wsX5_finish := fun w h => List.mem_cons_of_mem _ (List.mem_append_left _ (List.mem_append_left _ (List.mem_append_right _ h)))
  have hi0 : ∀ w ∈ u_ws RX0 TX0 3, w ∈ wsX5_finish := fun w h => List.mem_cons_of_mem _ (List.mem_append_left _ (List.mem_append_right _ h))
  have hi2 : ∀ w ∈ u_ws RX2 TX2 7, w ∈ wsX5_finish := fun w h => List.mem_cons_of_mem _ (List.mem_append_right _ h)
  subst hsz
  have hap := vF_ap hap0 s.heap.size
  have hS : va_S (vF ad s.heap.size) s.heap s.heap [] := va_S.rf
  have hP : va_P D vwCl (VW K ad I G A L) s.heap := hP
  have hl := lv_entry ([.ref (ad o), .int a1, .int a2]) (n := 7) (Nat.le_of_ble_eq_true rfl)
  rw [lg_entry_eq]
  generalize (lg_sl ([.ref (ad o), .int a1, .int a2]) ++ List.replicate (7 - (lg_sl ([.ref (ad o), .int a1, .int a2])).length) Slot.unset).toArray = ls at hl ⊢
  have hl : lv_has ls 7 [(0, .ref (ad o)), (1, .int a1), (2, .int a2)] := hl
  rw [f_X5_finish] at h
  refine lv_aload_n hx hb dX5_finish_0 rfl (lv_at hl 0 rfl) ?_
  obtain ⟨hk1, h⟩ := gk h
  refine vgS hx hb hts hi5 hown hK hP (o) (s318 hk1.1) hk1.2 (C := RX5) (T := TX5) (N := 16) rfl 4 (by decide) (by decide) (by decide) (by decide) (o + 5) rfl (hts (.fieldLink RX5 63 "CrateHelpers$Tree" "stage" "[B") (by decide +kernel)) (fun _ h9 => h9) dX5_finish_1 ?_
  refine lv_iload_n hx hb dX5_finish_4 rfl (lv_at hl 1 rfl) ?_
  refine lv_iconst (v := 2) hx hb dX5_finish_5 (by decide) ?_
  obtain ⟨hk2, h⟩ := gk h
  obtain ⟨hn3, h⟩ := gk h
  refine xbast hx hb hK hP hap hS (o + 5) (s318 hk2.1) hk2.2 hn3 dX5_finish_6 (fun H locs hP hS => ?_)
  obtain ⟨A4, eA4, h⟩ := bd_e h
  rw [← eA4] at hP
  have hP : va_P D vwCl (VW K ad I G A4 L) H := hP
  refine lv_aload_n hx hb dX5_finish_7 rfl (lv_at hl 0 rfl) ?_
  refine vgS hx hb hts hi5 hown hK hP (o) (s318 hk1.1) hk1.2 (C := RX5) (T := TX5) (N := 16) rfl 5 (by decide) (by decide) (by decide) (by decide) (o + 6) rfl (hts (.fieldLink RX5 66 "CrateHelpers$Tree" "doneBy" "[B") (by decide +kernel)) (fun _ h9 => h9) dX5_finish_8 ?_
  refine lv_iload_n hx hb dX5_finish_11 rfl (lv_at hl 1 rfl) ?_
  refine lv_iload_n hx hb dX5_finish_12 rfl (lv_at hl 2 rfl) ?_
  refine lv_i2b hx hb dX5_finish_13 rfl ?_
  obtain ⟨hk5, h⟩ := gk h
  obtain ⟨hn6, h⟩ := gk h
  refine xbast hx hb hK hP hap hS (o + 6) (s318 hk5.1) hk5.2 hn6 dX5_finish_14 (fun H locs hP hS => ?_)
  obtain ⟨A7, eA7, h⟩ := bd_e h
  rw [← eA7] at hP
  have hP : va_P D vwCl (VW K ad I G A7 L) H := hP
  refine lv_aload_n hx hb dX5_finish_15 rfl (lv_at hl 0 rfl) ?_
  refine lv_dup hx hb dX5_finish_16 rfl ?_
  refine vgI hx hb hts hi5 hown hK hP (o) (s318 hk1.1) hk1.2 (C := RX5) (T := TX5) (N := 16) rfl 10 (by decide) (by decide) (by decide) (by decide) (hts (.fieldLink RX5 19 "CrateHelpers$Tree" "done" "I") (by decide +kernel)) (fun _ h9 => h9) dX5_finish_17 ?_
  refine lv_iconst (v := 1) hx hb dX5_finish_20 (by decide) ?_
  refine lv_iadd hx hb dX5_finish_21 ?_
  refine vpI (v := ((I o 10) + 1)) (ty := .int) hx hb hts hi5 tyX5 tyX5_ok nmX5 hown hK hP hap hS (o) (s318 hk1.1) hk1.2 (C := RX5) (T := TX5) (N := 16) rfl 10 (by decide) (by decide) (by decide) (by decide) (hts (.fieldLink RX5 19 "CrateHelpers$Tree" "done" "I") (by decide +kernel)) (fun _ h9 => h9) rfl (by decide +kernel) rfl rfl dX5_finish_22 (fun H locs hP hS => ?_)
  obtain ⟨I8, eI8, h⟩ := bd_e h
  rw [← eI8] at hP
  have hP : va_P D vwCl (VW K ad I8 G A7 L) H := hP
  refine lv_aload_n hx hb dX5_finish_25 rfl (lv_at hl 0 rfl) ?_
  refine lv_iload_n hx hb dX5_finish_26 rfl (lv_at hl 1 rfl) ?_
  obtain ⟨r9, hc10, h⟩ := Option.bind_eq_some_iff.mp h
  refine ecV (As := [.int a1]) (rest := []) ⟨hx, hb, hml, hown, hts⟩ (e_X5_isFull l D K ad hap0 o a1 I8 G A7 L r9 hc10) (cwV 1 hts gX5_finish_X5_isFull rfl rfl rfl (by decide +kernel) ⟨Nat.le_of_ble_eq_true rfl, Nat.le_of_ble_eq_true rfl⟩) hK hP hS (s318 hk1.1) hk1.2 (by decide) rfl rfl rfl hl.1 (Nat.le_of_ble_eq_true rfl) (Nat.le_of_ble_eq_true rfl) (Nat.le_of_ble_eq_true rfl) dX5_finish_27 (fun H locs hP hS => ?_) rfl
  have hP : va_P D vwCl (VW K ad I8 G A7 L) H := hP
  refine lv_if_eq (tgt := 34) hx hb dX5_finish_30 (by decide) (fun c_11 => ?_) (fun c_11 => ?_)
  · have h := ip c_11 h
    refine lv_aload_n hx hb dX5_finish_34 rfl (lv_at hl 0 rfl) ?_
    refine vgS hx hb hts hi5 hown hK hP (o) (s318 hk1.1) hk1.2 (C := RX5) (T := TX5) (N := 16) rfl 1 (by decide) (by decide) (by decide) (by decide) (o + 2) rfl (hts (.fieldLink RX5 53 "CrateHelpers$Tree" "depth" "[B") (by decide +kernel)) (fun _ h9 => h9) dX5_finish_35 ?_
    refine lv_iload_n hx hb dX5_finish_38 rfl (lv_at hl 1 rfl) ?_
    obtain ⟨hk12, h⟩ := gk h
    obtain ⟨hn13, h⟩ := gk h
    refine xbald hx hb hK hP (o + 2) (s318 hk12.1) hk12.2 hn13 dX5_finish_39 ?_
    refine lv_istore_n (lv' := [(3, .int (A7 (o + 2) a1.toNatClampNeg)), (0, .ref (ad o)), (1, .int a1), (2, .int a2)]) hx hb dX5_finish_40 rfl hl (by decide) rfl (fun ls hl => ?_)
    refine lv_aload_n hx hb dX5_finish_41 rfl (lv_at hl 1 rfl) ?_
    refine vgS hx hb hts hi5 hown hK hP (o) (s318 hk1.1) hk1.2 (C := RX5) (T := TX5) (N := 16) rfl 0 (by decide) (by decide) (by decide) (by decide) (o + 1) rfl (hts (.fieldLink RX5 49 "CrateHelpers$Tree" "place" "[J") (by decide +kernel)) (fun _ h9 => h9) dX5_finish_42 ?_
    refine lv_iload_n hx hb dX5_finish_45 rfl (lv_at hl 2 rfl) ?_
    obtain ⟨hk14, h⟩ := gk h
    obtain ⟨hn15, h⟩ := gk h
    refine xlald hx hb hK hP (o + 1) (s318 hk14.1) hk14.2 hn15 dX5_finish_46 ?_
    refine lv_ldc2 (v := 262143) hx hb hown (hts (.constantLong RX5 102 (262143)) (by decide +kernel)) dX5_finish_47 ?_
    refine lv_land hx hb dX5_finish_50 ?_
    refine lv_lstore (lv' := [(4, .long ((L (o + 1) a1.toNatClampNeg) &&& 262143)), (3, .int (A7 (o + 2) a1.toNatClampNeg)), (0, .ref (ad o)), (1, .int a1), (2, .int a2)]) hx hb dX5_finish_51 hl (by decide) rfl (fun ls hl => ?_)
    refine lv_aload_n hx hb dX5_finish_53 rfl (lv_at hl 2 rfl) ?_
    refine vgS hx hb hts hi5 hown hK hP (o) (s318 hk1.1) hk1.2 (C := RX5) (T := TX5) (N := 16) rfl 12 (by decide) (by decide) (by decide) (by decide) (o + 10) rfl (hts (.fieldLink RX5 25 "CrateHelpers$Tree" "values" "[I") (by decide +kernel)) (fun _ h9 => h9) dX5_finish_54 ?_
    refine lv_iconst (v := (-1)) hx hb dX5_finish_57 (by decide) ?_
    obtain ⟨A16, hc17, h⟩ := Option.bind_eq_some_iff.mp h
    refine ecSv (As := [.ref (ad (o + 10)), .int (-1)]) (rest := []) ⟨hx, hb, hml, hown, hts⟩ (e_J7_fill_53178 l D K ad hap0 (o + 10) (-1) I8 G A7 L A16 hc17) (va_cwS 2 hts gX5_finish_J7_fill_53178 rfl rfl rfl (by decide +kernel) ⟨Nat.le_of_ble_eq_true rfl, Nat.le_of_ble_eq_true rfl⟩) hK hP hS rfl hl.1 (Nat.le_of_ble_eq_true rfl) (Nat.le_of_ble_eq_true rfl) (Nat.le_of_ble_eq_true rfl) dX5_finish_58 (fun H locs hP hS => ?_) rfl
    have hP : va_P D vwCl (VW K ad I8 G A16 L) H := hP
    refine lv_aload_n hx hb dX5_finish_61 rfl (lv_at hl 2 rfl) ?_
    refine lv_iload_n hx hb dX5_finish_62 rfl (lv_at hl 3 rfl) ?_
    refine lv_aload_n hx hb dX5_finish_63 rfl (lv_at hl 2 rfl) ?_
    refine vgS hx hb hts hi5 hown hK hP (o) (s318 hk1.1) hk1.2 (C := RX5) (T := TX5) (N := 16) rfl 12 (by decide) (by decide) (by decide) (by decide) (o + 10) rfl (hts (.fieldLink RX5 25 "CrateHelpers$Tree" "values" "[I") (by decide +kernel)) (fun _ h9 => h9) dX5_finish_64 ?_
    refine lv_iconst (v := 0) hx hb dX5_finish_67 (by decide) ?_
    obtain ⟨A18, hc19, h⟩ := Option.bind_eq_some_iff.mp h
    refine ecVv (As := [.int a1, .ref (ad (o + 10)), .int 0]) (rest := []) ⟨hx, hb, hml, hown, hts⟩ (e_X5_copyValues l D K ad hap0 o a1 (o + 10) 0 I8 G A16 L A18 hc19) (cwV 3 hts gX5_finish_X5_copyValues rfl rfl rfl (by decide +kernel) ⟨Nat.le_of_ble_eq_true rfl, Nat.le_of_ble_eq_true rfl⟩) hK hP hS (s318 hk1.1) hk1.2 (by decide) rfl rfl rfl hl.1 (Nat.le_of_ble_eq_true rfl) (Nat.le_of_ble_eq_true rfl) (Nat.le_of_ble_eq_true rfl) dX5_finish_68 (fun H locs hP hS => ?_) rfl
    have hP : va_P D vwCl (VW K ad I8 G A18 L) H := hP
    refine lv_aload_n hx hb dX5_finish_71 rfl (lv_at hl 2 rfl) ?_
    refine vgS hx hb hts hi5 hown hK hP (o) (s318 hk1.1) hk1.2 (C := RX5) (T := TX5) (N := 16) rfl 6 (by decide) (by decide) (by decide) (by decide) (o + 7) rfl (hts (.fieldLink RX5 69 "CrateHelpers$Tree" "firstBelow" "[S") (by decide +kernel)) (fun _ h9 => h9) dX5_finish_72 ?_
    refine lv_iload_n hx hb dX5_finish_75 rfl (lv_at hl 3 rfl) ?_
    refine lv_aload_n hx hb dX5_finish_76 rfl (lv_at hl 2 rfl) ?_
    refine vgI hx hb hts hi5 hown hK hP (o) (s318 hk1.1) hk1.2 (C := RX5) (T := TX5) (N := 16) rfl 9 (by decide) (by decide) (by decide) (by decide) (hts (.fieldLink RX5 15 "CrateHelpers$Tree" "known" "I") (by decide +kernel)) (fun _ h9 => h9) dX5_finish_77 ?_
    refine lv_i2s hx hb dX5_finish_80 rfl ?_
    obtain ⟨hk20, h⟩ := gk h
    obtain ⟨hn21, h⟩ := gk h
    refine xsast hx hb hK hP hap hS (o + 7) (s318 hk20.1) hk20.2 hn21 dX5_finish_81 (fun H locs hP hS => ?_)
    obtain ⟨A22, eA22, h⟩ := bd_e h
    rw [← eA22] at hP
    have hP : va_P D vwCl (VW K ad I8 G A22 L) H := hP
    refine lv_iconst (v := 0) hx hb dX5_finish_82 (by decide) ?_
    refine lv_istore (lv' := [(6, .int 0), (4, .long ((L (o + 1) a1.toNatClampNeg) &&& 262143)), (3, .int (A7 (o + 2) a1.toNatClampNeg)), (0, .ref (ad o)), (1, .int a1), (2, .int a2)]) hx hb dX5_finish_83 hl (by decide) rfl (fun ls hl => ?_)
    obtain ⟨k30, ek30, h⟩ := bd_e h
    have kk30 : ∀ (I31 : Nat → Nat → Int32) (A32 : Nat → Nat → Int32) (L33 : Nat → Nat → Int64), k30 I31 A32 L33 = some (I0, A0, L0) → ∀ (H : Heap) (locs : List Loc), va_P D vwCl (VW K ad I31 G A32 L33) H → va_S (vF ad s.heap.size) s.heap H locs → ∀ (ls : Array Slot), lv_has ls 7 [] → W p l e ({ frames := 5, cells := 0, slots := 0, locals := 182 }) s m ([.ref (ad o), .int a1, .int a2] : List Value).toArray below meth c H locs 0 0 (MQ below (va_Qv (fun (u : Mem) => u = (I0, G, A0, L0)) (vB D K ad) (vF ad s.heap.size)) ([.ref (ad o), .int a1, .int a2] : List Value).toArray s 0 0 (vF ad s.heap.size)) (F0 m 167 ls []) := by
      intro I31 A32 L33 h H locs hP hS ls hl
      subst ek30
      exact W.vret hx hb hr (fun t9 ht9 hW9 => ⟨⟨(I31, G, A32, L33), rfl, by cases h; rfl, by rw [ht9]; exact hP, va_K.moved hW9.alike hK⟩, hS.F ht9⟩) hS.2.2 dX5_finish_167
    have lp23 : ∀ (n : Nat) (v24 : Int32) (v25 : Int64) (v26 : Int32) (I27 : Nat → Nat → Int32) (A28 : Nat → Nat → Int32) (L29 : Nat → Nat → Int64), f_X5_finish_L85 o G k30 n v24 v25 v26 I27 A28 L29 = some (I0, A0, L0) → ∀ (H : Heap) (locs : List Loc), va_P D vwCl (VW K ad I27 G A28 L29) H → va_S (vF ad s.heap.size) s.heap H locs → ∀ (ls : Array Slot), lv_has ls 7 [(6, .int v24), (4, .long v25), (3, .int v26), (0, .ref (ad o))] → W p l e ({ frames := 5, cells := 0, slots := 0, locals := 182 }) s m ([.ref (ad o), .int a1, .int a2] : List Value).toArray below meth c H locs 0 0 (MQ below (va_Qv (fun (u : Mem) => u = (I0, G, A0, L0)) (vB D K ad) (vF ad s.heap.size)) ([.ref (ad o), .int a1, .int a2] : List Value).toArray s 0 0 (vF ad s.heap.size)) (F0 m 85 ls []) := by
      intro n
      induction n with
      | zero => intro v24 v25 v26 I27 A28 L29 h; exact absurd h (by rw [f_X5_finish_L85]; exact nofun)
      | succ n ih23 =>
        intro v24 v25 v26 I27 A28 L29 h H locs hP hS ls hl
        rw [f_X5_finish_L85] at h
        refine lv_iload hx hb dX5_finish_85 (lv_at hl 0 rfl) ?_
        refine lv_aload_n hx hb dX5_finish_87 rfl (lv_at hl 3 rfl) ?_
        refine vgG hx hb hts hi5 hown hK hP (o) (s318 hk1.1) hk1.2 (C := RX5) (T := TX5) (N := 16) rfl 14 (by decide) (by decide) (by decide) (by decide) (hts (.fieldLink RX5 45 "CrateHelpers$Tree" "problem" "LCrateHelpers$Problem;") (by decide +kernel)) (fun _ h9 => h9) dX5_finish_88 ?_
        obtain ⟨hk34, h⟩ := gk h
        refine vgS hx hb hts hi1 hown hK hP (G o 14) (s318 hk34.1) hk34.2 (C := RX1) (T := TX1) (N := 9) rfl 4 (by decide) (by decide) (by decide) (by decide) (G o 14 + 1) rfl (hts (.fieldLink RX5 108 "CrateHelpers$Problem" "sizes" "[I") (by decide +kernel)) (fun _ h9 => h9) dX5_finish_91 ?_
        refine lv_iload_n hx hb dX5_finish_94 rfl (lv_at hl 2 rfl) ?_
        obtain ⟨hk35, h⟩ := gk h
        obtain ⟨hn36, h⟩ := gk h
        refine xiald hx hb hK hP (G o 14 + 1) (s318 hk35.1) hk35.2 hn36 dX5_finish_95 ?_
        refine lv_icmp_ge (tgt := 167) hx hb dX5_finish_96 (by decide) (fun c_37 => ?_) (fun c_37 => ?_)
        · have h := iN (Int32.not_lt.mpr c_37) h
          exact kk30 I27 A28 L29 h _ _ hP hS ls (lv_sub hl [] rfl)
        · have h := ip (Int32.not_le.mp c_37) h
          refine lv_aload_n hx hb dX5_finish_99 rfl (lv_at hl 3 rfl) ?_
          refine vgI hx hb hts hi5 hown hK hP (o) (s318 hk1.1) hk1.2 (C := RX5) (T := TX5) (N := 16) rfl 9 (by decide) (by decide) (by decide) (by decide) (hts (.fieldLink RX5 15 "CrateHelpers$Tree" "known" "I") (by decide +kernel)) (fun _ h9 => h9) dX5_finish_100 ?_
          refine lv_aload_n hx hb dX5_finish_103 rfl (lv_at hl 3 rfl) ?_
          refine vgS hx hb hts hi5 hown hK hP (o) (s318 hk1.1) hk1.2 (C := RX5) (T := TX5) (N := 16) rfl 0 (by decide) (by decide) (by decide) (by decide) (o + 1) rfl (hts (.fieldLink RX5 49 "CrateHelpers$Tree" "place" "[J") (by decide +kernel)) (fun _ h9 => h9) dX5_finish_104 ?_
          refine vlenL hx hb hK hP (o + 1) (s318 hk14.1) hk14.2 dX5_finish_107 ?_
          refine lv_icmp_ge (tgt := 167) hx hb dX5_finish_108 (by decide) (fun c_38 => ?_) (fun c_38 => ?_)
          · have h := iN (Int32.not_lt.mpr c_38) h
            exact kk30 I27 A28 L29 h _ _ hP hS ls (lv_sub hl [] rfl)
          · have h := ip (Int32.not_le.mp c_38) h
            refine lv_aload_n hx hb dX5_finish_111 rfl (lv_at hl 3 rfl) ?_
            refine vgS hx hb hts hi5 hown hK hP (o) (s318 hk1.1) hk1.2 (C := RX5) (T := TX5) (N := 16) rfl 12 (by decide) (by decide) (by decide) (by decide) (o + 10) rfl (hts (.fieldLink RX5 25 "CrateHelpers$Tree" "values" "[I") (by decide +kernel)) (fun _ h9 => h9) dX5_finish_112 ?_
            refine lv_iload_n hx hb dX5_finish_115 rfl (lv_at hl 2 rfl) ?_
            refine lv_iload hx hb dX5_finish_116 (lv_at hl 0 rfl) ?_
            obtain ⟨hk39, h⟩ := gk h
            obtain ⟨hn40, h⟩ := gk h
            refine xiast hx hb hK hP hap hS (o + 10) (s318 hk39.1) hk39.2 hn40 dX5_finish_118 (fun H locs hP hS => ?_)
            obtain ⟨A41, eA41, h⟩ := bd_e h
            rw [← eA41] at hP
            have hP : va_P D vwCl (VW K ad I27 G A41 L29) H := hP
            refine lv_aload_n hx hb dX5_finish_119 rfl (lv_at hl 3 rfl) ?_
            refine vgS hx hb hts hi5 hown hK hP (o) (s318 hk1.1) hk1.2 (C := RX5) (T := TX5) (N := 16) rfl 13 (by decide) (by decide) (by decide) (by decide) (o + 11) rfl (hts (.fieldLink RX5 31 "CrateHelpers$Tree" "judge" "LCrateHelpers$Judge;") (by decide +kernel)) (fun _ h9 => h9) dX5_finish_120 ?_
            refine lv_aload_n hx hb dX5_finish_123 rfl (lv_at hl 3 rfl) ?_
            refine vgG hx hb hts hi5 hown hK hP (o) (s318 hk1.1) hk1.2 (C := RX5) (T := TX5) (N := 16) rfl 14 (by decide) (by decide) (by decide) (by decide) (hts (.fieldLink RX5 45 "CrateHelpers$Tree" "problem" "LCrateHelpers$Problem;") (by decide +kernel)) (fun _ h9 => h9) dX5_finish_124 ?_
            refine lv_aload_n hx hb dX5_finish_127 rfl (lv_at hl 3 rfl) ?_
            refine vgS hx hb hts hi5 hown hK hP (o) (s318 hk1.1) hk1.2 (C := RX5) (T := TX5) (N := 16) rfl 12 (by decide) (by decide) (by decide) (by decide) (o + 10) rfl (hts (.fieldLink RX5 25 "CrateHelpers$Tree" "values" "[I") (by decide +kernel)) (fun _ h9 => h9) dX5_finish_128 ?_
            refine lv_iload_n hx hb dX5_finish_131 rfl (lv_at hl 2 rfl) ?_
            refine lv_iconst (v := 1) hx hb dX5_finish_132 (by decide) ?_
            refine lv_iadd hx hb dX5_finish_133 ?_
            refine lv_aload_n hx hb dX5_finish_134 rfl (lv_at hl 3 rfl) ?_
            refine vgI hx hb hts hi5 hown hK hP (o) (s318 hk1.1) hk1.2 (C := RX5) (T := TX5) (N := 16) rfl 15 (by decide) (by decide) (by decide) (by decide) (hts (.fieldLink RX5 35 "CrateHelpers$Tree" "mindsTwins" "Z") (by decide +kernel)) (fun _ h9 => h9) dX5_finish_135 ?_
            obtain ⟨hk42, h⟩ := gk h
            obtain ⟨I43, hc44, h⟩ := Option.bind_eq_some_iff.mp h
            refine ecVv (As := [.ref (ad (G o 14)), .ref (ad (o + 10)), .int (v26 + 1), .int (I27 o 15)]) (rest := []) ⟨hx, hb, hml, hown, hts⟩ (e_X0_look l D K ad hap0 (o + 11) (G o 14) (o + 10) (v26 + 1) (I27 o 15) I27 G A41 L29 I43 hc44) (cwV 4 hts gX5_finish_X0_look rfl rfl rfl (by decide +kernel) ⟨Nat.le_of_ble_eq_true rfl, Nat.le_of_ble_eq_true rfl⟩) hK hP hS (s318 hk42.1) hk42.2 (by decide) rfl rfl rfl hl.1 (Nat.le_of_ble_eq_true rfl) (Nat.le_of_ble_eq_true rfl) (Nat.le_of_ble_eq_true rfl) dX5_finish_138 (fun H locs hP hS => ?_) rfl
            have hP : va_P D vwCl (VW K ad I43 G A41 L29) H := hP
            refine lv_aload_n hx hb dX5_finish_141 rfl (lv_at hl 3 rfl) ?_
            refine lv_iload_n hx hb dX5_finish_142 rfl (lv_at hl 2 rfl) ?_
            refine lv_iconst (v := 1) hx hb dX5_finish_143 (by decide) ?_
            refine lv_iadd hx hb dX5_finish_144 ?_
            refine lv_lload hx hb dX5_finish_145 (lv_at hl 1 rfl) ?_
            refine lv_iload hx hb dX5_finish_147 (lv_at hl 0 rfl) ?_
            refine lv_iconst (v := 1) hx hb dX5_finish_149 (by decide) ?_
            refine lv_iadd hx hb dX5_finish_150 ?_
            refine lv_i2l hx hb dX5_finish_151 rfl ?_
            refine lv_iload_n hx hb dX5_finish_152 rfl (lv_at hl 2 rfl) ?_
            obtain ⟨r45, hc46, h⟩ := Option.bind_eq_some_iff.mp h
            refine ecS (As := [.int v26]) (rest := [.long ((v24 + 1).toInt64), .long v25, .int (v26 + 1), .ref (ad o)]) ⟨hx, hb, hml, hown, hts⟩ (e_X5_shiftOf l D K ad hap0 v26 I43 G A41 L29 r45 hc46) (va_cwS 1 hts gX5_finish_X5_shiftOf rfl rfl rfl (by decide +kernel) ⟨Nat.le_of_ble_eq_true rfl, Nat.le_of_ble_eq_true rfl⟩) hK hP hS rfl hl.1 (Nat.le_of_ble_eq_true rfl) (Nat.le_of_ble_eq_true rfl) (Nat.le_of_ble_eq_true rfl) dX5_finish_153 (fun H locs hP hS => ?_) rfl
            have hP : va_P D vwCl (VW K ad I43 G A41 L29) H := hP
            refine lv_lshl hx hb dX5_finish_156 rfl ?_
            refine lv_lor hx hb dX5_finish_157 ?_
            obtain ⟨⟨I47, A48, L49⟩, hc50, h⟩ := Option.bind_eq_some_iff.mp h
            refine ecVv (As := [.int (v26 + 1), .long (v25 ||| (((v24 + 1).toInt64) <<< (r45.toInt64 &&& 63)))]) (rest := []) ⟨hx, hb, hml, hown, hts⟩ (e_X5_addJudged l D K ad hap0 o (v26 + 1) (v25 ||| (((v24 + 1).toInt64) <<< (r45.toInt64 &&& 63))) I43 G A41 L29 I47 A48 L49 hc50) (cwV 2 hts gX5_finish_X5_addJudged rfl rfl rfl (by decide +kernel) ⟨Nat.le_of_ble_eq_true rfl, Nat.le_of_ble_eq_true rfl⟩) hK hP hS (s318 hk1.1) hk1.2 (by decide) rfl rfl rfl hl.1 (Nat.le_of_ble_eq_true rfl) (Nat.le_of_ble_eq_true rfl) (Nat.le_of_ble_eq_true rfl) dX5_finish_158 (fun H locs hP hS => ?_) rfl
            have hP : va_P D vwCl (VW K ad I47 G A48 L49) H := hP
            refine lv_iinc (v := (v24 + 1)) (lv' := [(6, .int (v24 + 1)), (4, .long v25), (3, .int v26), (0, .ref (ad o))]) hx hb dX5_finish_161 hl (k := 0) rfl rfl (by decide) rfl (fun ls hl => ?_)
            refine lv_goto (tgt := 85) hx hb dX5_finish_164 (by decide) ?_
            exact ih23 (v24 + 1) v25 v26 I47 A48 L49 h _ _ hP hS ls (lv_sub hl [0, 1, 2, 3] rfl)
    exact lp23 FU 0 ((L (o + 1) a1.toNatClampNeg) &&& 262143) (A7 (o + 2) a1.toNatClampNeg) I8 A22 L h _ _ hP hS ls (lv_sub hl [0, 1, 2, 3] rfl)
  · have h := iN c_11 h
    exact W.vret hx hb hr (fun t9 ht9 hW9 => ⟨⟨(I8, G, A7, L), rfl, by cases h; rfl, by rw [ht9]; exact hP, va_K.moved hW9.alike hK⟩, hS.F ht9⟩) hS.2.2 dX5_finish_33
set_option maxHeartbeats 4000000 in
set_option maxRecDepth 100000 in
theorem e_X3_takeTurn (l : Launch) (D : va_G) (K : Nat → ClassId) (ad : Nat → Nat) (hap0 : apart ad (fun _ => True)) (I : Nat → Nat → Int32) (G : Nat → Nat → Nat) (A : Nat → Nat → Int32) (L : Nat → Nat → Int64) (r0 : Int32) (I0 : Nat → Nat → Int32) (A0 : Nat → Nat → Int32) (L0 : Nat → Nat → Int64) (h : f_X3_takeTurn I G A L = some (r0, I0, A0, L0)) : Ci l D K ad yX3_takeTurn wsX3_takeTurn 6 211 [.ref (ad 14)] (I, G, A, L) (fun (r : Int32) (u : Mem) => r = r0 ∧ u = (I0, G, A0, L0)) := by
  intro sz
  refine Met.ofW (cc := cX3_takeTurn) (maxL := 2) (ret := (some .int)) (by decide) rfl ?_
  intro p e s m args below meth c s₁ Bd hml hv0
  obtain ⟨rfl, hsz, hP, hK⟩ := hv0
  have hx := Bd.exec
  have hb := Bd.bytes
  have hr := Bd.returns
  have hts := atoms_spec (ws := wsX3_takeTurn) Bd.pre
  have hown : s.vm.findClass RX3 = some m.cls := findClass_of_methodNamed Bd.named
  have hlocks := Bd.notSynchronized
  have hi3 : ∀ w ∈ u_ws RX3 TX3 6, w ∈ wsX3_takeTurn := fun w h => List.mem_cons_of_mem _ (List.mem_append_left _ (List.mem_append_left _ (List.mem_append_left _ (List.mem_append_left _ (List.mem_append_left _ (List.mem_append_right _ h))))))
  have hi4 : ∀ w ∈ u_ws RX4 TX4 7, w ∈ wsX3_takeTurn := fun w h => List.mem_cons_of_mem _ (List.mem_append_left _ (List.mem_append_left _ (List.mem_append_left _ (List.mem_append_left _ (List.mem_append_right _ h)))))
  have hi5 : ∀ w ∈ u_ws RX5 TX5 16, w ∈ wsX3_takeTurn := fun w h => List.mem_cons_of_mem _ (List.mem_append_left _ (List.mem_append_left _ (List.mem_append_left _ (List.mem_append_right _ h))))
  have hi1 : ∀ w ∈ u_ws RX1 TX1 9, w ∈ wsX3_takeTurn := fun w h => List.mem_cons_of_mem _ (List.mem_append_left _ (List.mem_append_left _ (List.mem_append_right _ h)))
  have hi0 : ∀ w ∈ u_ws RX0 TX0 3, w ∈ wsX3_takeTurn := fun w h => List.mem_cons_of_mem _ (List.mem_append_left _ (List.mem_append_right _ h))
  have hi2 : ∀ w ∈ u_ws RX2 TX2 7, w ∈ wsX3_takeTurn := fun w h => List.mem_cons_of_mem _ (List.mem_append_right _ h)
  subst hsz
  have hap := vF_ap hap0 s.heap.size
  have hS : va_S (vF ad s.heap.size) s.heap s.heap [] := va_S.rf
  have hP : va_P D vwCl (VW K ad I G A L) s.heap := hP
  have hl := lv_entry ([.ref (ad 14)]) (n := 2) (Nat.le_of_ble_eq_true rfl)
  rw [lg_entry_eq]
  generalize (lg_sl ([.ref (ad 14)]) ++ List.replicate (2 - (lg_sl ([.ref (ad 14)])).length) Slot.unset).toArray = ls at hl ⊢
  have hl : lv_has ls 2 [(0, .ref (ad 14))] := hl
  rw [f_X3_takeTurn] at h
  refine lv_aload_n hx hb dX3_takeTurn_0 rfl (lv_at hl 0 rfl) ?_
  refine vgG hx hb hts hi3 hown hK hP (14) (by decide) (show kd 14 = 3 by decide) (C := RX3) (T := TX3) (N := 6) rfl 1 (by decide) (by decide) (by decide) (by decide) (hts (.fieldLink RX3 34 "CrateHelpers$Solving" "team" "LCrateHelpers$Team;") (by decide +kernel)) (fun _ h9 => h9) dX3_takeTurn_1 ?_
  refine lv_aload_n hx hb dX3_takeTurn_4 rfl (lv_at hl 0 rfl) ?_
  refine vgI hx hb hts hi3 hown hK hP (14) (by decide) (show kd 14 = 3 by decide) (C := RX3) (T := TX3) (N := 6) rfl 3 (by decide) (by decide) (by decide) (by decide) (hts (.fieldLink RX3 15 "CrateHelpers$Solving" "turns" "I") (by decide +kernel)) (fun _ h9 => h9) dX3_takeTurn_5 ?_
  obtain ⟨hk1, h⟩ := gk h
  obtain ⟨r2, hc3, h⟩ := Option.bind_eq_some_iff.mp h
  refine ecV (As := [.int (I 14 3)]) (rest := []) ⟨hx, hb, hml, hown, hts⟩ (e_X4_whoHasTurn l D K ad hap0 (G 14 1) (I 14 3) I G A L r2 hc3) (cwV 1 hts gX3_takeTurn_X4_whoHasTurn rfl rfl rfl (by decide +kernel) ⟨Nat.le_of_ble_eq_true rfl, Nat.le_of_ble_eq_true rfl⟩) hK hP hS (s318 hk1.1) hk1.2 (by decide) rfl rfl rfl hl.1 (Nat.le_of_ble_eq_true rfl) (Nat.le_of_ble_eq_true rfl) (Nat.le_of_ble_eq_true rfl) dX3_takeTurn_8 (fun H locs hP hS => ?_) rfl
  have hP : va_P D vwCl (VW K ad I G A L) H := hP
  refine lv_istore_n (lv' := [(1, .int r2), (0, .ref (ad 14))]) hx hb dX3_takeTurn_11 rfl hl (by decide) rfl (fun ls hl => ?_)
  refine lv_aload_n hx hb dX3_takeTurn_12 rfl (lv_at hl 1 rfl) ?_
  refine lv_dup hx hb dX3_takeTurn_13 rfl ?_
  refine vgI hx hb hts hi3 hown hK hP (14) (by decide) (show kd 14 = 3 by decide) (C := RX3) (T := TX3) (N := 6) rfl 3 (by decide) (by decide) (by decide) (by decide) (hts (.fieldLink RX3 15 "CrateHelpers$Solving" "turns" "I") (by decide +kernel)) (fun _ h9 => h9) dX3_takeTurn_14 ?_
  refine lv_iconst (v := 1) hx hb dX3_takeTurn_17 (by decide) ?_
  refine lv_iadd hx hb dX3_takeTurn_18 ?_
  refine vpI (v := ((I 14 3) + 1)) (ty := .int) hx hb hts hi3 tyX3 tyX3_ok nmX3 hown hK hP hap hS (14) (by decide) (show kd 14 = 3 by decide) (C := RX3) (T := TX3) (N := 6) rfl 3 (by decide) (by decide) (by decide) (by decide) (hts (.fieldLink RX3 15 "CrateHelpers$Solving" "turns" "I") (by decide +kernel)) (fun _ h9 => h9) rfl (by decide +kernel) rfl rfl dX3_takeTurn_19 (fun H locs hP hS => ?_)
  obtain ⟨I4, eI4, h⟩ := bd_e h
  rw [← eI4] at hP
  have hP : va_P D vwCl (VW K ad I4 G A L) H := hP
  refine lv_aload_n hx hb dX3_takeTurn_22 rfl (lv_at hl 1 rfl) ?_
  refine vgS hx hb hts hi3 hown hK hP (14) (by decide) (show kd 14 = 3 by decide) (C := RX3) (T := TX3) (N := 6) rfl 4 (by decide) (by decide) (by decide) (by decide) (15) rfl (hts (.fieldLink RX3 18 "CrateHelpers$Solving" "holds" "[I") (by decide +kernel)) (fun _ h9 => h9) dX3_takeTurn_23 ?_
  refine lv_iload_n hx hb dX3_takeTurn_26 rfl (lv_at hl 0 rfl) ?_
  obtain ⟨hn5, h⟩ := gk h
  refine xiald hx hb hK hP (15) (by decide) (show kd 15 = 8 by decide) (by rw [show ln 15 = 5 by decide]; exact hn5) dX3_takeTurn_27 ?_
  refine lv_iconst (v := (-1)) hx hb dX3_takeTurn_28 (by decide) ?_
  refine lv_icmp_ne (tgt := 40) hx hb dX3_takeTurn_29 (by decide) (fun c_6 => ?_) (fun c_6 => ?_)
  · have h := iN c_6 h
    refine lv_aload_n hx hb dX3_takeTurn_40 rfl (lv_at hl 1 rfl) ?_
    refine vgS hx hb hts hi3 hown hK hP (14) (by decide) (show kd 14 = 3 by decide) (C := RX3) (T := TX3) (N := 6) rfl 5 (by decide) (by decide) (by decide) (by decide) (16) rfl (hts (.fieldLink RX3 22 "CrateHelpers$Solving" "had" "[I") (by decide +kernel)) (fun _ h9 => h9) dX3_takeTurn_41 ?_
    refine lv_iload_n hx hb dX3_takeTurn_44 rfl (lv_at hl 0 rfl) ?_
    refine xiald hx hb hK hP (16) (by decide) (show kd 16 = 8 by decide) (by rw [show ln 16 = 5 by decide]; exact hn5) dX3_takeTurn_45 ?_
    refine lv_aload_n hx hb dX3_takeTurn_46 rfl (lv_at hl 1 rfl) ?_
    refine vgG hx hb hts hi3 hown hK hP (14) (by decide) (show kd 14 = 3 by decide) (C := RX3) (T := TX3) (N := 6) rfl 1 (by decide) (by decide) (by decide) (by decide) (hts (.fieldLink RX3 34 "CrateHelpers$Solving" "team" "LCrateHelpers$Team;") (by decide +kernel)) (fun _ h9 => h9) dX3_takeTurn_47 ?_
    refine vgS hx hb hts hi4 hown hK hP (G 14 1) (s318 hk1.1) hk1.2 (C := RX4) (T := TX4) (N := 7) rfl 2 (by decide) (by decide) (by decide) (by decide) (G 14 1 + 1) rfl (hts (.fieldLink RX3 65 "CrateHelpers$Team" "failAt" "[I") (by decide +kernel)) (fun _ h9 => h9) dX3_takeTurn_50 ?_
    refine lv_iload_n hx hb dX3_takeTurn_53 rfl (lv_at hl 0 rfl) ?_
    obtain ⟨hk7, h⟩ := gk h
    obtain ⟨hn8, h⟩ := gk h
    refine xiald hx hb hK hP (G 14 1 + 1) (s318 hk7.1) hk7.2 hn8 dX3_takeTurn_54 ?_
    refine lv_icmp_ne (tgt := 66) hx hb dX3_takeTurn_55 (by decide) (fun c_9 => ?_) (fun c_9 => ?_)
    · have h := iN c_9 h
      refine lv_aload_n hx hb dX3_takeTurn_66 rfl (lv_at hl 1 rfl) ?_
      refine vgG hx hb hts hi3 hown hK hP (14) (by decide) (show kd 14 = 3 by decide) (C := RX3) (T := TX3) (N := 6) rfl 0 (by decide) (by decide) (by decide) (by decide) (hts (.fieldLink RX3 30 "CrateHelpers$Solving" "tree" "LCrateHelpers$Tree;") (by decide +kernel)) (fun _ h9 => h9) dX3_takeTurn_67 ?_
      refine lv_aload_n hx hb dX3_takeTurn_70 rfl (lv_at hl 1 rfl) ?_
      refine vgS hx hb hts hi3 hown hK hP (14) (by decide) (show kd 14 = 3 by decide) (C := RX3) (T := TX3) (N := 6) rfl 4 (by decide) (by decide) (by decide) (by decide) (15) rfl (hts (.fieldLink RX3 18 "CrateHelpers$Solving" "holds" "[I") (by decide +kernel)) (fun _ h9 => h9) dX3_takeTurn_71 ?_
      refine lv_iload_n hx hb dX3_takeTurn_74 rfl (lv_at hl 0 rfl) ?_
      refine xiald hx hb hK hP (15) (by decide) (show kd 15 = 8 by decide) (by rw [show ln 15 = 5 by decide]; exact hn5) dX3_takeTurn_75 ?_
      refine lv_iload_n hx hb dX3_takeTurn_76 rfl (lv_at hl 0 rfl) ?_
      obtain ⟨hk10, h⟩ := gk h
      obtain ⟨⟨I11, A12, L13⟩, hc14, h⟩ := Option.bind_eq_some_iff.mp h
      refine ecVv (As := [.int (A 15 r2.toNatClampNeg), .int r2]) (rest := []) ⟨hx, hb, hml, hown, hts⟩ (e_X5_finish l D K ad hap0 (G 14 0) (A 15 r2.toNatClampNeg) r2 I4 G A L I11 A12 L13 hc14) (cwV 2 hts gX3_takeTurn_X5_finish rfl rfl rfl (by decide +kernel) ⟨Nat.le_of_ble_eq_true rfl, Nat.le_of_ble_eq_true rfl⟩) hK hP hS (s318 hk10.1) hk10.2 (by decide) rfl rfl rfl hl.1 (Nat.le_of_ble_eq_true rfl) (Nat.le_of_ble_eq_true rfl) (Nat.le_of_ble_eq_true rfl) dX3_takeTurn_77 (fun H locs hP hS => ?_) rfl
      have hP : va_P D vwCl (VW K ad I11 G A12 L13) H := hP
      refine lv_aload_n hx hb dX3_takeTurn_80 rfl (lv_at hl 1 rfl) ?_
      refine vgG hx hb hts hi3 hown hK hP (14) (by decide) (show kd 14 = 3 by decide) (C := RX3) (T := TX3) (N := 6) rfl 1 (by decide) (by decide) (by decide) (by decide) (hts (.fieldLink RX3 34 "CrateHelpers$Solving" "team" "LCrateHelpers$Team;") (by decide +kernel)) (fun _ h9 => h9) dX3_takeTurn_81 ?_
      refine vgS hx hb hts hi4 hown hK hP (G 14 1) (s318 hk1.1) hk1.2 (C := RX4) (T := TX4) (N := 7) rfl 4 (by decide) (by decide) (by decide) (by decide) (G 14 1 + 3) rfl (hts (.fieldLink RX3 38 "CrateHelpers$Team" "done" "[I") (by decide +kernel)) (fun _ h9 => h9) dX3_takeTurn_84 ?_
      refine lv_iload_n hx hb dX3_takeTurn_87 rfl (lv_at hl 0 rfl) ?_
      refine lv_dup2_11 hx hb dX3_takeTurn_88 rfl rfl ?_
      obtain ⟨hk15, h⟩ := gk h
      obtain ⟨hn16, h⟩ := gk h
      refine xiald hx hb hK hP (G 14 1 + 3) (s318 hk15.1) hk15.2 hn16 dX3_takeTurn_89 ?_
      refine lv_iconst (v := 1) hx hb dX3_takeTurn_90 (by decide) ?_
      refine lv_iadd hx hb dX3_takeTurn_91 ?_
      refine xiast hx hb hK hP hap hS (G 14 1 + 3) (s318 hk15.1) hk15.2 hn16 dX3_takeTurn_92 (fun H locs hP hS => ?_)
      obtain ⟨A17, eA17, h⟩ := bd_e h
      rw [← eA17] at hP
      have hP : va_P D vwCl (VW K ad I11 G A17 L13) H := hP
      refine lv_aload_n hx hb dX3_takeTurn_93 rfl (lv_at hl 1 rfl) ?_
      refine vgS hx hb hts hi3 hown hK hP (14) (by decide) (show kd 14 = 3 by decide) (C := RX3) (T := TX3) (N := 6) rfl 4 (by decide) (by decide) (by decide) (by decide) (15) rfl (hts (.fieldLink RX3 18 "CrateHelpers$Solving" "holds" "[I") (by decide +kernel)) (fun _ h9 => h9) dX3_takeTurn_94 ?_
      refine lv_iload_n hx hb dX3_takeTurn_97 rfl (lv_at hl 0 rfl) ?_
      refine lv_iconst (v := (-1)) hx hb dX3_takeTurn_98 (by decide) ?_
      refine xiast hx hb hK hP hap hS (15) (by decide) (show kd 15 = 8 by decide) (by rw [show ln 15 = 5 by decide]; exact hn5) dX3_takeTurn_99 (fun H locs hP hS => ?_)
      obtain ⟨A18, eA18, h⟩ := bd_e h
      rw [← eA18] at hP
      have hP : va_P D vwCl (VW K ad I11 G A18 L13) H := hP
      refine lv_aload_n hx hb dX3_takeTurn_100 rfl (lv_at hl 1 rfl) ?_
      obtain ⟨⟨r19, I20, A21⟩, hc22, h⟩ := Option.bind_eq_some_iff.mp h
      refine ecV (As := []) (rest := []) ⟨hx, hb, hml, hown, hts⟩ (e_X3_walkOn l D K ad hap0  I11 G A18 L13 r19 I20 A21 hc22) (cwV 0 hts gX3_takeTurn_X3_walkOn rfl rfl rfl (by decide +kernel) ⟨Nat.le_of_ble_eq_true rfl, Nat.le_of_ble_eq_true rfl⟩) hK hP hS (by decide) (show kd 14 = 3 by decide) (by decide) rfl rfl rfl hl.1 (Nat.le_of_ble_eq_true rfl) (Nat.le_of_ble_eq_true rfl) (Nat.le_of_ble_eq_true rfl) dX3_takeTurn_101 (fun H locs hP hS => ?_) rfl
      have hP : va_P D vwCl (VW K ad I20 G A21 L13) H := hP
      exact W.iret (v := r19) hx hb hr (fun t9 ht9 hW9 => ⟨⟨r19, (I20, G, A21, L13), rfl, by cases h; exact ⟨rfl, rfl⟩, by rw [ht9]; exact hP, va_K.moved hW9.alike hK⟩, hS.F ht9⟩) hS.2.2 dX3_takeTurn_104
    · have h := ip c_9 h
      refine lv_aload_n hx hb dX3_takeTurn_58 rfl (lv_at hl 1 rfl) ?_
      refine lv_iload_n hx hb dX3_takeTurn_59 rfl (lv_at hl 0 rfl) ?_
      obtain ⟨A23, hc24, h⟩ := Option.bind_eq_some_iff.mp h
      refine ecVv (As := [.int r2]) (rest := []) ⟨hx, hb, hml, hown, hts⟩ (e_X3_replace l D K ad hap0 r2 I4 G A L A23 hc24) (cwV 1 hts gX3_takeTurn_X3_replace rfl rfl rfl (by decide +kernel) ⟨Nat.le_of_ble_eq_true rfl, Nat.le_of_ble_eq_true rfl⟩) hK hP hS (by decide) (show kd 14 = 3 by decide) (by decide) rfl rfl rfl hl.1 (Nat.le_of_ble_eq_true rfl) (Nat.le_of_ble_eq_true rfl) (Nat.le_of_ble_eq_true rfl) dX3_takeTurn_60 (fun H locs hP hS => ?_) rfl
      have hP : va_P D vwCl (VW K ad I4 G A23 L) H := hP
      refine lv_goto (tgt := 100) hx hb dX3_takeTurn_63 (by decide) ?_
      refine lv_aload_n hx hb dX3_takeTurn_100 rfl (lv_at hl 1 rfl) ?_
      obtain ⟨⟨r25, I26, A27⟩, hc28, h⟩ := Option.bind_eq_some_iff.mp h
      refine ecV (As := []) (rest := []) ⟨hx, hb, hml, hown, hts⟩ (e_X3_walkOn l D K ad hap0  I4 G A23 L r25 I26 A27 hc28) (cwV 0 hts gX3_takeTurn_X3_walkOn rfl rfl rfl (by decide +kernel) ⟨Nat.le_of_ble_eq_true rfl, Nat.le_of_ble_eq_true rfl⟩) hK hP hS (by decide) (show kd 14 = 3 by decide) (by decide) rfl rfl rfl hl.1 (Nat.le_of_ble_eq_true rfl) (Nat.le_of_ble_eq_true rfl) (Nat.le_of_ble_eq_true rfl) dX3_takeTurn_101 (fun H locs hP hS => ?_) rfl
      have hP : va_P D vwCl (VW K ad I26 G A27 L) H := hP
      exact W.iret (v := r25) hx hb hr (fun t9 ht9 hW9 => ⟨⟨r25, (I26, G, A27, L), rfl, by cases h; exact ⟨rfl, rfl⟩, by rw [ht9]; exact hP, va_K.moved hW9.alike hK⟩, hS.F ht9⟩) hS.2.2 dX3_takeTurn_104
  · have h := ip c_6 h
    refine lv_aload_n hx hb dX3_takeTurn_32 rfl (lv_at hl 1 rfl) ?_
    refine lv_iload_n hx hb dX3_takeTurn_33 rfl (lv_at hl 0 rfl) ?_
    obtain ⟨A29, hc30, h⟩ := Option.bind_eq_some_iff.mp h
    refine ecVv (As := [.int r2]) (rest := []) ⟨hx, hb, hml, hown, hts⟩ (e_X3_pick l D K ad hap0 r2 I4 G A L A29 hc30) (cwV 1 hts gX3_takeTurn_X3_pick rfl rfl rfl (by decide +kernel) ⟨Nat.le_of_ble_eq_true rfl, Nat.le_of_ble_eq_true rfl⟩) hK hP hS (by decide) (show kd 14 = 3 by decide) (by decide) rfl rfl rfl hl.1 (Nat.le_of_ble_eq_true rfl) (Nat.le_of_ble_eq_true rfl) (Nat.le_of_ble_eq_true rfl) dX3_takeTurn_34 (fun H locs hP hS => ?_) rfl
    have hP : va_P D vwCl (VW K ad I4 G A29 L) H := hP
    refine lv_goto (tgt := 100) hx hb dX3_takeTurn_37 (by decide) ?_
    refine lv_aload_n hx hb dX3_takeTurn_100 rfl (lv_at hl 1 rfl) ?_
    obtain ⟨⟨r31, I32, A33⟩, hc34, h⟩ := Option.bind_eq_some_iff.mp h
    refine ecV (As := []) (rest := []) ⟨hx, hb, hml, hown, hts⟩ (e_X3_walkOn l D K ad hap0  I4 G A29 L r31 I32 A33 hc34) (cwV 0 hts gX3_takeTurn_X3_walkOn rfl rfl rfl (by decide +kernel) ⟨Nat.le_of_ble_eq_true rfl, Nat.le_of_ble_eq_true rfl⟩) hK hP hS (by decide) (show kd 14 = 3 by decide) (by decide) rfl rfl rfl hl.1 (Nat.le_of_ble_eq_true rfl) (Nat.le_of_ble_eq_true rfl) (Nat.le_of_ble_eq_true rfl) dX3_takeTurn_101 (fun H locs hP hS => ?_) rfl
    have hP : va_P D vwCl (VW K ad I32 G A33 L) H := hP
    exact W.iret (v := r31) hx hb hr (fun t9 ht9 hW9 => ⟨⟨r31, (I32, G, A33, L), rfl, by cases h; exact ⟨rfl, rfl⟩, by rw [ht9]; exact hP, va_K.moved hW9.alike hK⟩, hS.F ht9⟩) hS.2.2 dX3_takeTurn_104
set_option maxHeartbeats 4000000 in
set_option maxRecDepth 100000 in
theorem e_X6_same (l : Launch) (D : va_G) (K : Nat → ClassId) (ad : Nat → Nat) (hap0 : apart ad (fun _ => True)) (a1 : Int32) (a2 : Int32) (I : Nat → Nat → Int32) (G : Nat → Nat → Nat) (A : Nat → Nat → Int32) (L : Nat → Nat → Int64) (r0 : Int32) (I0 : Nat → Nat → Int32) (G0 : Nat → Nat → Nat) (A0 : Nat → Nat → Int32) (L0 : Nat → Nat → Int64) (h : f_X6_same I G A L a1 a2 = some (r0, I0, G0, A0, L0)) : Ci l D K ad yX6_same wsX6_same 7 235 [.ref (ad 0), .int a1, .int a2] (I, G, A, L) (fun (r : Int32) (u : Mem) => r = r0 ∧ u = (I0, G0, A0, L0)) := by
  intro sz
  refine Met.ofW (cc := cX6_same) (maxL := 6) (ret := (some .int)) (by decide) rfl ?_
  intro p e s m args below meth c s₁ Bd hml hv0
  obtain ⟨rfl, hsz, hP, hK⟩ := hv0
  have hx := Bd.exec
  have hb := Bd.bytes
  have hr := Bd.returns
  have hts := atoms_spec (ws := wsX6_same) Bd.pre
  have hown : s.vm.findClass RX6 = some m.cls := findClass_of_methodNamed Bd.named
  have hlocks := Bd.notSynchronized
  have hi6 : ∀ w ∈ u_ws RX6 TX6 18, w ∈ wsX6_same := fun w h => List.mem_cons_of_mem _ (List.mem_append_left _ (List.mem_append_left _ (List.mem_append_left _ (List.mem_append_left _ (List.mem_append_left _ (List.mem_append_left _ (List.mem_append_right _ h)))))))
  have hi4 : ∀ w ∈ u_ws RX4 TX4 7, w ∈ wsX6_same := fun w h => List.mem_cons_of_mem _ (List.mem_append_left _ (List.mem_append_left _ (List.mem_append_left _ (List.mem_append_left _ (List.mem_append_left _ (List.mem_append_right _ h))))))
  have hi3 : ∀ w ∈ u_ws RX3 TX3 6, w ∈ wsX6_same := fun w h => List.mem_cons_of_mem _ (List.mem_append_left _ (List.mem_append_left _ (List.mem_append_left _ (List.mem_append_left _ (List.mem_append_right _ h)))))
  have hi5 : ∀ w ∈ u_ws RX5 TX5 16, w ∈ wsX6_same := fun w h => List.mem_cons_of_mem _ (List.mem_append_left _ (List.mem_append_left _ (List.mem_append_left _ (List.mem_append_right _ h))))
  have hi1 : ∀ w ∈ u_ws RX1 TX1 9, w ∈ wsX6_same := fun w h => List.mem_cons_of_mem _ (List.mem_append_left _ (List.mem_append_left _ (List.mem_append_right _ h)))
  have hi0 : ∀ w ∈ u_ws RX0 TX0 3, w ∈ wsX6_same := fun w h => List.mem_cons_of_mem _ (List.mem_append_left _ (List.mem_append_right _ h))
  have hi2 : ∀ w ∈ u_ws RX2 TX2 7, w ∈ wsX6_same := fun w h => List.mem_cons_of_mem _ (List.mem_append_right _ h)
  subst hsz
  have hap := vF_ap hap0 s.heap.size
  have hS : va_S (vF ad s.heap.size) s.heap s.heap [] := va_S.rf
  have hP : va_P D vwCl (VW K ad I G A L) s.heap := hP
  have hl := lv_entry ([.ref (ad 0), .int a1, .int a2]) (n := 6) (Nat.le_of_ble_eq_true rfl)
  rw [lg_entry_eq]
  generalize (lg_sl ([.ref (ad 0), .int a1, .int a2]) ++ List.replicate (6 - (lg_sl ([.ref (ad 0), .int a1, .int a2])).length) Slot.unset).toArray = ls at hl ⊢
  have hl : lv_has ls 6 [(0, .ref (ad 0)), (1, .int a1), (2, .int a2)] := hl
  rw [f_X6_same] at h
  refine lv_aload_n hx hb dX6_same_0 rfl (lv_at hl 0 rfl) ?_
  refine lv_iload_n hx hb dX6_same_1 rfl (lv_at hl 1 rfl) ?_
  obtain ⟨r1, hc2, h⟩ := Option.bind_eq_some_iff.mp h
  refine ecV (As := [.int a1]) (rest := []) ⟨hx, hb, hml, hown, hts⟩ (e_X6_isProblem l D K ad hap0 a1 I G A L r1 hc2) (cwV 1 hts gX6_same_X6_isProblem rfl rfl rfl (by decide +kernel) ⟨Nat.le_of_ble_eq_true rfl, Nat.le_of_ble_eq_true rfl⟩) hK hP hS (by decide) (show kd 0 = 6 by decide) (by decide) rfl rfl rfl hl.1 (Nat.le_of_ble_eq_true rfl) (Nat.le_of_ble_eq_true rfl) (Nat.le_of_ble_eq_true rfl) dX6_same_2 (fun H locs hP hS => ?_) rfl
  have hP : va_P D vwCl (VW K ad I G A L) H := hP
  refine lv_if_eq (tgt := 17) hx hb dX6_same_5 (by decide) (fun c_3 => ?_) (fun c_3 => ?_)
  · have h := ip c_3 h
    refine lv_iconst (v := (-1)) hx hb dX6_same_17 (by decide) ?_
    exact W.iret (v := (-1)) hx hb hr (fun t9 ht9 hW9 => ⟨⟨(-1), (I, G, A, L), rfl, by cases h; exact ⟨rfl, rfl⟩, by rw [ht9]; exact hP, va_K.moved hW9.alike hK⟩, hS.F ht9⟩) hS.2.2 dX6_same_18
  · have h := iN c_3 h
    refine lv_iload_n hx hb dX6_same_8 rfl (lv_at hl 2 rfl) ?_
    refine lv_iconst (v := 1) hx hb dX6_same_9 (by decide) ?_
    refine lv_iconst (v := 5) hx hb dX6_same_10 (by decide) ?_
    obtain ⟨r4, hc5, h⟩ := Option.bind_eq_some_iff.mp h
    refine ecS (As := [.int a2, .int 1, .int 5]) (rest := []) ⟨hx, hb, hml, hown, hts⟩ (e_X6_isWithin l D K ad hap0 a2 1 5 I G A L r4 hc5) (va_cwS 3 hts gX6_same_X6_isWithin rfl rfl rfl (by decide +kernel) ⟨Nat.le_of_ble_eq_true rfl, Nat.le_of_ble_eq_true rfl⟩) hK hP hS rfl hl.1 (Nat.le_of_ble_eq_true rfl) (Nat.le_of_ble_eq_true rfl) (Nat.le_of_ble_eq_true rfl) dX6_same_11 (fun H locs hP hS => ?_) rfl
    have hP : va_P D vwCl (VW K ad I G A L) H := hP
    refine lv_if_ne (tgt := 19) hx hb dX6_same_14 (by decide) (fun c_6 => ?_) (fun c_6 => ?_)
    · have h := iN c_6 h
      refine lv_aload_n hx hb dX6_same_19 rfl (lv_at hl 0 rfl) ?_
      refine vgI hx hb hts hi6 hown hK hP (0) (by decide) (show kd 0 = 6 by decide) (C := RX6) (T := TX6) (N := 18) rfl 5 (by decide) (by decide) (by decide) (by decide) (hts (.fieldLink RX6 29 "CrateHelpers" "underWay" "I") (by decide +kernel)) (fun _ h9 => h9) dX6_same_20 ?_
      refine lv_bipush (v := (-9)) hx hb dX6_same_23 (by decide) ?_
      refine lv_icmp_eq (tgt := 31) hx hb dX6_same_25 (by decide) (fun c_7 => ?_) (fun c_7 => ?_)
      · have h := ip c_7 h
        refine lv_iconst (v := 0) hx hb dX6_same_31 (by decide) ?_
        refine lv_istore_n (lv' := [(3, .int 0), (0, .ref (ad 0)), (1, .int a1), (2, .int a2)]) hx hb dX6_same_32 rfl hl (by decide) rfl (fun ls hl => ?_)
        obtain ⟨k14, ek14, h⟩ := bd_e h
        have kk14 : ∀ (I15 : Nat → Nat → Int32) (G16 : Nat → Nat → Nat) (A17 : Nat → Nat → Int32) (L18 : Nat → Nat → Int64), k14 I15 G16 A17 L18 = some (r0, I0, G0, A0, L0) → ∀ (H : Heap) (locs : List Loc), va_P D vwCl (VW K ad I15 G16 A17 L18) H → va_S (vF ad s.heap.size) s.heap H locs → ∀ (ls : Array Slot), lv_has ls 6 [(0, .ref (ad 0))] → W p l e ({ frames := 7, cells := 0, slots := 0, locals := 235 }) s m ([.ref (ad 0), .int a1, .int a2] : List Value).toArray below meth c H locs 0 0 (MQ below (va_Qi (fun (r : Int32) (u : Mem) => r = r0 ∧ u = (I0, G0, A0, L0)) (vB D K ad) (vF ad s.heap.size)) ([.ref (ad 0), .int a1, .int a2] : List Value).toArray s 0 0 (vF ad s.heap.size)) (F0 m 138 ls []) := by
          intro I15 G16 A17 L18 h H locs hP hS ls hl
          subst ek14
          refine lv_aload_n hx hb dX6_same_138 rfl (lv_at hl 0 rfl) ?_
          obtain ⟨r19, hc20, h⟩ := Option.bind_eq_some_iff.mp h
          refine ecV (As := []) (rest := []) ⟨hx, hb, hml, hown, hts⟩ (e_X6_isSameOutcome l D K ad hap0  I15 G16 A17 L18 r19 hc20) (cwV 0 hts gX6_same_X6_isSameOutcome rfl rfl rfl (by decide +kernel) ⟨Nat.le_of_ble_eq_true rfl, Nat.le_of_ble_eq_true rfl⟩) hK hP hS (by decide) (show kd 0 = 6 by decide) (by decide) rfl rfl rfl hl.1 (Nat.le_of_ble_eq_true rfl) (Nat.le_of_ble_eq_true rfl) (Nat.le_of_ble_eq_true rfl) dX6_same_139 (fun H locs hP hS => ?_) rfl
          have hP : va_P D vwCl (VW K ad I15 G16 A17 L18) H := hP
          obtain ⟨r21, hc22, h⟩ := Option.bind_eq_some_iff.mp h
          refine ecS (As := [.int r19]) (rest := []) ⟨hx, hb, hml, hown, hts⟩ (e_X6_asNumber l D K ad hap0 r19 I15 G16 A17 L18 r21 hc22) (va_cwS 1 hts gX6_same_X6_asNumber rfl rfl rfl (by decide +kernel) ⟨Nat.le_of_ble_eq_true rfl, Nat.le_of_ble_eq_true rfl⟩) hK hP hS rfl hl.1 (Nat.le_of_ble_eq_true rfl) (Nat.le_of_ble_eq_true rfl) (Nat.le_of_ble_eq_true rfl) dX6_same_142 (fun H locs hP hS => ?_) rfl
          have hP : va_P D vwCl (VW K ad I15 G16 A17 L18) H := hP
          exact W.iret (v := r21) hx hb hr (fun t9 ht9 hW9 => ⟨⟨r21, (I15, G16, A17, L18), rfl, by cases h; exact ⟨rfl, rfl⟩, by rw [ht9]; exact hP, va_K.moved hW9.alike hK⟩, hS.F ht9⟩) hS.2.2 dX6_same_145
        have lp8 : ∀ (n : Nat) (v9 : Int32) (I10 : Nat → Nat → Int32) (G11 : Nat → Nat → Nat) (A12 : Nat → Nat → Int32) (L13 : Nat → Nat → Int64), f_X6_same_L33 a1 a2 k14 n v9 I10 G11 A12 L13 = some (r0, I0, G0, A0, L0) → ∀ (H : Heap) (locs : List Loc), va_P D vwCl (VW K ad I10 G11 A12 L13) H → va_S (vF ad s.heap.size) s.heap H locs → ∀ (ls : Array Slot), lv_has ls 6 [(3, .int v9), (0, .ref (ad 0)), (1, .int a1), (2, .int a2)] → W p l e ({ frames := 7, cells := 0, slots := 0, locals := 235 }) s m ([.ref (ad 0), .int a1, .int a2] : List Value).toArray below meth c H locs 0 0 (MQ below (va_Qi (fun (r : Int32) (u : Mem) => r = r0 ∧ u = (I0, G0, A0, L0)) (vB D K ad) (vF ad s.heap.size)) ([.ref (ad 0), .int a1, .int a2] : List Value).toArray s 0 0 (vF ad s.heap.size)) (F0 m 33 ls []) := by
          intro n
          induction n with
          | zero => intro v9 I10 G11 A12 L13 h; exact absurd h (by rw [f_X6_same_L33]; exact nofun)
          | succ n ih8 =>
            intro v9 I10 G11 A12 L13 h H locs hP hS ls hl
            rw [f_X6_same_L33] at h
            refine lv_iload_n hx hb dX6_same_33 rfl (lv_at hl 0 rfl) ?_
            refine lv_iconst (v := 2) hx hb dX6_same_34 (by decide) ?_
            refine lv_icmp_ge (tgt := 138) hx hb dX6_same_35 (by decide) (fun c_23 => ?_) (fun c_23 => ?_)
            · have h := iN (Int32.not_lt.mpr c_23) h
              exact kk14 I10 G11 A12 L13 h _ _ hP hS ls (lv_sub hl [1] rfl)
            · have h := ip (Int32.not_le.mp c_23) h
              refine lv_aload_n hx hb dX6_same_38 rfl (lv_at hl 1 rfl) ?_
              refine vgC hx hb hts hi6 hown hK hP (0) (by decide) (show kd 0 = 6 by decide) (C := RX6) (T := TX6) (N := 18) rfl 14 (by decide) (by decide) (by decide) (by decide) (8) rfl (hts (.fieldLink RX6 55 "CrateHelpers" "likeTeam" "LCrateHelpers$Team;") (by decide +kernel)) (fun _ h9 => h9) dX6_same_39 ?_
              refine lv_iload_n hx hb dX6_same_42 rfl (lv_at hl 0 rfl) ?_
              obtain ⟨j25, ej25, h⟩ := bd_e h
              have kj25 : ∀ (z24 : Int32), j25 z24 = some (r0, I0, G0, A0, L0) → ∀ (H : Heap) (locs : List Loc), va_P D vwCl (VW K ad I10 G11 A12 L13) H → va_S (vF ad s.heap.size) s.heap H locs → ∀ (ls : Array Slot), lv_has ls 6 [(3, .int v9), (0, .ref (ad 0)), (1, .int a1), (2, .int a2)] → W p l e ({ frames := 7, cells := 0, slots := 0, locals := 235 }) s m ([.ref (ad 0), .int a1, .int a2] : List Value).toArray below meth c H locs 0 0 (MQ below (va_Qi (fun (r : Int32) (u : Mem) => r = r0 ∧ u = (I0, G0, A0, L0)) (vB D K ad) (vF ad s.heap.size)) ([.ref (ad 0), .int a1, .int a2] : List Value).toArray s 0 0 (vF ad s.heap.size)) (F0 m 51 ls [.int z24, .ref (ad 8)]) := by
                intro z24 h H locs hP hS ls hl
                subst ej25
                obtain ⟨⟨I26, A27⟩, hc28, h⟩ := Option.bind_eq_some_iff.mp h
                refine ecVv (As := [.int z24]) (rest := []) ⟨hx, hb, hml, hown, hts⟩ (e_X4_become l D K ad hap0 8 z24 I10 G11 A12 L13 I26 A27 hc28) (cwV 1 hts gX6_same_X4_become rfl rfl rfl (by decide +kernel) ⟨Nat.le_of_ble_eq_true rfl, Nat.le_of_ble_eq_true rfl⟩) hK hP hS (by decide) (show kd 8 = 4 by decide) (by decide) rfl rfl rfl hl.1 (Nat.le_of_ble_eq_true rfl) (Nat.le_of_ble_eq_true rfl) (Nat.le_of_ble_eq_true rfl) dX6_same_51 (fun H locs hP hS => ?_) rfl
                have hP : va_P D vwCl (VW K ad I26 G11 A27 L13) H := hP
                refine lv_aload_n hx hb dX6_same_54 rfl (lv_at hl 1 rfl) ?_
                refine vgC hx hb hts hi6 hown hK hP (0) (by decide) (show kd 0 = 6 by decide) (C := RX6) (T := TX6) (N := 18) rfl 4 (by decide) (by decide) (by decide) (by decide) (14) rfl (hts (.fieldLink RX6 73 "CrateHelpers" "solving" "LCrateHelpers$Solving;") (by decide +kernel)) (fun _ h9 => h9) dX6_same_55 ?_
                refine lv_aload_n hx hb dX6_same_58 rfl (lv_at hl 1 rfl) ?_
                refine vgC hx hb hts hi6 hown hK hP (0) (by decide) (show kd 0 = 6 by decide) (C := RX6) (T := TX6) (N := 18) rfl 0 (by decide) (by decide) (by decide) (by decide) (1) rfl (hts (.fieldLink RX6 11 "CrateHelpers" "problems" "[LCrateHelpers$Problem;") (by decide +kernel)) (fun _ h9 => h9) dX6_same_59 ?_
                refine lv_iload_n hx hb dX6_same_62 rfl (lv_at hl 2 rfl) ?_
                obtain ⟨hn29, h⟩ := gk h
                refine xaald hx hb hK hP (1) (by decide) 5 13 (show kd 1 = 13 by decide) (by decide) rfl (by rw [show ln 1 = 5 by decide]; exact hn29) (58 + 52 * a1.toNatClampNeg) (drf13 ((show kd 1 = 13 by decide))) dX6_same_63 ?_
                refine lv_aload_n hx hb dX6_same_64 rfl (lv_at hl 1 rfl) ?_
                refine vgC hx hb hts hi6 hown hK hP (0) (by decide) (show kd 0 = 6 by decide) (C := RX6) (T := TX6) (N := 18) rfl 14 (by decide) (by decide) (by decide) (by decide) (8) rfl (hts (.fieldLink RX6 55 "CrateHelpers" "likeTeam" "LCrateHelpers$Team;") (by decide +kernel)) (fun _ h9 => h9) dX6_same_65 ?_
                refine lv_aload_n hx hb dX6_same_68 rfl (lv_at hl 1 rfl) ?_
                refine vgI hx hb hts hi6 hown hK hP (0) (by decide) (show kd 0 = 6 by decide) (C := RX6) (T := TX6) (N := 18) rfl 3 (by decide) (by decide) (by decide) (by decide) (hts (.fieldLink RX6 26 "CrateHelpers" "nodeLimit" "I") (by decide +kernel)) (fun _ h9 => h9) dX6_same_69 ?_
                obtain ⟨⟨r30, I31, G32, A33, L34⟩, hc35, h⟩ := Option.bind_eq_some_iff.mp h
                refine ecV (As := [.ref (ad (58 + 52 * a1.toNatClampNeg)), .ref (ad 8), .int (I26 0 3)]) (rest := []) ⟨hx, hb, hml, hown, hts⟩ (e_X3_begin l D K ad hap0 (58 + 52 * a1.toNatClampNeg) 8 (I26 0 3) I26 G11 A27 L13 r30 I31 G32 A33 L34 hc35) (cwV 3 hts gX6_same_X3_begin rfl rfl rfl (by decide +kernel) ⟨Nat.le_of_ble_eq_true rfl, Nat.le_of_ble_eq_true rfl⟩) hK hP hS (by decide) (show kd 14 = 3 by decide) (by decide) rfl rfl rfl hl.1 (Nat.le_of_ble_eq_true rfl) (Nat.le_of_ble_eq_true rfl) (Nat.le_of_ble_eq_true rfl) dX6_same_72 (fun H locs hP hS => ?_) rfl
                have hP : va_P D vwCl (VW K ad I31 G32 A33 L34) H := hP
                refine lv_istore (lv' := [(4, .int r30), (3, .int v9), (0, .ref (ad 0)), (1, .int a1), (2, .int a2)]) hx hb dX6_same_75 hl (by decide) rfl (fun ls hl => ?_)
                refine lv_iconst (v := 0) hx hb dX6_same_77 (by decide) ?_
                refine lv_istore (lv' := [(5, .int 0), (4, .int r30), (3, .int v9), (0, .ref (ad 0)), (1, .int a1), (2, .int a2)]) hx hb dX6_same_78 hl (by decide) rfl (fun ls hl => ?_)
                obtain ⟨k42, ek42, h⟩ := bd_e h
                have kk42 : ∀ (v43 : Int32) (I44 : Nat → Nat → Int32) (A45 : Nat → Nat → Int32) (L46 : Nat → Nat → Int64), k42 v43 I44 A45 L46 = some (r0, I0, G0, A0, L0) → ∀ (H : Heap) (locs : List Loc), va_P D vwCl (VW K ad I44 G32 A45 L46) H → va_S (vF ad s.heap.size) s.heap H locs → ∀ (ls : Array Slot), lv_has ls 6 [(0, .ref (ad 0)), (1, .int a1), (2, .int a2), (3, .int v9), (4, .int v43)] → W p l e ({ frames := 7, cells := 0, slots := 0, locals := 235 }) s m ([.ref (ad 0), .int a1, .int a2] : List Value).toArray below meth c H locs 0 0 (MQ below (va_Qi (fun (r : Int32) (u : Mem) => r = r0 ∧ u = (I0, G0, A0, L0)) (vB D K ad) (vF ad s.heap.size)) ([.ref (ad 0), .int a1, .int a2] : List Value).toArray s 0 0 (vF ad s.heap.size)) (F0 m 108 ls []) := by
                  intro v43 I44 A45 L46 h H locs hP hS ls hl
                  subst ek42
                  refine lv_aload_n hx hb dX6_same_108 rfl (lv_at hl 0 rfl) ?_
                  refine vgC hx hb hts hi6 hown hK hP (0) (by decide) (show kd 0 = 6 by decide) (C := RX6) (T := TX6) (N := 18) rfl 4 (by decide) (by decide) (by decide) (by decide) (14) rfl (hts (.fieldLink RX6 73 "CrateHelpers" "solving" "LCrateHelpers$Solving;") (by decide +kernel)) (fun _ h9 => h9) dX6_same_109 ?_
                  refine lv_iload hx hb dX6_same_112 (lv_at hl 4 rfl) ?_
                  refine lv_iload_n hx hb dX6_same_114 rfl (lv_at hl 3 rfl) ?_
                  refine lv_if_ne (tgt := 125) hx hb dX6_same_115 (by decide) (fun c_47 => ?_) (fun c_47 => ?_)
                  · have h := iN c_47 h
                    refine lv_aload_n hx hb dX6_same_125 rfl (lv_at hl 0 rfl) ?_
                    refine vgC hx hb hts hi6 hown hK hP (0) (by decide) (show kd 0 = 6 by decide) (C := RX6) (T := TX6) (N := 18) rfl 16 (by decide) (by decide) (by decide) (by decide) (21) rfl (hts (.fieldLink RX6 61 "CrateHelpers" "together" "[I") (by decide +kernel)) (fun _ h9 => h9) dX6_same_126 ?_
                    obtain ⟨A48, hc49, h⟩ := Option.bind_eq_some_iff.mp h
                    refine ecVv (As := [.int v43, .ref (ad 21)]) (rest := []) ⟨hx, hb, hml, hown, hts⟩ (e_X3_sumUp l D K ad hap0 v43 21 I44 G32 A45 L46 A48 hc49) (cwV 2 hts gX6_same_X3_sumUp rfl rfl rfl (by decide +kernel) ⟨Nat.le_of_ble_eq_true rfl, Nat.le_of_ble_eq_true rfl⟩) hK hP hS (by decide) (show kd 14 = 3 by decide) (by decide) rfl rfl rfl hl.1 (Nat.le_of_ble_eq_true rfl) (Nat.le_of_ble_eq_true rfl) (Nat.le_of_ble_eq_true rfl) dX6_same_129 (fun H locs hP hS => ?_) rfl
                    have hP : va_P D vwCl (VW K ad I44 G32 A48 L46) H := hP
                    refine lv_iinc (v := (v9 + 1)) (lv' := [(3, .int (v9 + 1)), (0, .ref (ad 0)), (1, .int a1), (2, .int a2), (4, .int v43)]) hx hb dX6_same_132 hl (k := 3) rfl rfl (by decide) rfl (fun ls hl => ?_)
                    refine lv_goto (tgt := 33) hx hb dX6_same_135 (by decide) ?_
                    exact ih8 (v9 + 1) I44 G32 A48 L46 h _ _ hP hS ls (lv_sub hl [0, 1, 2, 3] rfl)
                  · have h := ip c_47 h
                    refine lv_aload_n hx hb dX6_same_118 rfl (lv_at hl 0 rfl) ?_
                    refine vgC hx hb hts hi6 hown hK hP (0) (by decide) (show kd 0 = 6 by decide) (C := RX6) (T := TX6) (N := 18) rfl 15 (by decide) (by decide) (by decide) (by decide) (20) rfl (hts (.fieldLink RX6 58 "CrateHelpers" "alone" "[I") (by decide +kernel)) (fun _ h9 => h9) dX6_same_119 ?_
                    refine lv_goto (tgt := 129) hx hb dX6_same_122 (by decide) ?_
                    obtain ⟨A50, hc51, h⟩ := Option.bind_eq_some_iff.mp h
                    refine ecVv (As := [.int v43, .ref (ad 20)]) (rest := []) ⟨hx, hb, hml, hown, hts⟩ (e_X3_sumUp l D K ad hap0 v43 20 I44 G32 A45 L46 A50 hc51) (cwV 2 hts gX6_same_X3_sumUp rfl rfl rfl (by decide +kernel) ⟨Nat.le_of_ble_eq_true rfl, Nat.le_of_ble_eq_true rfl⟩) hK hP hS (by decide) (show kd 14 = 3 by decide) (by decide) rfl rfl rfl hl.1 (Nat.le_of_ble_eq_true rfl) (Nat.le_of_ble_eq_true rfl) (Nat.le_of_ble_eq_true rfl) dX6_same_129 (fun H locs hP hS => ?_) rfl
                    have hP : va_P D vwCl (VW K ad I44 G32 A50 L46) H := hP
                    refine lv_iinc (v := (v9 + 1)) (lv' := [(3, .int (v9 + 1)), (0, .ref (ad 0)), (1, .int a1), (2, .int a2), (4, .int v43)]) hx hb dX6_same_132 hl (k := 3) rfl rfl (by decide) rfl (fun ls hl => ?_)
                    refine lv_goto (tgt := 33) hx hb dX6_same_135 (by decide) ?_
                    exact ih8 (v9 + 1) I44 G32 A50 L46 h _ _ hP hS ls (lv_sub hl [0, 1, 2, 3] rfl)
                have lp36 : ∀ (n : Nat) (v37 : Int32) (v38 : Int32) (I39 : Nat → Nat → Int32) (A40 : Nat → Nat → Int32) (L41 : Nat → Nat → Int64), f_X6_same_L80 v9 a1 a2 G32 k42 n v37 v38 I39 A40 L41 = some (r0, I0, G0, A0, L0) → ∀ (H : Heap) (locs : List Loc), va_P D vwCl (VW K ad I39 G32 A40 L41) H → va_S (vF ad s.heap.size) s.heap H locs → ∀ (ls : Array Slot), lv_has ls 6 [(5, .int v37), (4, .int v38), (3, .int v9), (0, .ref (ad 0)), (1, .int a1), (2, .int a2)] → W p l e ({ frames := 7, cells := 0, slots := 0, locals := 235 }) s m ([.ref (ad 0), .int a1, .int a2] : List Value).toArray below meth c H locs 0 0 (MQ below (va_Qi (fun (r : Int32) (u : Mem) => r = r0 ∧ u = (I0, G0, A0, L0)) (vB D K ad) (vF ad s.heap.size)) ([.ref (ad 0), .int a1, .int a2] : List Value).toArray s 0 0 (vF ad s.heap.size)) (F0 m 80 ls []) := by
                  intro n
                  induction n with
                  | zero => intro v37 v38 I39 A40 L41 h; exact absurd h (by rw [f_X6_same_L80]; exact nofun)
                  | succ n ih36 =>
                    intro v37 v38 I39 A40 L41 h H locs hP hS ls hl
                    rw [f_X6_same_L80] at h
                    refine lv_iload hx hb dX6_same_80 (lv_at hl 0 rfl) ?_
                    refine lv_ldcw (v := 1000000) hx hb hown (hts (.constant RX6 285 1000000) (by decide +kernel)) dX6_same_82 ?_
                    refine lv_icmp_ge (tgt := 108) hx hb dX6_same_85 (by decide) (fun c_52 => ?_) (fun c_52 => ?_)
                    · have h := iN (Int32.not_lt.mpr c_52) h
                      exact kk42 v38 I39 A40 L41 h _ _ hP hS ls (lv_sub hl [3, 4, 5, 2, 1] rfl)
                    · have h := ip (Int32.not_le.mp c_52) h
                      refine lv_iload hx hb dX6_same_88 (lv_at hl 1 rfl) ?_
                      refine lv_if_ne (tgt := 108) hx hb dX6_same_90 (by decide) (fun c_53 => ?_) (fun c_53 => ?_)
                      · have h := iN c_53 h
                        exact kk42 v38 I39 A40 L41 h _ _ hP hS ls (lv_sub hl [3, 4, 5, 2, 1] rfl)
                      · have h := ip c_53 h
                        refine lv_aload_n hx hb dX6_same_93 rfl (lv_at hl 3 rfl) ?_
                        refine vgC hx hb hts hi6 hown hK hP (0) (by decide) (show kd 0 = 6 by decide) (C := RX6) (T := TX6) (N := 18) rfl 4 (by decide) (by decide) (by decide) (by decide) (14) rfl (hts (.fieldLink RX6 73 "CrateHelpers" "solving" "LCrateHelpers$Solving;") (by decide +kernel)) (fun _ h9 => h9) dX6_same_94 ?_
                        obtain ⟨⟨r54, I55, A56, L57⟩, hc58, h⟩ := Option.bind_eq_some_iff.mp h
                        refine ecV (As := []) (rest := []) ⟨hx, hb, hml, hown, hts⟩ (e_X3_takeTurn l D K ad hap0  I39 G32 A40 L41 r54 I55 A56 L57 hc58) (cwV 0 hts gX6_same_X3_takeTurn rfl rfl rfl (by decide +kernel) ⟨Nat.le_of_ble_eq_true rfl, Nat.le_of_ble_eq_true rfl⟩) hK hP hS (by decide) (show kd 14 = 3 by decide) (by decide) rfl rfl rfl hl.1 (Nat.le_of_ble_eq_true rfl) (Nat.le_of_ble_eq_true rfl) (Nat.le_of_ble_eq_true rfl) dX6_same_97 (fun H locs hP hS => ?_) rfl
                        have hP : va_P D vwCl (VW K ad I55 G32 A56 L57) H := hP
                        refine lv_istore (lv' := [(4, .int r54), (5, .int v37), (3, .int v9), (0, .ref (ad 0)), (1, .int a1), (2, .int a2)]) hx hb dX6_same_100 hl (by decide) rfl (fun ls hl => ?_)
                        refine lv_iinc (v := (v37 + 1)) (lv' := [(5, .int (v37 + 1)), (4, .int r54), (3, .int v9), (0, .ref (ad 0)), (1, .int a1), (2, .int a2)]) hx hb dX6_same_102 hl (k := 1) rfl rfl (by decide) rfl (fun ls hl => ?_)
                        refine lv_goto (tgt := 80) hx hb dX6_same_105 (by decide) ?_
                        exact ih36 (v37 + 1) r54 I55 A56 L57 h _ _ hP hS ls (lv_sub hl [0, 1, 2, 3, 4, 5] rfl)
                exact lp36 FU 0 r30 I31 A33 L34 h _ _ hP hS ls (lv_sub hl [0, 1, 2, 3, 4, 5] rfl)
              refine lv_if_ne (tgt := 50) hx hb dX6_same_43 (by decide) (fun c_59 => ?_) (fun c_59 => ?_)
              · have h := iN c_59 h
                refine lv_iload_n hx hb dX6_same_50 rfl (lv_at hl 3 rfl) ?_
                exact kj25 a2 h _ _ hP hS ls (lv_sub hl [0, 1, 2, 3] rfl)
              · have h := ip c_59 h
                refine lv_iconst (v := 1) hx hb dX6_same_46 (by decide) ?_
                refine lv_goto (tgt := 51) hx hb dX6_same_47 (by decide) ?_
                exact kj25 1 h _ _ hP hS ls (lv_sub hl [0, 1, 2, 3] rfl)
        exact lp8 FU 0 I G A L h _ _ hP hS ls (lv_sub hl [0, 1, 2, 3] rfl)
      · have h := iN c_7 h
        refine lv_bipush (v := (-2)) hx hb dX6_same_28 (by decide) ?_
        exact W.iret (v := (-2)) hx hb hr (fun t9 ht9 hW9 => ⟨⟨(-2), (I, G, A, L), rfl, by cases h; exact ⟨rfl, rfl⟩, by rw [ht9]; exact hP, va_K.moved hW9.alike hK⟩, hS.F ht9⟩) hS.2.2 dX6_same_30
    · have h := ip c_6 h
      refine lv_iconst (v := (-1)) hx hb dX6_same_17 (by decide) ?_
      exact W.iret (v := (-1)) hx hb hr (fun t9 ht9 hW9 => ⟨⟨(-1), (I, G, A, L), rfl, by cases h; exact ⟨rfl, rfl⟩, by rw [ht9]; exact hP, va_K.moved hW9.alike hK⟩, hS.F ht9⟩) hS.2.2 dX6_same_18
