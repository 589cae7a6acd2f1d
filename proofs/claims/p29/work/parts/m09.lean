/-! part 51.r00 -/
set_option maxHeartbeats 4000000 in
set_option maxRecDepth 100000 in
theorem e_X7_in (l : Launch) (D : va_G) (K : Nat → ClassId) (ad : Nat → Nat) (hap0 : apart ad (fun _ => True)) (a0 : Int32) (a1 : Int32) (a2 : Int32) (I : Nat → Nat → Int32) (G : Nat → Nat → Nat) (A : Nat → Nat → Int32) (L : Nat → Nat → Int64) (r0 : Int32) (h : f_X7_in a0 a1 a2 = some r0) : Ci l D K ad yX7_in wsX7_in 0 0 [.int a0, .int a1, .int a2] (I, G, A, L) (fun (r : Int32) (u : Mem) => r = r0 ∧ u = (I, G, A, L)) := by
  intro sz
  refine Met.ofW (cc := cX7_in) (maxL := 3) (ret := (some .boolean)) (by decide) rfl ?_
  intro p e s m args below meth c s₁ Bd hml hv0
  obtain ⟨rfl, hsz, hP, hK⟩ := hv0
  have hx := Bd.exec
  have hb := Bd.bytes
  have hr := Bd.returns
  have hts := atoms_spec (ws := wsX7_in) Bd.pre
  have hown : s.vm.findClass RX7 = some m.cls := findClass_of_methodNamed Bd.named
  have hlocks := Bd.notSynchronized
  subst hsz
  have hap := vF_ap hap0 s.heap.size
  have hS : va_S (vF ad s.heap.size) s.heap s.heap [] := va_S.rf
  have hP : va_P D vwCl (VW K ad I G A L) s.heap := hP
  have hl := lv_entry ([.int a0, .int a1, .int a2]) (n := 3) (Nat.le_of_ble_eq_true rfl)
  rw [lg_entry_eq]
  generalize (lg_sl ([.int a0, .int a1, .int a2]) ++ List.replicate (3 - (lg_sl ([.int a0, .int a1, .int a2])).length) Slot.unset).toArray = ls at hl ⊢
  have hl : lv_has ls 3 [(0, .int a0), (1, .int a1), (2, .int a2)] := hl
  rw [f_X7_in] at h
  refine lv_iload_n hx hb dX7_in_0 rfl (lv_at hl 0 rfl) ?_
  refine lv_iload_n hx hb dX7_in_1 rfl (lv_at hl 1 rfl) ?_
  refine lv_icmp_lt (tgt := 14) hx hb dX7_in_2 (by decide) (fun c_1 => ?_) (fun c_1 => ?_)
  · have h := ip c_1 h
    refine lv_iconst (v := 0) hx hb dX7_in_14 (by decide) ?_
    exact W.zret (v := 0) hx hb hr (by decide) (fun t9 ht9 hW9 => ⟨⟨0, (I, G, A, L), rfl, by cases h; exact ⟨rfl, rfl⟩, by rw [ht9]; exact hP, va_K.moved hW9.alike hK⟩, hS.F ht9⟩) hS.2.2 dX7_in_15
  · have h := iN c_1 h
    refine lv_iload_n hx hb dX7_in_5 rfl (lv_at hl 0 rfl) ?_
    refine lv_iload_n hx hb dX7_in_6 rfl (lv_at hl 2 rfl) ?_
    refine lv_icmp_gt (tgt := 14) hx hb dX7_in_7 (by decide) (fun c_2 => ?_) (fun c_2 => ?_)
    · have h := ip c_2 h
      refine lv_iconst (v := 0) hx hb dX7_in_14 (by decide) ?_
      exact W.zret (v := 0) hx hb hr (by decide) (fun t9 ht9 hW9 => ⟨⟨0, (I, G, A, L), rfl, by cases h; exact ⟨rfl, rfl⟩, by rw [ht9]; exact hP, va_K.moved hW9.alike hK⟩, hS.F ht9⟩) hS.2.2 dX7_in_15
    · have h := iN c_2 h
      refine lv_iconst (v := 1) hx hb dX7_in_10 (by decide) ?_
      refine lv_goto (tgt := 15) hx hb dX7_in_11 (by decide) ?_
      exact W.zret (v := 1) hx hb hr (by decide) (fun t9 ht9 hW9 => ⟨⟨1, (I, G, A, L), rfl, by cases h; exact ⟨rfl, rfl⟩, by rw [ht9]; exact hP, va_K.moved hW9.alike hK⟩, hS.F ht9⟩) hS.2.2 dX7_in_15
set_option maxHeartbeats 4000000 in
set_option maxRecDepth 100000 in
theorem e_X7_isProblem (l : Launch) (D : va_G) (K : Nat → ClassId) (ad : Nat → Nat) (hap0 : apart ad (fun _ => True)) (a1 : Int32) (I : Nat → Nat → Int32) (G : Nat → Nat → Nat) (A : Nat → Nat → Int32) (L : Nat → Nat → Int64) (r0 : Int32) (h : f_X7_isProblem I a1 = some r0) : Ci l D K ad yX7_isProblem wsX7_isProblem 1 25 [.ref (ad 318), .int a1] (I, G, A, L) (fun (r : Int32) (u : Mem) => r = r0 ∧ u = (I, G, A, L)) := by
  intro sz
  refine Met.ofW (cc := cX7_isProblem) (maxL := 2) (ret := (some .boolean)) (by decide) rfl ?_
  intro p e s m args below meth c s₁ Bd hml hv0
  obtain ⟨rfl, hsz, hP, hK⟩ := hv0
  have hx := Bd.exec
  have hb := Bd.bytes
  have hr := Bd.returns
  have hts := atoms_spec (ws := wsX7_isProblem) Bd.pre
  have hown : s.vm.findClass RX7 = some m.cls := findClass_of_methodNamed Bd.named
  have hlocks := Bd.notSynchronized
  have hi7 : ∀ w ∈ u_ws RX7 TX7 79, w ∈ wsX7_isProblem := fun w h => List.mem_cons_of_mem _ (List.mem_append_right _ h)
  subst hsz
  have hap := vF_ap hap0 s.heap.size
  have hS : va_S (vF ad s.heap.size) s.heap s.heap [] := va_S.rf
  have hP : va_P D vwCl (VW K ad I G A L) s.heap := hP
  have hl := lv_entry ([.ref (ad 318), .int a1]) (n := 2) (Nat.le_of_ble_eq_true rfl)
  rw [lg_entry_eq]
  generalize (lg_sl ([.ref (ad 318), .int a1]) ++ List.replicate (2 - (lg_sl ([.ref (ad 318), .int a1])).length) Slot.unset).toArray = ls at hl ⊢
  have hl : lv_has ls 2 [(0, .ref (ad 318)), (1, .int a1)] := hl
  rw [f_X7_isProblem] at h
  refine lv_iload_n hx hb dX7_isProblem_0 rfl (lv_at hl 1 rfl) ?_
  refine lv_iconst (v := 0) hx hb dX7_isProblem_1 (by decide) ?_
  refine lv_aload_n hx hb dX7_isProblem_2 rfl (lv_at hl 0 rfl) ?_
  refine vgI hx hb hts hi7 hown hK hP (318) (by decide) (show kd 318 = 7 by decide) (C := RX7) (T := TX7) (N := 79) rfl 2 (by decide) (by decide) (by decide) (by decide) (hts (.fieldLink RX7 204 "CrateHelpersModel" "problems" "I") (by decide +kernel)) (fun _ h9 => h9) dX7_isProblem_3 ?_
  refine lv_iconst (v := 1) hx hb dX7_isProblem_6 (by decide) ?_
  refine lv_isub hx hb dX7_isProblem_7 ?_
  obtain ⟨r1, hc2, h⟩ := Option.bind_eq_some_iff.mp h
  refine ecS (As := [.int a1, .int 0, .int ((I 318 2) - 1)]) (rest := []) ⟨hx, hb, hml, hown, hts⟩ (e_X7_in l D K ad hap0 a1 0 ((I 318 2) - 1) I G A L r1 hc2) (va_cwS 3 hts gX7_isProblem_X7_in rfl rfl rfl (by decide +kernel) ⟨Nat.le_of_ble_eq_true rfl, Nat.le_of_ble_eq_true rfl⟩) hK hP hS rfl hl.1 (Nat.le_of_ble_eq_true rfl) (Nat.le_of_ble_eq_true rfl) (Nat.le_of_ble_eq_true rfl) dX7_isProblem_8 (fun H locs hP hS => ?_) rfl
  have hP : va_P D vwCl (VW K ad I G A L) H := hP
  obtain ⟨hz3, h⟩ := gk h
  exact W.zret (v := r1) hx hb hr (nar01 hz3) (fun t9 ht9 hW9 => ⟨⟨r1, (I, G, A, L), rfl, by cases h; exact ⟨rfl, rfl⟩, by rw [ht9]; exact hP, va_K.moved hW9.alike hK⟩, hS.F ht9⟩) hS.2.2 dX7_isProblem_11
set_option maxHeartbeats 4000000 in
set_option maxRecDepth 100000 in
theorem e_X7_isRule (l : Launch) (D : va_G) (K : Nat → ClassId) (ad : Nat → Nat) (hap0 : apart ad (fun _ => True)) (a1 : Int32) (a2 : Int32) (I : Nat → Nat → Int32) (G : Nat → Nat → Nat) (A : Nat → Nat → Int32) (L : Nat → Nat → Int64) (r0 : Int32) (h : f_X7_isRule I A a1 a2 = some r0) : Ci l D K ad yX7_isRule wsX7_isRule 2 49 [.ref (ad 318), .int a1, .int a2] (I, G, A, L) (fun (r : Int32) (u : Mem) => r = r0 ∧ u = (I, G, A, L)) := by
  intro sz
  refine Met.ofW (cc := cX7_isRule) (maxL := 3) (ret := (some .boolean)) (by decide) rfl ?_
  intro p e s m args below meth c s₁ Bd hml hv0
  obtain ⟨rfl, hsz, hP, hK⟩ := hv0
  have hx := Bd.exec
  have hb := Bd.bytes
  have hr := Bd.returns
  have hts := atoms_spec (ws := wsX7_isRule) Bd.pre
  have hown : s.vm.findClass RX7 = some m.cls := findClass_of_methodNamed Bd.named
  have hlocks := Bd.notSynchronized
  have hi7 : ∀ w ∈ u_ws RX7 TX7 79, w ∈ wsX7_isRule := fun w h => List.mem_cons_of_mem _ (List.mem_append_right _ h)
  subst hsz
  have hap := vF_ap hap0 s.heap.size
  have hS : va_S (vF ad s.heap.size) s.heap s.heap [] := va_S.rf
  have hP : va_P D vwCl (VW K ad I G A L) s.heap := hP
  have hl := lv_entry ([.ref (ad 318), .int a1, .int a2]) (n := 3) (Nat.le_of_ble_eq_true rfl)
  rw [lg_entry_eq]
  generalize (lg_sl ([.ref (ad 318), .int a1, .int a2]) ++ List.replicate (3 - (lg_sl ([.ref (ad 318), .int a1, .int a2])).length) Slot.unset).toArray = ls at hl ⊢
  have hl : lv_has ls 3 [(0, .ref (ad 318)), (1, .int a1), (2, .int a2)] := hl
  rw [f_X7_isRule] at h
  refine lv_aload_n hx hb dX7_isRule_0 rfl (lv_at hl 0 rfl) ?_
  refine lv_iload_n hx hb dX7_isRule_1 rfl (lv_at hl 1 rfl) ?_
  obtain ⟨r1, hc2, h⟩ := Option.bind_eq_some_iff.mp h
  refine ecV (As := [.int a1]) (rest := []) ⟨hx, hb, hml, hown, hts⟩ (e_X7_isProblem l D K ad hap0 a1 I G A L r1 hc2) (cwV 1 hts gX7_isRule_X7_isProblem rfl rfl rfl (by decide +kernel) ⟨Nat.le_of_ble_eq_true rfl, Nat.le_of_ble_eq_true rfl⟩) hK hP hS (by decide) (show kd 318 = 7 by decide) (by decide) rfl rfl rfl hl.1 (Nat.le_of_ble_eq_true rfl) (Nat.le_of_ble_eq_true rfl) (Nat.le_of_ble_eq_true rfl) dX7_isRule_2 (fun H locs hP hS => ?_) rfl
  have hP : va_P D vwCl (VW K ad I G A L) H := hP
  refine lv_if_eq (tgt := 28) hx hb dX7_isRule_5 (by decide) (fun c_3 => ?_) (fun c_3 => ?_)
  · have h := ip c_3 h
    refine lv_iconst (v := 0) hx hb dX7_isRule_28 (by decide) ?_
    exact W.zret (v := 0) hx hb hr (by decide) (fun t9 ht9 hW9 => ⟨⟨0, (I, G, A, L), rfl, by cases h; exact ⟨rfl, rfl⟩, by rw [ht9]; exact hP, va_K.moved hW9.alike hK⟩, hS.F ht9⟩) hS.2.2 dX7_isRule_29
  · have h := iN c_3 h
    refine lv_iload_n hx hb dX7_isRule_8 rfl (lv_at hl 2 rfl) ?_
    refine lv_iconst (v := 0) hx hb dX7_isRule_9 (by decide) ?_
    refine lv_aload_n hx hb dX7_isRule_10 rfl (lv_at hl 0 rfl) ?_
    refine vgC hx hb hts hi7 hown hK hP (318) (by decide) (show kd 318 = 7 by decide) (C := RX7) (T := TX7) (N := 79) rfl 4 (by decide) (by decide) (by decide) (by decide) (320) rfl (hts (.fieldLink RX7 13 "CrateHelpersModel" "rules" "[I") (by decide +kernel)) (fun _ h9 => h9) dX7_isRule_11 ?_
    refine lv_iload_n hx hb dX7_isRule_14 rfl (lv_at hl 1 rfl) ?_
    obtain ⟨hn4, h⟩ := gk h
    refine xiald hx hb hK hP (320) (by decide) (show kd 320 = 8 by decide) (by rw [show ln 320 = 5 by decide]; exact hn4) dX7_isRule_15 ?_
    refine lv_iconst (v := 1) hx hb dX7_isRule_16 (by decide) ?_
    refine lv_isub hx hb dX7_isRule_17 ?_
    obtain ⟨r5, hc6, h⟩ := Option.bind_eq_some_iff.mp h
    refine ecS (As := [.int a2, .int 0, .int ((A 320 a1.toNatClampNeg) - 1)]) (rest := []) ⟨hx, hb, hml, hown, hts⟩ (e_X7_in l D K ad hap0 a2 0 ((A 320 a1.toNatClampNeg) - 1) I G A L r5 hc6) (va_cwS 3 hts gX7_isRule_X7_in rfl rfl rfl (by decide +kernel) ⟨Nat.le_of_ble_eq_true rfl, Nat.le_of_ble_eq_true rfl⟩) hK hP hS rfl hl.1 (Nat.le_of_ble_eq_true rfl) (Nat.le_of_ble_eq_true rfl) (Nat.le_of_ble_eq_true rfl) dX7_isRule_18 (fun H locs hP hS => ?_) rfl
    have hP : va_P D vwCl (VW K ad I G A L) H := hP
    refine lv_if_eq (tgt := 28) hx hb dX7_isRule_21 (by decide) (fun c_7 => ?_) (fun c_7 => ?_)
    · have h := ip c_7 h
      refine lv_iconst (v := 0) hx hb dX7_isRule_28 (by decide) ?_
      exact W.zret (v := 0) hx hb hr (by decide) (fun t9 ht9 hW9 => ⟨⟨0, (I, G, A, L), rfl, by cases h; exact ⟨rfl, rfl⟩, by rw [ht9]; exact hP, va_K.moved hW9.alike hK⟩, hS.F ht9⟩) hS.2.2 dX7_isRule_29
    · have h := iN c_7 h
      refine lv_iconst (v := 1) hx hb dX7_isRule_24 (by decide) ?_
      refine lv_goto (tgt := 29) hx hb dX7_isRule_25 (by decide) ?_
      exact W.zret (v := 1) hx hb hr (by decide) (fun t9 ht9 hW9 => ⟨⟨1, (I, G, A, L), rfl, by cases h; exact ⟨rfl, rfl⟩, by rw [ht9]; exact hP, va_K.moved hW9.alike hK⟩, hS.F ht9⟩) hS.2.2 dX7_isRule_29
set_option maxHeartbeats 4000000 in
set_option maxRecDepth 100000 in
theorem e_X7_no (l : Launch) (D : va_G) (K : Nat → ClassId) (ad : Nat → Nat) (hap0 : apart ad (fun _ => True)) (a1 : Int32) (I : Nat → Nat → Int32) (G : Nat → Nat → Nat) (A : Nat → Nat → Int32) (L : Nat → Nat → Int64) (r0 : Int32) (I0 : Nat → Nat → Int32) (h : f_X7_no I a1 = some (r0, I0)) : Ci l D K ad yX7_no wsX7_no 0 0 [.ref (ad 318), .int a1] (I, G, A, L) (fun (r : Int32) (u : Mem) => r = r0 ∧ u = (I0, G, A, L)) := by
  intro sz
  refine Met.ofW (cc := cX7_no) (maxL := 2) (ret := (some .int)) (by decide) rfl ?_
  intro p e s m args below meth c s₁ Bd hml hv0
  obtain ⟨rfl, hsz, hP, hK⟩ := hv0
  have hx := Bd.exec
  have hb := Bd.bytes
  have hr := Bd.returns
  have hts := atoms_spec (ws := wsX7_no) Bd.pre
  have hown : s.vm.findClass RX7 = some m.cls := findClass_of_methodNamed Bd.named
  have hlocks := Bd.notSynchronized
  have hi7 : ∀ w ∈ u_ws RX7 TX7 79, w ∈ wsX7_no := fun w h => List.mem_cons_of_mem _ (List.mem_append_right _ h)
  subst hsz
  have hap := vF_ap hap0 s.heap.size
  have hS : va_S (vF ad s.heap.size) s.heap s.heap [] := va_S.rf
  have hP : va_P D vwCl (VW K ad I G A L) s.heap := hP
  have hl := lv_entry ([.ref (ad 318), .int a1]) (n := 2) (Nat.le_of_ble_eq_true rfl)
  rw [lg_entry_eq]
  generalize (lg_sl ([.ref (ad 318), .int a1]) ++ List.replicate (2 - (lg_sl ([.ref (ad 318), .int a1])).length) Slot.unset).toArray = ls at hl ⊢
  have hl : lv_has ls 2 [(0, .ref (ad 318)), (1, .int a1)] := hl
  rw [f_X7_no] at h
  refine lv_aload_n hx hb dX7_no_0 rfl (lv_at hl 0 rfl) ?_
  refine lv_iload_n hx hb dX7_no_1 rfl (lv_at hl 1 rfl) ?_
  refine vpI (v := a1) (ty := .int) hx hb hts hi7 tyX7 tyX7_ok nmX7 hown hK hP hap hS (318) (by decide) (show kd 318 = 7 by decide) (C := RX7) (T := TX7) (N := 79) rfl 1 (by decide) (by decide) (by decide) (by decide) (hts (.fieldLink RX7 221 "CrateHelpersModel" "status" "I") (by decide +kernel)) (fun _ h9 => h9) rfl (by decide +kernel) rfl rfl dX7_no_2 (fun H locs hP hS => ?_)
  obtain ⟨I1, eI1, h⟩ := bd_e h
  rw [← eI1] at hP
  have hP : va_P D vwCl (VW K ad I1 G A L) H := hP
  refine lv_ldc (v := (-1000000)) hx hb hown (hts (.constant RX7 224 (-1000000)) (by decide +kernel)) dX7_no_5 ?_
  exact W.iret (v := (-1000000)) hx hb hr (fun t9 ht9 hW9 => ⟨⟨(-1000000), (I1, G, A, L), rfl, by cases h; exact ⟨rfl, rfl⟩, by rw [ht9]; exact hP, va_K.moved hW9.alike hK⟩, hS.F ht9⟩) hS.2.2 dX7_no_7
set_option maxHeartbeats 4000000 in
set_option maxRecDepth 100000 in
theorem e_X7_about (l : Launch) (D : va_G) (K : Nat → ClassId) (ad : Nat → Nat) (hap0 : apart ad (fun _ => True)) (a1 : Int32) (a2 : Int32) (a3 : Int32) (I : Nat → Nat → Int32) (G : Nat → Nat → Nat) (A : Nat → Nat → Int32) (L : Nat → Nat → Int64) (r0 : Int32) (I0 : Nat → Nat → Int32) (h : f_X7_about I A a1 a2 a3 = some (r0, I0)) : Ci l D K ad yX7_about wsX7_about 3 74 [.ref (ad 318), .int a1, .int a2, .int a3] (I, G, A, L) (fun (r : Int32) (u : Mem) => r = r0 ∧ u = (I0, G, A, L)) := by
  intro sz
  refine Met.ofW (cc := cX7_about) (maxL := 4) (ret := (some .int)) (by decide) rfl ?_
  intro p e s m args below meth c s₁ Bd hml hv0
  obtain ⟨rfl, hsz, hP, hK⟩ := hv0
  have hx := Bd.exec
  have hb := Bd.bytes
  have hr := Bd.returns
  have hts := atoms_spec (ws := wsX7_about) Bd.pre
  have hown : s.vm.findClass RX7 = some m.cls := findClass_of_methodNamed Bd.named
  have hlocks := Bd.notSynchronized
  have hi7 : ∀ w ∈ u_ws RX7 TX7 79, w ∈ wsX7_about := fun w h => List.mem_cons_of_mem _ (List.mem_append_right _ h)
  subst hsz
  have hap := vF_ap hap0 s.heap.size
  have hS : va_S (vF ad s.heap.size) s.heap s.heap [] := va_S.rf
  have hP : va_P D vwCl (VW K ad I G A L) s.heap := hP
  have hl := lv_entry ([.ref (ad 318), .int a1, .int a2, .int a3]) (n := 4) (Nat.le_of_ble_eq_true rfl)
  rw [lg_entry_eq]
  generalize (lg_sl ([.ref (ad 318), .int a1, .int a2, .int a3]) ++ List.replicate (4 - (lg_sl ([.ref (ad 318), .int a1, .int a2, .int a3])).length) Slot.unset).toArray = ls at hl ⊢
  have hl : lv_has ls 4 [(0, .ref (ad 318)), (1, .int a1), (2, .int a2), (3, .int a3)] := hl
  rw [f_X7_about] at h
  refine lv_aload_n hx hb dX7_about_0 rfl (lv_at hl 0 rfl) ?_
  refine lv_iconst (v := 0) hx hb dX7_about_1 (by decide) ?_
  refine vpI (v := 0) (ty := .int) hx hb hts hi7 tyX7 tyX7_ok nmX7 hown hK hP hap hS (318) (by decide) (show kd 318 = 7 by decide) (C := RX7) (T := TX7) (N := 79) rfl 0 (by decide) (by decide) (by decide) (by decide) (hts (.fieldLink RX7 201 "CrateHelpersModel" "thrown" "I") (by decide +kernel)) (fun _ h9 => h9) rfl (by decide +kernel) rfl rfl dX7_about_2 (fun H locs hP hS => ?_)
  obtain ⟨I1, eI1, h⟩ := bd_e h
  rw [← eI1] at hP
  have hP : va_P D vwCl (VW K ad I1 G A L) H := hP
  refine lv_aload_n hx hb dX7_about_5 rfl (lv_at hl 0 rfl) ?_
  refine lv_iconst (v := 0) hx hb dX7_about_6 (by decide) ?_
  refine vpI (v := 0) (ty := .int) hx hb hts hi7 tyX7 tyX7_ok nmX7 hown hK hP hap hS (318) (by decide) (show kd 318 = 7 by decide) (C := RX7) (T := TX7) (N := 79) rfl 1 (by decide) (by decide) (by decide) (by decide) (hts (.fieldLink RX7 221 "CrateHelpersModel" "status" "I") (by decide +kernel)) (fun _ h9 => h9) rfl (by decide +kernel) rfl rfl dX7_about_7 (fun H locs hP hS => ?_)
  obtain ⟨I2, eI2, h⟩ := bd_e h
  rw [← eI2] at hP
  have hP : va_P D vwCl (VW K ad I2 G A L) H := hP
  refine lv_aload_n hx hb dX7_about_10 rfl (lv_at hl 0 rfl) ?_
  refine lv_iload_n hx hb dX7_about_11 rfl (lv_at hl 1 rfl) ?_
  obtain ⟨r3, hc4, h⟩ := Option.bind_eq_some_iff.mp h
  refine ecV (As := [.int a1]) (rest := []) ⟨hx, hb, hml, hown, hts⟩ (e_X7_isProblem l D K ad hap0 a1 I2 G A L r3 hc4) (cwV 1 hts gX7_about_X7_isProblem rfl rfl rfl (by decide +kernel) ⟨Nat.le_of_ble_eq_true rfl, Nat.le_of_ble_eq_true rfl⟩) hK hP hS (by decide) (show kd 318 = 7 by decide) (by decide) rfl rfl rfl hl.1 (Nat.le_of_ble_eq_true rfl) (Nat.le_of_ble_eq_true rfl) (Nat.le_of_ble_eq_true rfl) dX7_about_12 (fun H locs hP hS => ?_) rfl
  have hP : va_P D vwCl (VW K ad I2 G A L) H := hP
  refine lv_if_eq (tgt := 28) hx hb dX7_about_15 (by decide) (fun c_5 => ?_) (fun c_5 => ?_)
  · have h := ip c_5 h
    refine lv_aload_n hx hb dX7_about_28 rfl (lv_at hl 0 rfl) ?_
    refine lv_iconst (v := (-1)) hx hb dX7_about_29 (by decide) ?_
    obtain ⟨⟨r6, I7⟩, hc8, h⟩ := Option.bind_eq_some_iff.mp h
    refine ecV (As := [.int (-1)]) (rest := []) ⟨hx, hb, hml, hown, hts⟩ (e_X7_no l D K ad hap0 (-1) I2 G A L r6 I7 hc8) (cwV 1 hts gX7_about_X7_no rfl rfl rfl (by decide +kernel) ⟨Nat.le_of_ble_eq_true rfl, Nat.le_of_ble_eq_true rfl⟩) hK hP hS (by decide) (show kd 318 = 7 by decide) (by decide) rfl rfl rfl hl.1 (Nat.le_of_ble_eq_true rfl) (Nat.le_of_ble_eq_true rfl) (Nat.le_of_ble_eq_true rfl) dX7_about_30 (fun H locs hP hS => ?_) rfl
    have hP : va_P D vwCl (VW K ad I7 G A L) H := hP
    exact W.iret (v := r6) hx hb hr (fun t9 ht9 hW9 => ⟨⟨r6, (I7, G, A, L), rfl, by cases h; exact ⟨rfl, rfl⟩, by rw [ht9]; exact hP, va_K.moved hW9.alike hK⟩, hS.F ht9⟩) hS.2.2 dX7_about_33
  · have h := iN c_5 h
    refine lv_iload_n hx hb dX7_about_18 rfl (lv_at hl 2 rfl) ?_
    refine lv_iconst (v := 0) hx hb dX7_about_19 (by decide) ?_
    refine lv_bipush (v := 6) hx hb dX7_about_20 (by decide) ?_
    obtain ⟨r9, hc10, h⟩ := Option.bind_eq_some_iff.mp h
    refine ecS (As := [.int a2, .int 0, .int 6]) (rest := []) ⟨hx, hb, hml, hown, hts⟩ (e_X7_in l D K ad hap0 a2 0 6 I2 G A L r9 hc10) (va_cwS 3 hts gX7_about_X7_in rfl rfl rfl (by decide +kernel) ⟨Nat.le_of_ble_eq_true rfl, Nat.le_of_ble_eq_true rfl⟩) hK hP hS rfl hl.1 (Nat.le_of_ble_eq_true rfl) (Nat.le_of_ble_eq_true rfl) (Nat.le_of_ble_eq_true rfl) dX7_about_22 (fun H locs hP hS => ?_) rfl
    have hP : va_P D vwCl (VW K ad I2 G A L) H := hP
    refine lv_if_ne (tgt := 34) hx hb dX7_about_25 (by decide) (fun c_11 => ?_) (fun c_11 => ?_)
    · have h := iN c_11 h
      refine lv_iload_n hx hb dX7_about_34 rfl (lv_at hl 2 rfl) ?_
      refine lv_if_ne (tgt := 45) hx hb dX7_about_35 (by decide) (fun c_12 => ?_) (fun c_12 => ?_)
      · have h := iN c_12 h
        refine lv_iload_n hx hb dX7_about_45 rfl (lv_at hl 2 rfl) ?_
        refine lv_iconst (v := 1) hx hb dX7_about_46 (by decide) ?_
        refine lv_icmp_ne (tgt := 57) hx hb dX7_about_47 (by decide) (fun c_13 => ?_) (fun c_13 => ?_)
        · have h := iN c_13 h
          refine lv_iload_n hx hb dX7_about_57 rfl (lv_at hl 2 rfl) ?_
          refine lv_iconst (v := 5) hx hb dX7_about_58 (by decide) ?_
          refine lv_icmp_ge (tgt := 129) hx hb dX7_about_59 (by decide) (fun c_14 => ?_) (fun c_14 => ?_)
          · have h := iN (Int32.not_lt.mpr c_14) h
            refine lv_iload_n hx hb dX7_about_129 rfl (lv_at hl 3 rfl) ?_
            refine lv_iconst (v := 0) hx hb dX7_about_130 (by decide) ?_
            refine lv_aload_n hx hb dX7_about_131 rfl (lv_at hl 0 rfl) ?_
            refine vgC hx hb hts hi7 hown hK hP (318) (by decide) (show kd 318 = 7 by decide) (C := RX7) (T := TX7) (N := 79) rfl 3 (by decide) (by decide) (by decide) (by decide) (319) rfl (hts (.fieldLink RX7 7 "CrateHelpersModel" "variables" "[I") (by decide +kernel)) (fun _ h9 => h9) dX7_about_132 ?_
            refine lv_iload_n hx hb dX7_about_135 rfl (lv_at hl 1 rfl) ?_
            obtain ⟨hn15, h⟩ := gk h
            refine xiald hx hb hK hP (319) (by decide) (show kd 319 = 8 by decide) (by rw [show ln 319 = 5 by decide]; exact hn15) dX7_about_136 ?_
            refine lv_iconst (v := 1) hx hb dX7_about_137 (by decide) ?_
            refine lv_isub hx hb dX7_about_138 ?_
            obtain ⟨r16, hc17, h⟩ := Option.bind_eq_some_iff.mp h
            refine ecS (As := [.int a3, .int 0, .int ((A 319 a1.toNatClampNeg) - 1)]) (rest := []) ⟨hx, hb, hml, hown, hts⟩ (e_X7_in l D K ad hap0 a3 0 ((A 319 a1.toNatClampNeg) - 1) I2 G A L r16 hc17) (va_cwS 3 hts gX7_about_X7_in rfl rfl rfl (by decide +kernel) ⟨Nat.le_of_ble_eq_true rfl, Nat.le_of_ble_eq_true rfl⟩) hK hP hS rfl hl.1 (Nat.le_of_ble_eq_true rfl) (Nat.le_of_ble_eq_true rfl) (Nat.le_of_ble_eq_true rfl) dX7_about_139 (fun H locs hP hS => ?_) rfl
            have hP : va_P D vwCl (VW K ad I2 G A L) H := hP
            refine lv_if_ne (tgt := 153) hx hb dX7_about_142 (by decide) (fun c_18 => ?_) (fun c_18 => ?_)
            · have h := iN c_18 h
              refine lv_iload_n hx hb dX7_about_153 rfl (lv_at hl 2 rfl) ?_
              refine lv_iconst (v := 5) hx hb dX7_about_154 (by decide) ?_
              refine lv_icmp_ne (tgt := 172) hx hb dX7_about_155 (by decide) (fun c_19 => ?_) (fun c_19 => ?_)
              · have h := iN c_19 h
                refine lv_aload_n hx hb dX7_about_172 rfl (lv_at hl 0 rfl) ?_
                refine vgC hx hb hts hi7 hown hK hP (318) (by decide) (show kd 318 = 7 by decide) (C := RX7) (T := TX7) (N := 79) rfl 6 (by decide) (by decide) (by decide) (by decide) (322) rfl (hts (.fieldLink RX7 19 "CrateHelpersModel" "kinds" "[I") (by decide +kernel)) (fun _ h9 => h9) dX7_about_173 ?_
                refine lv_bipush (v := 6) hx hb dX7_about_176 (by decide) ?_
                refine lv_iload_n hx hb dX7_about_178 rfl (lv_at hl 1 rfl) ?_
                refine lv_imul hx hb dX7_about_179 ?_
                refine lv_iload_n hx hb dX7_about_180 rfl (lv_at hl 3 rfl) ?_
                refine lv_iadd hx hb dX7_about_181 ?_
                obtain ⟨hn20, h⟩ := gk h
                refine xiald hx hb hK hP (322) (by decide) (show kd 322 = 8 by decide) (by rw [show ln 322 = 30 by decide]; exact hn20) dX7_about_182 ?_
                exact W.iret (v := (A 322 (((6 * a1) + a3).toNatClampNeg))) hx hb hr (fun t9 ht9 hW9 => ⟨⟨(A 322 (((6 * a1) + a3).toNatClampNeg)), (I2, G, A, L), rfl, by cases h; exact ⟨rfl, rfl⟩, by rw [ht9]; exact hP, va_K.moved hW9.alike hK⟩, hS.F ht9⟩) hS.2.2 dX7_about_183
              · have h := ip c_19 h
                refine lv_aload_n hx hb dX7_about_158 rfl (lv_at hl 0 rfl) ?_
                refine vgC hx hb hts hi7 hown hK hP (318) (by decide) (show kd 318 = 7 by decide) (C := RX7) (T := TX7) (N := 79) rfl 5 (by decide) (by decide) (by decide) (by decide) (321) rfl (hts (.fieldLink RX7 16 "CrateHelpersModel" "values" "[I") (by decide +kernel)) (fun _ h9 => h9) dX7_about_159 ?_
                refine lv_bipush (v := 6) hx hb dX7_about_162 (by decide) ?_
                refine lv_iload_n hx hb dX7_about_164 rfl (lv_at hl 1 rfl) ?_
                refine lv_imul hx hb dX7_about_165 ?_
                refine lv_iload_n hx hb dX7_about_166 rfl (lv_at hl 3 rfl) ?_
                refine lv_iadd hx hb dX7_about_167 ?_
                obtain ⟨hn21, h⟩ := gk h
                refine xiald hx hb hK hP (321) (by decide) (show kd 321 = 8 by decide) (by rw [show ln 321 = 30 by decide]; exact hn21) dX7_about_168 ?_
                refine lv_goto (tgt := 183) hx hb dX7_about_169 (by decide) ?_
                exact W.iret (v := (A 321 (((6 * a1) + a3).toNatClampNeg))) hx hb hr (fun t9 ht9 hW9 => ⟨⟨(A 321 (((6 * a1) + a3).toNatClampNeg)), (I2, G, A, L), rfl, by cases h; exact ⟨rfl, rfl⟩, by rw [ht9]; exact hP, va_K.moved hW9.alike hK⟩, hS.F ht9⟩) hS.2.2 dX7_about_183
            · have h := ip c_18 h
              refine lv_aload_n hx hb dX7_about_145 rfl (lv_at hl 0 rfl) ?_
              refine lv_iconst (v := (-1)) hx hb dX7_about_146 (by decide) ?_
              obtain ⟨⟨r22, I23⟩, hc24, h⟩ := Option.bind_eq_some_iff.mp h
              refine ecV (As := [.int (-1)]) (rest := []) ⟨hx, hb, hml, hown, hts⟩ (e_X7_no l D K ad hap0 (-1) I2 G A L r22 I23 hc24) (cwV 1 hts gX7_about_X7_no rfl rfl rfl (by decide +kernel) ⟨Nat.le_of_ble_eq_true rfl, Nat.le_of_ble_eq_true rfl⟩) hK hP hS (by decide) (show kd 318 = 7 by decide) (by decide) rfl rfl rfl hl.1 (Nat.le_of_ble_eq_true rfl) (Nat.le_of_ble_eq_true rfl) (Nat.le_of_ble_eq_true rfl) dX7_about_147 (fun H locs hP hS => ?_) rfl
              have hP : va_P D vwCl (VW K ad I23 G A L) H := hP
              refine lv_goto (tgt := 183) hx hb dX7_about_150 (by decide) ?_
              exact W.iret (v := r22) hx hb hr (fun t9 ht9 hW9 => ⟨⟨r22, (I23, G, A, L), rfl, by cases h; exact ⟨rfl, rfl⟩, by rw [ht9]; exact hP, va_K.moved hW9.alike hK⟩, hS.F ht9⟩) hS.2.2 dX7_about_183
          · have h := ip (Int32.not_le.mp c_14) h
            refine lv_aload_n hx hb dX7_about_62 rfl (lv_at hl 0 rfl) ?_
            refine lv_iload_n hx hb dX7_about_63 rfl (lv_at hl 1 rfl) ?_
            refine lv_iload_n hx hb dX7_about_64 rfl (lv_at hl 3 rfl) ?_
            obtain ⟨r25, hc26, h⟩ := Option.bind_eq_some_iff.mp h
            refine ecV (As := [.int a1, .int a3]) (rest := []) ⟨hx, hb, hml, hown, hts⟩ (e_X7_isRule l D K ad hap0 a1 a3 I2 G A L r25 hc26) (cwV 2 hts gX7_about_X7_isRule rfl rfl rfl (by decide +kernel) ⟨Nat.le_of_ble_eq_true rfl, Nat.le_of_ble_eq_true rfl⟩) hK hP hS (by decide) (show kd 318 = 7 by decide) (by decide) rfl rfl rfl hl.1 (Nat.le_of_ble_eq_true rfl) (Nat.le_of_ble_eq_true rfl) (Nat.le_of_ble_eq_true rfl) dX7_about_65 (fun H locs hP hS => ?_) rfl
            have hP : va_P D vwCl (VW K ad I2 G A L) H := hP
            refine lv_if_ne (tgt := 79) hx hb dX7_about_68 (by decide) (fun c_27 => ?_) (fun c_27 => ?_)
            · have h := iN c_27 h
              refine lv_iload_n hx hb dX7_about_79 rfl (lv_at hl 2 rfl) ?_
              refine lv_iconst (v := 2) hx hb dX7_about_80 (by decide) ?_
              refine lv_icmp_ne (tgt := 98) hx hb dX7_about_81 (by decide) (fun c_28 => ?_) (fun c_28 => ?_)
              · have h := iN c_28 h
                refine lv_iload_n hx hb dX7_about_98 rfl (lv_at hl 2 rfl) ?_
                refine lv_iconst (v := 3) hx hb dX7_about_99 (by decide) ?_
                refine lv_icmp_ne (tgt := 117) hx hb dX7_about_100 (by decide) (fun c_29 => ?_) (fun c_29 => ?_)
                · have h := iN c_29 h
                  refine lv_aload_n hx hb dX7_about_117 rfl (lv_at hl 0 rfl) ?_
                  refine vgC hx hb hts hi7 hown hK hP (318) (by decide) (show kd 318 = 7 by decide) (C := RX7) (T := TX7) (N := 79) rfl 10 (by decide) (by decide) (by decide) (by decide) (326) rfl (hts (.fieldLink RX7 31 "CrateHelpersModel" "parts" "[I") (by decide +kernel)) (fun _ h9 => h9) dX7_about_118 ?_
                  refine lv_bipush (v := 8) hx hb dX7_about_121 (by decide) ?_
                  refine lv_iload_n hx hb dX7_about_123 rfl (lv_at hl 1 rfl) ?_
                  refine lv_imul hx hb dX7_about_124 ?_
                  refine lv_iload_n hx hb dX7_about_125 rfl (lv_at hl 3 rfl) ?_
                  refine lv_iadd hx hb dX7_about_126 ?_
                  obtain ⟨hn30, h⟩ := gk h
                  refine xiald hx hb hK hP (326) (by decide) (show kd 326 = 8 by decide) (by rw [show ln 326 = 40 by decide]; exact hn30) dX7_about_127 ?_
                  exact W.iret (v := (A 326 (((8 * a1) + a3).toNatClampNeg))) hx hb hr (fun t9 ht9 hW9 => ⟨⟨(A 326 (((8 * a1) + a3).toNatClampNeg)), (I2, G, A, L), rfl, by cases h; exact ⟨rfl, rfl⟩, by rw [ht9]; exact hP, va_K.moved hW9.alike hK⟩, hS.F ht9⟩) hS.2.2 dX7_about_128
                · have h := ip c_29 h
                  refine lv_aload_n hx hb dX7_about_103 rfl (lv_at hl 0 rfl) ?_
                  refine vgC hx hb hts hi7 hown hK hP (318) (by decide) (show kd 318 = 7 by decide) (C := RX7) (T := TX7) (N := 79) rfl 9 (by decide) (by decide) (by decide) (by decide) (325) rfl (hts (.fieldLink RX7 28 "CrateHelpersModel" "ruleNumber" "[I") (by decide +kernel)) (fun _ h9 => h9) dX7_about_104 ?_
                  refine lv_bipush (v := 8) hx hb dX7_about_107 (by decide) ?_
                  refine lv_iload_n hx hb dX7_about_109 rfl (lv_at hl 1 rfl) ?_
                  refine lv_imul hx hb dX7_about_110 ?_
                  refine lv_iload_n hx hb dX7_about_111 rfl (lv_at hl 3 rfl) ?_
                  refine lv_iadd hx hb dX7_about_112 ?_
                  obtain ⟨hn31, h⟩ := gk h
                  refine xiald hx hb hK hP (325) (by decide) (show kd 325 = 8 by decide) (by rw [show ln 325 = 40 by decide]; exact hn31) dX7_about_113 ?_
                  refine lv_goto (tgt := 128) hx hb dX7_about_114 (by decide) ?_
                  exact W.iret (v := (A 325 (((8 * a1) + a3).toNatClampNeg))) hx hb hr (fun t9 ht9 hW9 => ⟨⟨(A 325 (((8 * a1) + a3).toNatClampNeg)), (I2, G, A, L), rfl, by cases h; exact ⟨rfl, rfl⟩, by rw [ht9]; exact hP, va_K.moved hW9.alike hK⟩, hS.F ht9⟩) hS.2.2 dX7_about_128
              · have h := ip c_28 h
                refine lv_aload_n hx hb dX7_about_84 rfl (lv_at hl 0 rfl) ?_
                refine vgC hx hb hts hi7 hown hK hP (318) (by decide) (show kd 318 = 7 by decide) (C := RX7) (T := TX7) (N := 79) rfl 8 (by decide) (by decide) (by decide) (by decide) (324) rfl (hts (.fieldLink RX7 25 "CrateHelpersModel" "ruleKind" "[I") (by decide +kernel)) (fun _ h9 => h9) dX7_about_85 ?_
                refine lv_bipush (v := 8) hx hb dX7_about_88 (by decide) ?_
                refine lv_iload_n hx hb dX7_about_90 rfl (lv_at hl 1 rfl) ?_
                refine lv_imul hx hb dX7_about_91 ?_
                refine lv_iload_n hx hb dX7_about_92 rfl (lv_at hl 3 rfl) ?_
                refine lv_iadd hx hb dX7_about_93 ?_
                obtain ⟨hn32, h⟩ := gk h
                refine xiald hx hb hK hP (324) (by decide) (show kd 324 = 8 by decide) (by rw [show ln 324 = 40 by decide]; exact hn32) dX7_about_94 ?_
                refine lv_goto (tgt := 128) hx hb dX7_about_95 (by decide) ?_
                exact W.iret (v := (A 324 (((8 * a1) + a3).toNatClampNeg))) hx hb hr (fun t9 ht9 hW9 => ⟨⟨(A 324 (((8 * a1) + a3).toNatClampNeg)), (I2, G, A, L), rfl, by cases h; exact ⟨rfl, rfl⟩, by rw [ht9]; exact hP, va_K.moved hW9.alike hK⟩, hS.F ht9⟩) hS.2.2 dX7_about_128
            · have h := ip c_27 h
              refine lv_aload_n hx hb dX7_about_71 rfl (lv_at hl 0 rfl) ?_
              refine lv_iconst (v := (-1)) hx hb dX7_about_72 (by decide) ?_
              obtain ⟨⟨r33, I34⟩, hc35, h⟩ := Option.bind_eq_some_iff.mp h
              refine ecV (As := [.int (-1)]) (rest := []) ⟨hx, hb, hml, hown, hts⟩ (e_X7_no l D K ad hap0 (-1) I2 G A L r33 I34 hc35) (cwV 1 hts gX7_about_X7_no rfl rfl rfl (by decide +kernel) ⟨Nat.le_of_ble_eq_true rfl, Nat.le_of_ble_eq_true rfl⟩) hK hP hS (by decide) (show kd 318 = 7 by decide) (by decide) rfl rfl rfl hl.1 (Nat.le_of_ble_eq_true rfl) (Nat.le_of_ble_eq_true rfl) (Nat.le_of_ble_eq_true rfl) dX7_about_73 (fun H locs hP hS => ?_) rfl
              have hP : va_P D vwCl (VW K ad I34 G A L) H := hP
              refine lv_goto (tgt := 128) hx hb dX7_about_76 (by decide) ?_
              exact W.iret (v := r33) hx hb hr (fun t9 ht9 hW9 => ⟨⟨r33, (I34, G, A, L), rfl, by cases h; exact ⟨rfl, rfl⟩, by rw [ht9]; exact hP, va_K.moved hW9.alike hK⟩, hS.F ht9⟩) hS.2.2 dX7_about_128
        · have h := ip c_13 h
          refine lv_aload_n hx hb dX7_about_50 rfl (lv_at hl 0 rfl) ?_
          refine vgC hx hb hts hi7 hown hK hP (318) (by decide) (show kd 318 = 7 by decide) (C := RX7) (T := TX7) (N := 79) rfl 4 (by decide) (by decide) (by decide) (by decide) (320) rfl (hts (.fieldLink RX7 13 "CrateHelpersModel" "rules" "[I") (by decide +kernel)) (fun _ h9 => h9) dX7_about_51 ?_
          refine lv_iload_n hx hb dX7_about_54 rfl (lv_at hl 1 rfl) ?_
          obtain ⟨hn36, h⟩ := gk h
          refine xiald hx hb hK hP (320) (by decide) (show kd 320 = 8 by decide) (by rw [show ln 320 = 5 by decide]; exact hn36) dX7_about_55 ?_
          exact W.iret (v := (A 320 a1.toNatClampNeg)) hx hb hr (fun t9 ht9 hW9 => ⟨⟨(A 320 a1.toNatClampNeg), (I2, G, A, L), rfl, by cases h; exact ⟨rfl, rfl⟩, by rw [ht9]; exact hP, va_K.moved hW9.alike hK⟩, hS.F ht9⟩) hS.2.2 dX7_about_56
      · have h := ip c_12 h
        refine lv_aload_n hx hb dX7_about_38 rfl (lv_at hl 0 rfl) ?_
        refine vgC hx hb hts hi7 hown hK hP (318) (by decide) (show kd 318 = 7 by decide) (C := RX7) (T := TX7) (N := 79) rfl 3 (by decide) (by decide) (by decide) (by decide) (319) rfl (hts (.fieldLink RX7 7 "CrateHelpersModel" "variables" "[I") (by decide +kernel)) (fun _ h9 => h9) dX7_about_39 ?_
        refine lv_iload_n hx hb dX7_about_42 rfl (lv_at hl 1 rfl) ?_
        obtain ⟨hn37, h⟩ := gk h
        refine xiald hx hb hK hP (319) (by decide) (show kd 319 = 8 by decide) (by rw [show ln 319 = 5 by decide]; exact hn37) dX7_about_43 ?_
        exact W.iret (v := (A 319 a1.toNatClampNeg)) hx hb hr (fun t9 ht9 hW9 => ⟨⟨(A 319 a1.toNatClampNeg), (I2, G, A, L), rfl, by cases h; exact ⟨rfl, rfl⟩, by rw [ht9]; exact hP, va_K.moved hW9.alike hK⟩, hS.F ht9⟩) hS.2.2 dX7_about_44
    · have h := ip c_11 h
      refine lv_aload_n hx hb dX7_about_28 rfl (lv_at hl 0 rfl) ?_
      refine lv_iconst (v := (-1)) hx hb dX7_about_29 (by decide) ?_
      obtain ⟨⟨r38, I39⟩, hc40, h⟩ := Option.bind_eq_some_iff.mp h
      refine ecV (As := [.int (-1)]) (rest := []) ⟨hx, hb, hml, hown, hts⟩ (e_X7_no l D K ad hap0 (-1) I2 G A L r38 I39 hc40) (cwV 1 hts gX7_about_X7_no rfl rfl rfl (by decide +kernel) ⟨Nat.le_of_ble_eq_true rfl, Nat.le_of_ble_eq_true rfl⟩) hK hP hS (by decide) (show kd 318 = 7 by decide) (by decide) rfl rfl rfl hl.1 (Nat.le_of_ble_eq_true rfl) (Nat.le_of_ble_eq_true rfl) (Nat.le_of_ble_eq_true rfl) dX7_about_30 (fun H locs hP hS => ?_) rfl
      have hP : va_P D vwCl (VW K ad I39 G A L) H := hP
      exact W.iret (v := r38) hx hb hr (fun t9 ht9 hW9 => ⟨⟨r38, (I39, G, A, L), rfl, by cases h; exact ⟨rfl, rfl⟩, by rw [ht9]; exact hP, va_K.moved hW9.alike hK⟩, hS.F ht9⟩) hS.2.2 dX7_about_33
set_option maxHeartbeats 4000000 in
set_option maxRecDepth 100000 in
theorem e_X7_addNode (l : Launch) (D : va_G) (K : Nat → ClassId) (ad : Nat → Nat) (hap0 : apart ad (fun _ => True)) (a1 : Int32) (a2 : Int32) (I : Nat → Nat → Int32) (G : Nat → Nat → Nat) (A : Nat → Nat → Int32) (L : Nat → Nat → Int64) (I0 : Nat → Nat → Int32) (A0 : Nat → Nat → Int32) (h : f_X7_addNode I A a1 a2 = some (I0, A0)) : Cv l D K ad yX7_addNode wsX7_addNode 0 0 [.ref (ad 318), .int a1, .int a2] (I, G, A, L) (fun (u : Mem) => u = (I0, G, A0, L)) := by
  intro sz
  refine Met.ofW (cc := cX7_addNode) (maxL := 6) (ret := none) (by decide) rfl ?_
  intro p e s m args below meth c s₁ Bd hml hv0
  obtain ⟨rfl, hsz, hP, hK⟩ := hv0
  have hx := Bd.exec
  have hb := Bd.bytes
  have hr := Bd.returns
  have hts := atoms_spec (ws := wsX7_addNode) Bd.pre
  have hown : s.vm.findClass RX7 = some m.cls := findClass_of_methodNamed Bd.named
  have hlocks := Bd.notSynchronized
  have hi7 : ∀ w ∈ u_ws RX7 TX7 79, w ∈ wsX7_addNode := fun w h => List.mem_cons_of_mem _ (List.mem_append_right _ h)
  subst hsz
  have hap := vF_ap hap0 s.heap.size
  have hS : va_S (vF ad s.heap.size) s.heap s.heap [] := va_S.rf
  have hP : va_P D vwCl (VW K ad I G A L) s.heap := hP
  have hl := lv_entry ([.ref (ad 318), .int a1, .int a2]) (n := 6) (Nat.le_of_ble_eq_true rfl)
  rw [lg_entry_eq]
  generalize (lg_sl ([.ref (ad 318), .int a1, .int a2]) ++ List.replicate (6 - (lg_sl ([.ref (ad 318), .int a1, .int a2])).length) Slot.unset).toArray = ls at hl ⊢
  have hl : lv_has ls 6 [(0, .ref (ad 318)), (1, .int a1), (2, .int a2)] := hl
  rw [f_X7_addNode] at h
  refine lv_aload_n hx hb dX7_addNode_0 rfl (lv_at hl 0 rfl) ?_
  refine vgI hx hb hts hi7 hown hK hP (318) (by decide) (show kd 318 = 7 by decide) (C := RX7) (T := TX7) (N := 79) rfl 29 (by decide) (by decide) (by decide) (by decide) (hts (.fieldLink RX7 284 "CrateHelpersModel" "nodes" "I") (by decide +kernel)) (fun _ h9 => h9) dX7_addNode_1 ?_
  refine lv_istore_n (lv' := [(3, .int (I 318 29)), (0, .ref (ad 318)), (1, .int a1), (2, .int a2)]) hx hb dX7_addNode_4 rfl hl (by decide) rfl (fun ls hl => ?_)
  refine lv_aload_n hx hb dX7_addNode_5 rfl (lv_at hl 1 rfl) ?_
  refine lv_dup hx hb dX7_addNode_6 rfl ?_
  refine vgI hx hb hts hi7 hown hK hP (318) (by decide) (show kd 318 = 7 by decide) (C := RX7) (T := TX7) (N := 79) rfl 29 (by decide) (by decide) (by decide) (by decide) (hts (.fieldLink RX7 284 "CrateHelpersModel" "nodes" "I") (by decide +kernel)) (fun _ h9 => h9) dX7_addNode_7 ?_
  refine lv_iconst (v := 1) hx hb dX7_addNode_10 (by decide) ?_
  refine lv_iadd hx hb dX7_addNode_11 ?_
  refine vpI (v := ((I 318 29) + 1)) (ty := .int) hx hb hts hi7 tyX7 tyX7_ok nmX7 hown hK hP hap hS (318) (by decide) (show kd 318 = 7 by decide) (C := RX7) (T := TX7) (N := 79) rfl 29 (by decide) (by decide) (by decide) (by decide) (hts (.fieldLink RX7 284 "CrateHelpersModel" "nodes" "I") (by decide +kernel)) (fun _ h9 => h9) rfl (by decide +kernel) rfl rfl dX7_addNode_12 (fun H locs hP hS => ?_)
  obtain ⟨I1, eI1, h⟩ := bd_e h
  rw [← eI1] at hP
  have hP : va_P D vwCl (VW K ad I1 G A L) H := hP
  refine lv_aload_n hx hb dX7_addNode_15 rfl (lv_at hl 1 rfl) ?_
  refine vgC hx hb hts hi7 hown hK hP (318) (by decide) (show kd 318 = 7 by decide) (C := RX7) (T := TX7) (N := 79) rfl 32 (by decide) (by decide) (by decide) (by decide) (338) rfl (hts (.fieldLink RX7 74 "CrateHelpersModel" "depth" "[I") (by decide +kernel)) (fun _ h9 => h9) dX7_addNode_16 ?_
  refine lv_iload_n hx hb dX7_addNode_19 rfl (lv_at hl 0 rfl) ?_
  refine lv_iload_n hx hb dX7_addNode_20 rfl (lv_at hl 2 rfl) ?_
  obtain ⟨hn2, h⟩ := gk h
  refine xiast hx hb hK hP hap hS (338) (by decide) (show kd 338 = 8 by decide) (by rw [show ln 338 = 2000 by decide]; exact hn2) dX7_addNode_21 (fun H locs hP hS => ?_)
  obtain ⟨A3, eA3, h⟩ := bd_e h
  rw [← eA3] at hP
  have hP : va_P D vwCl (VW K ad I1 G A3 L) H := hP
  refine lv_aload_n hx hb dX7_addNode_22 rfl (lv_at hl 1 rfl) ?_
  refine vgC hx hb hts hi7 hown hK hP (318) (by decide) (show kd 318 = 7 by decide) (C := RX7) (T := TX7) (N := 79) rfl 36 (by decide) (by decide) (by decide) (by decide) (342) rfl (hts (.fieldLink RX7 86 "CrateHelpersModel" "above" "[I") (by decide +kernel)) (fun _ h9 => h9) dX7_addNode_23 ?_
  refine lv_iload_n hx hb dX7_addNode_26 rfl (lv_at hl 0 rfl) ?_
  refine lv_iload_n hx hb dX7_addNode_27 rfl (lv_at hl 3 rfl) ?_
  refine xiast hx hb hK hP hap hS (342) (by decide) (show kd 342 = 8 by decide) (by rw [show ln 342 = 2000 by decide]; exact hn2) dX7_addNode_28 (fun H locs hP hS => ?_)
  obtain ⟨A4, eA4, h⟩ := bd_e h
  rw [← eA4] at hP
  have hP : va_P D vwCl (VW K ad I1 G A4 L) H := hP
  refine lv_aload_n hx hb dX7_addNode_29 rfl (lv_at hl 1 rfl) ?_
  refine vgC hx hb hts hi7 hown hK hP (318) (by decide) (show kd 318 = 7 by decide) (C := RX7) (T := TX7) (N := 79) rfl 35 (by decide) (by decide) (by decide) (by decide) (341) rfl (hts (.fieldLink RX7 83 "CrateHelpersModel" "bound" "[I") (by decide +kernel)) (fun _ h9 => h9) dX7_addNode_30 ?_
  refine lv_iload_n hx hb dX7_addNode_33 rfl (lv_at hl 0 rfl) ?_
  refine lv_aload_n hx hb dX7_addNode_34 rfl (lv_at hl 1 rfl) ?_
  refine vgI hx hb hts hi7 hown hK hP (318) (by decide) (show kd 318 = 7 by decide) (C := RX7) (T := TX7) (N := 79) rfl 65 (by decide) (by decide) (by decide) (by decide) (hts (.fieldLink RX7 278 "CrateHelpersModel" "boundNow" "I") (by decide +kernel)) (fun _ h9 => h9) dX7_addNode_35 ?_
  refine xiast hx hb hK hP hap hS (341) (by decide) (show kd 341 = 8 by decide) (by rw [show ln 341 = 2000 by decide]; exact hn2) dX7_addNode_38 (fun H locs hP hS => ?_)
  obtain ⟨A5, eA5, h⟩ := bd_e h
  rw [← eA5] at hP
  have hP : va_P D vwCl (VW K ad I1 G A5 L) H := hP
  refine lv_aload_n hx hb dX7_addNode_39 rfl (lv_at hl 1 rfl) ?_
  refine vgC hx hb hts hi7 hown hK hP (318) (by decide) (show kd 318 = 7 by decide) (C := RX7) (T := TX7) (N := 79) rfl 37 (by decide) (by decide) (by decide) (by decide) (343) rfl (hts (.fieldLink RX7 89 "CrateHelpersModel" "holder" "[I") (by decide +kernel)) (fun _ h9 => h9) dX7_addNode_40 ?_
  refine lv_iload_n hx hb dX7_addNode_43 rfl (lv_at hl 0 rfl) ?_
  refine lv_bipush (v := (-9)) hx hb dX7_addNode_44 (by decide) ?_
  refine xiast hx hb hK hP hap hS (343) (by decide) (show kd 343 = 8 by decide) (by rw [show ln 343 = 2000 by decide]; exact hn2) dX7_addNode_46 (fun H locs hP hS => ?_)
  obtain ⟨A6, eA6, h⟩ := bd_e h
  rw [← eA6] at hP
  have hP : va_P D vwCl (VW K ad I1 G A6 L) H := hP
  refine lv_aload_n hx hb dX7_addNode_47 rfl (lv_at hl 1 rfl) ?_
  refine vgC hx hb hts hi7 hown hK hP (318) (by decide) (show kd 318 = 7 by decide) (C := RX7) (T := TX7) (N := 79) rfl 38 (by decide) (by decide) (by decide) (by decide) (344) rfl (hts (.fieldLink RX7 92 "CrateHelpersModel" "isDone" "[Z") (by decide +kernel)) (fun _ h9 => h9) dX7_addNode_48 ?_
  refine lv_iload_n hx hb dX7_addNode_51 rfl (lv_at hl 0 rfl) ?_
  refine lv_iconst (v := 0) hx hb dX7_addNode_52 (by decide) ?_
  refine xzast hx hb hK hP hap hS (344) (by decide) (show kd 344 = 11 by decide) (by rw [show ln 344 = 2000 by decide]; exact hn2) dX7_addNode_53 (fun H locs hP hS => ?_)
  obtain ⟨A7, eA7, h⟩ := bd_e h
  rw [← eA7] at hP
  have hP : va_P D vwCl (VW K ad I1 G A7 L) H := hP
  refine lv_aload_n hx hb dX7_addNode_54 rfl (lv_at hl 1 rfl) ?_
  refine vgC hx hb hts hi7 hown hK hP (318) (by decide) (show kd 318 = 7 by decide) (C := RX7) (T := TX7) (N := 79) rfl 39 (by decide) (by decide) (by decide) (by decide) (345) rfl (hts (.fieldLink RX7 96 "CrateHelpersModel" "isTaken" "[Z") (by decide +kernel)) (fun _ h9 => h9) dX7_addNode_55 ?_
  refine lv_iload_n hx hb dX7_addNode_58 rfl (lv_at hl 0 rfl) ?_
  refine lv_iconst (v := 0) hx hb dX7_addNode_59 (by decide) ?_
  refine xzast hx hb hK hP hap hS (345) (by decide) (show kd 345 = 11 by decide) (by rw [show ln 345 = 2000 by decide]; exact hn2) dX7_addNode_60 (fun H locs hP hS => ?_)
  obtain ⟨A8, eA8, h⟩ := bd_e h
  rw [← eA8] at hP
  have hP : va_P D vwCl (VW K ad I1 G A8 L) H := hP
  refine lv_aload_n hx hb dX7_addNode_61 rfl (lv_at hl 1 rfl) ?_
  refine vgC hx hb hts hi7 hown hK hP (318) (by decide) (show kd 318 = 7 by decide) (C := RX7) (T := TX7) (N := 79) rfl 43 (by decide) (by decide) (by decide) (by decide) (349) rfl (hts (.fieldLink RX7 108 "CrateHelpersModel" "openBelow" "[I") (by decide +kernel)) (fun _ h9 => h9) dX7_addNode_62 ?_
  refine lv_iload_n hx hb dX7_addNode_65 rfl (lv_at hl 0 rfl) ?_
  refine lv_iconst (v := 0) hx hb dX7_addNode_66 (by decide) ?_
  refine xiast hx hb hK hP hap hS (349) (by decide) (show kd 349 = 8 by decide) (by rw [show ln 349 = 2000 by decide]; exact hn2) dX7_addNode_67 (fun H locs hP hS => ?_)
  obtain ⟨A9, eA9, h⟩ := bd_e h
  rw [← eA9] at hP
  have hP : va_P D vwCl (VW K ad I1 G A9 L) H := hP
  refine lv_iconst (v := 0) hx hb dX7_addNode_68 (by decide) ?_
  refine lv_istore (lv' := [(4, .int 0), (3, .int (I 318 29)), (0, .ref (ad 318)), (1, .int a1), (2, .int a2)]) hx hb dX7_addNode_69 hl (by decide) rfl (fun ls hl => ?_)
  refine lv_iconst (v := 0) hx hb dX7_addNode_71 (by decide) ?_
  refine lv_istore (lv' := [(5, .int 0), (4, .int 0), (3, .int (I 318 29)), (0, .ref (ad 318)), (1, .int a1), (2, .int a2)]) hx hb dX7_addNode_72 hl (by decide) rfl (fun ls hl => ?_)
  obtain ⟨k15, ek15, h⟩ := bd_e h
  have kk15 : ∀ (v16 : Int32) (v17 : Int32) (A18 : Nat → Nat → Int32), k15 v16 v17 A18 = some (I0, A0) → ∀ (H : Heap) (locs : List Loc), va_P D vwCl (VW K ad I1 G A18 L) H → va_S (vF ad s.heap.size) s.heap H locs → ∀ (ls : Array Slot), lv_has ls 6 [(0, .ref (ad 318)), (3, .int v16), (4, .int v17)] → W p l e ({ frames := 0, cells := 0, slots := 0, locals := 0 }) s m ([.ref (ad 318), .int a1, .int a2] : List Value).toArray below meth c H locs 0 0 (MQ below (va_Qv (fun (u : Mem) => u = (I0, G, A0, L)) (vB D K ad) (vF ad s.heap.size)) ([.ref (ad 318), .int a1, .int a2] : List Value).toArray s 0 0 (vF ad s.heap.size)) (F0 m 144 ls []) := by
    intro v16 v17 A18 h H locs hP hS ls hl
    subst ek15
    refine lv_aload_n hx hb dX7_addNode_144 rfl (lv_at hl 0 rfl) ?_
    refine vgC hx hb hts hi7 hown hK hP (318) (by decide) (show kd 318 = 7 by decide) (C := RX7) (T := TX7) (N := 79) rfl 34 (by decide) (by decide) (by decide) (by decide) (340) rfl (hts (.fieldLink RX7 80 "CrateHelpersModel" "key" "[I") (by decide +kernel)) (fun _ h9 => h9) dX7_addNode_145 ?_
    refine lv_iload_n hx hb dX7_addNode_148 rfl (lv_at hl 1 rfl) ?_
    refine lv_iload hx hb dX7_addNode_149 (lv_at hl 2 rfl) ?_
    obtain ⟨hn19, h⟩ := gk h
    refine xiast hx hb hK hP hap hS (340) (by decide) (show kd 340 = 8 by decide) (by rw [show ln 340 = 2000 by decide]; exact hn19) dX7_addNode_151 (fun H locs hP hS => ?_)
    obtain ⟨A20, eA20, h⟩ := bd_e h
    rw [← eA20] at hP
    have hP : va_P D vwCl (VW K ad I1 G A20 L) H := hP
    exact W.vret hx hb hr (fun t9 ht9 hW9 => ⟨⟨(I1, G, A20, L), rfl, by cases h; rfl, by rw [ht9]; exact hP, va_K.moved hW9.alike hK⟩, hS.F ht9⟩) hS.2.2 dX7_addNode_152
  have lp10 : ∀ (n : Nat) (v11 : Int32) (v12 : Int32) (v13 : Int32) (A14 : Nat → Nat → Int32), f_X7_addNode_L74 a1 I1 k15 n v11 v12 v13 A14 = some (I0, A0) → ∀ (H : Heap) (locs : List Loc), va_P D vwCl (VW K ad I1 G A14 L) H → va_S (vF ad s.heap.size) s.heap H locs → ∀ (ls : Array Slot), lv_has ls 6 [(5, .int v11), (4, .int v12), (3, .int v13), (0, .ref (ad 318)), (1, .int a1)] → W p l e ({ frames := 0, cells := 0, slots := 0, locals := 0 }) s m ([.ref (ad 318), .int a1, .int a2] : List Value).toArray below meth c H locs 0 0 (MQ below (va_Qv (fun (u : Mem) => u = (I0, G, A0, L)) (vB D K ad) (vF ad s.heap.size)) ([.ref (ad 318), .int a1, .int a2] : List Value).toArray s 0 0 (vF ad s.heap.size)) (F0 m 74 ls []) := by
    intro n
    induction n with
    | zero => intro v11 v12 v13 A14 h; exact absurd h (by rw [f_X7_addNode_L74]; exact nofun)
    | succ n ih10 =>
      intro v11 v12 v13 A14 h H locs hP hS ls hl
      rw [f_X7_addNode_L74] at h
      refine lv_iload hx hb dX7_addNode_74 (lv_at hl 0 rfl) ?_
      refine lv_bipush (v := 6) hx hb dX7_addNode_76 (by decide) ?_
      refine lv_icmp_ge (tgt := 144) hx hb dX7_addNode_78 (by decide) (fun c_21 => ?_) (fun c_21 => ?_)
      · have h := iN (Int32.not_lt.mpr c_21) h
        exact kk15 v13 v12 A14 h _ _ hP hS ls (lv_sub hl [3, 2, 1] rfl)
      · have h := ip (Int32.not_le.mp c_21) h
        refine lv_aload_n hx hb dX7_addNode_81 rfl (lv_at hl 3 rfl) ?_
        refine vgC hx hb hts hi7 hown hK hP (318) (by decide) (show kd 318 = 7 by decide) (C := RX7) (T := TX7) (N := 79) rfl 33 (by decide) (by decide) (by decide) (by decide) (339) rfl (hts (.fieldLink RX7 77 "CrateHelpersModel" "row" "[I") (by decide +kernel)) (fun _ h9 => h9) dX7_addNode_82 ?_
        refine lv_bipush (v := 6) hx hb dX7_addNode_85 (by decide) ?_
        refine lv_iload_n hx hb dX7_addNode_87 rfl (lv_at hl 2 rfl) ?_
        refine lv_imul hx hb dX7_addNode_88 ?_
        refine lv_iload hx hb dX7_addNode_89 (lv_at hl 0 rfl) ?_
        refine lv_iadd hx hb dX7_addNode_91 ?_
        refine lv_iload hx hb dX7_addNode_92 (lv_at hl 0 rfl) ?_
        refine lv_iload_n hx hb dX7_addNode_94 rfl (lv_at hl 4 rfl) ?_
        obtain ⟨j24, ej24, h⟩ := bd_e h
        have kj24 : ∀ (z23 : Int32), j24 z23 = some (I0, A0) → ∀ (H : Heap) (locs : List Loc), va_P D vwCl (VW K ad I1 G A14 L) H → va_S (vF ad s.heap.size) s.heap H locs → ∀ (ls : Array Slot), lv_has ls 6 [(5, .int v11), (4, .int v12), (3, .int v13), (0, .ref (ad 318)), (1, .int a1)] → W p l e ({ frames := 0, cells := 0, slots := 0, locals := 0 }) s m ([.ref (ad 318), .int a1, .int a2] : List Value).toArray below meth c H locs 0 0 (MQ below (va_Qv (fun (u : Mem) => u = (I0, G, A0, L)) (vB D K ad) (vF ad s.heap.size)) ([.ref (ad 318), .int a1, .int a2] : List Value).toArray s 0 0 (vF ad s.heap.size)) (F0 m 110 ls [.int z23, .int ((6 * v13) + v11), .ref (ad 339)]) := by
          intro z23 h H locs hP hS ls hl
          subst ej24
          obtain ⟨hn25, h⟩ := gk h
          refine xiast hx hb hK hP hap hS (339) (by decide) (show kd 339 = 8 by decide) (by rw [show ln 339 = 12000 by decide]; exact hn25) dX7_addNode_110 (fun H locs hP hS => ?_)
          obtain ⟨A26, eA26, h⟩ := bd_e h
          rw [← eA26] at hP
          have hP : va_P D vwCl (VW K ad I1 G A26 L) H := hP
          refine lv_bipush (v := 7) hx hb dX7_addNode_111 (by decide) ?_
          refine lv_iload hx hb dX7_addNode_113 (lv_at hl 1 rfl) ?_
          refine lv_imul hx hb dX7_addNode_115 ?_
          refine lv_iload hx hb dX7_addNode_116 (lv_at hl 0 rfl) ?_
          refine lv_iload_n hx hb dX7_addNode_118 rfl (lv_at hl 4 rfl) ?_
          refine lv_icmp_ge (tgt := 134) hx hb dX7_addNode_119 (by decide) (fun c_27 => ?_) (fun c_27 => ?_)
          · have h := iN (Int32.not_lt.mpr c_27) h
            refine lv_iconst (v := 0) hx hb dX7_addNode_134 (by decide) ?_
            refine lv_iadd hx hb dX7_addNode_135 ?_
            refine lv_istore (lv' := [(4, .int ((7 * v12) + 0)), (5, .int v11), (3, .int v13), (0, .ref (ad 318)), (1, .int a1)]) hx hb dX7_addNode_136 hl (by decide) rfl (fun ls hl => ?_)
            refine lv_iinc (v := (v11 + 1)) (lv' := [(5, .int (v11 + 1)), (4, .int ((7 * v12) + 0)), (3, .int v13), (0, .ref (ad 318)), (1, .int a1)]) hx hb dX7_addNode_138 hl (k := 1) rfl rfl (by decide) rfl (fun ls hl => ?_)
            refine lv_goto (tgt := 74) hx hb dX7_addNode_141 (by decide) ?_
            exact ih10 (v11 + 1) ((7 * v12) + 0) v13 A26 h _ _ hP hS ls (lv_sub hl [0, 1, 2, 3, 4] rfl)
          · have h := ip (Int32.not_le.mp c_27) h
            refine lv_aload_n hx hb dX7_addNode_122 rfl (lv_at hl 3 rfl) ?_
            refine vgC hx hb hts hi7 hown hK hP (318) (by decide) (show kd 318 = 7 by decide) (C := RX7) (T := TX7) (N := 79) rfl 63 (by decide) (by decide) (by decide) (by decide) (364) rfl (hts (.fieldLink RX7 159 "CrateHelpersModel" "now" "[I") (by decide +kernel)) (fun _ h9 => h9) dX7_addNode_123 ?_
            refine lv_iload hx hb dX7_addNode_126 (lv_at hl 0 rfl) ?_
            obtain ⟨hn28, h⟩ := gk h
            refine xiald hx hb hK hP (364) (by decide) (show kd 364 = 8 by decide) (by rw [show ln 364 = 6 by decide]; exact hn28) dX7_addNode_128 ?_
            refine lv_iconst (v := 1) hx hb dX7_addNode_129 (by decide) ?_
            refine lv_iadd hx hb dX7_addNode_130 ?_
            refine lv_goto (tgt := 135) hx hb dX7_addNode_131 (by decide) ?_
            refine lv_iadd hx hb dX7_addNode_135 ?_
            refine lv_istore (lv' := [(4, .int ((7 * v12) + ((A26 364 v11.toNatClampNeg) + 1))), (5, .int v11), (3, .int v13), (0, .ref (ad 318)), (1, .int a1)]) hx hb dX7_addNode_136 hl (by decide) rfl (fun ls hl => ?_)
            refine lv_iinc (v := (v11 + 1)) (lv' := [(5, .int (v11 + 1)), (4, .int ((7 * v12) + ((A26 364 v11.toNatClampNeg) + 1))), (3, .int v13), (0, .ref (ad 318)), (1, .int a1)]) hx hb dX7_addNode_138 hl (k := 1) rfl rfl (by decide) rfl (fun ls hl => ?_)
            refine lv_goto (tgt := 74) hx hb dX7_addNode_141 (by decide) ?_
            exact ih10 (v11 + 1) ((7 * v12) + ((A26 364 v11.toNatClampNeg) + 1)) v13 A26 h _ _ hP hS ls (lv_sub hl [0, 1, 2, 3, 4] rfl)
        refine lv_icmp_ge (tgt := 108) hx hb dX7_addNode_95 (by decide) (fun c_29 => ?_) (fun c_29 => ?_)
        · have h := iN (Int32.not_lt.mpr c_29) h
          refine lv_bipush (v := (-9)) hx hb dX7_addNode_108 (by decide) ?_
          exact kj24 (-9) h _ _ hP hS ls (lv_sub hl [0, 1, 2, 3, 4] rfl)
        · have h := ip (Int32.not_le.mp c_29) h
          refine lv_aload_n hx hb dX7_addNode_98 rfl (lv_at hl 3 rfl) ?_
          refine vgC hx hb hts hi7 hown hK hP (318) (by decide) (show kd 318 = 7 by decide) (C := RX7) (T := TX7) (N := 79) rfl 63 (by decide) (by decide) (by decide) (by decide) (364) rfl (hts (.fieldLink RX7 159 "CrateHelpersModel" "now" "[I") (by decide +kernel)) (fun _ h9 => h9) dX7_addNode_99 ?_
          refine lv_iload hx hb dX7_addNode_102 (lv_at hl 0 rfl) ?_
          obtain ⟨hn30, h⟩ := gk h
          refine xiald hx hb hK hP (364) (by decide) (show kd 364 = 8 by decide) (by rw [show ln 364 = 6 by decide]; exact hn30) dX7_addNode_104 ?_
          refine lv_goto (tgt := 110) hx hb dX7_addNode_105 (by decide) ?_
          exact kj24 (A14 364 v11.toNatClampNeg) h _ _ hP hS ls (lv_sub hl [0, 1, 2, 3, 4] rfl)
  exact lp10 FU 0 0 (I 318 29) A9 h _ _ hP hS ls (lv_sub hl [0, 1, 2, 3, 4] rfl)
set_option maxHeartbeats 4000000 in
set_option maxRecDepth 100000 in
theorem e_X7_answer (l : Launch) (D : va_G) (K : Nat → ClassId) (ad : Nat → Nat) (hap0 : apart ad (fun _ => True)) (a1 : Int32) (a2 : Int32) (I : Nat → Nat → Int32) (G : Nat → Nat → Nat) (A : Nat → Nat → Int32) (L : Nat → Nat → Int64) (r0 : Int32) (I0 : Nat → Nat → Int32) (h : f_X7_answer I A a1 a2 = some (r0, I0)) : Ci l D K ad yX7_answer wsX7_answer 2 49 [.ref (ad 318), .int a1, .int a2] (I, G, A, L) (fun (r : Int32) (u : Mem) => r = r0 ∧ u = (I0, G, A, L)) := by
  intro sz
  refine Met.ofW (cc := cX7_answer) (maxL := 3) (ret := (some .int)) (by decide) rfl ?_
  intro p e s m args below meth c s₁ Bd hml hv0
  obtain ⟨rfl, hsz, hP, hK⟩ := hv0
  have hx := Bd.exec
  have hb := Bd.bytes
  have hr := Bd.returns
  have hts := atoms_spec (ws := wsX7_answer) Bd.pre
  have hown : s.vm.findClass RX7 = some m.cls := findClass_of_methodNamed Bd.named
  have hlocks := Bd.notSynchronized
  have hi7 : ∀ w ∈ u_ws RX7 TX7 79, w ∈ wsX7_answer := fun w h => List.mem_cons_of_mem _ (List.mem_append_right _ h)
  subst hsz
  have hap := vF_ap hap0 s.heap.size
  have hS : va_S (vF ad s.heap.size) s.heap s.heap [] := va_S.rf
  have hP : va_P D vwCl (VW K ad I G A L) s.heap := hP
  have hl := lv_entry ([.ref (ad 318), .int a1, .int a2]) (n := 3) (Nat.le_of_ble_eq_true rfl)
  rw [lg_entry_eq]
  generalize (lg_sl ([.ref (ad 318), .int a1, .int a2]) ++ List.replicate (3 - (lg_sl ([.ref (ad 318), .int a1, .int a2])).length) Slot.unset).toArray = ls at hl ⊢
  have hl : lv_has ls 3 [(0, .ref (ad 318)), (1, .int a1), (2, .int a2)] := hl
  rw [f_X7_answer] at h
  refine lv_aload_n hx hb dX7_answer_0 rfl (lv_at hl 0 rfl) ?_
  refine lv_iconst (v := 0) hx hb dX7_answer_1 (by decide) ?_
  refine vpI (v := 0) (ty := .int) hx hb hts hi7 tyX7 tyX7_ok nmX7 hown hK hP hap hS (318) (by decide) (show kd 318 = 7 by decide) (C := RX7) (T := TX7) (N := 79) rfl 0 (by decide) (by decide) (by decide) (by decide) (hts (.fieldLink RX7 201 "CrateHelpersModel" "thrown" "I") (by decide +kernel)) (fun _ h9 => h9) rfl (by decide +kernel) rfl rfl dX7_answer_2 (fun H locs hP hS => ?_)
  obtain ⟨I1, eI1, h⟩ := bd_e h
  rw [← eI1] at hP
  have hP : va_P D vwCl (VW K ad I1 G A L) H := hP
  refine lv_aload_n hx hb dX7_answer_5 rfl (lv_at hl 0 rfl) ?_
  refine lv_iload_n hx hb dX7_answer_6 rfl (lv_at hl 1 rfl) ?_
  obtain ⟨r2, hc3, h⟩ := Option.bind_eq_some_iff.mp h
  refine ecV (As := [.int a1]) (rest := []) ⟨hx, hb, hml, hown, hts⟩ (e_X7_isProblem l D K ad hap0 a1 I1 G A L r2 hc3) (cwV 1 hts gX7_answer_X7_isProblem rfl rfl rfl (by decide +kernel) ⟨Nat.le_of_ble_eq_true rfl, Nat.le_of_ble_eq_true rfl⟩) hK hP hS (by decide) (show kd 318 = 7 by decide) (by decide) rfl rfl rfl hl.1 (Nat.le_of_ble_eq_true rfl) (Nat.le_of_ble_eq_true rfl) (Nat.le_of_ble_eq_true rfl) dX7_answer_7 (fun H locs hP hS => ?_) rfl
  have hP : va_P D vwCl (VW K ad I1 G A L) H := hP
  refine lv_if_eq (tgt := 29) hx hb dX7_answer_10 (by decide) (fun c_4 => ?_) (fun c_4 => ?_)
  · have h := ip c_4 h
    refine lv_iconst (v := (-1)) hx hb dX7_answer_29 (by decide) ?_
    exact W.iret (v := (-1)) hx hb hr (fun t9 ht9 hW9 => ⟨⟨(-1), (I1, G, A, L), rfl, by cases h; exact ⟨rfl, rfl⟩, by rw [ht9]; exact hP, va_K.moved hW9.alike hK⟩, hS.F ht9⟩) hS.2.2 dX7_answer_30
  · have h := iN c_4 h
    refine lv_iload_n hx hb dX7_answer_13 rfl (lv_at hl 2 rfl) ?_
    refine lv_iconst (v := 0) hx hb dX7_answer_14 (by decide) ?_
    refine lv_aload_n hx hb dX7_answer_15 rfl (lv_at hl 0 rfl) ?_
    refine vgC hx hb hts hi7 hown hK hP (318) (by decide) (show kd 318 = 7 by decide) (C := RX7) (T := TX7) (N := 79) rfl 3 (by decide) (by decide) (by decide) (by decide) (319) rfl (hts (.fieldLink RX7 7 "CrateHelpersModel" "variables" "[I") (by decide +kernel)) (fun _ h9 => h9) dX7_answer_16 ?_
    refine lv_iload_n hx hb dX7_answer_19 rfl (lv_at hl 1 rfl) ?_
    obtain ⟨hn5, h⟩ := gk h
    refine xiald hx hb hK hP (319) (by decide) (show kd 319 = 8 by decide) (by rw [show ln 319 = 5 by decide]; exact hn5) dX7_answer_20 ?_
    refine lv_iconst (v := 1) hx hb dX7_answer_21 (by decide) ?_
    refine lv_isub hx hb dX7_answer_22 ?_
    obtain ⟨r6, hc7, h⟩ := Option.bind_eq_some_iff.mp h
    refine ecS (As := [.int a2, .int 0, .int ((A 319 a1.toNatClampNeg) - 1)]) (rest := []) ⟨hx, hb, hml, hown, hts⟩ (e_X7_in l D K ad hap0 a2 0 ((A 319 a1.toNatClampNeg) - 1) I1 G A L r6 hc7) (va_cwS 3 hts gX7_answer_X7_in rfl rfl rfl (by decide +kernel) ⟨Nat.le_of_ble_eq_true rfl, Nat.le_of_ble_eq_true rfl⟩) hK hP hS rfl hl.1 (Nat.le_of_ble_eq_true rfl) (Nat.le_of_ble_eq_true rfl) (Nat.le_of_ble_eq_true rfl) dX7_answer_23 (fun H locs hP hS => ?_) rfl
    have hP : va_P D vwCl (VW K ad I1 G A L) H := hP
    refine lv_if_ne (tgt := 31) hx hb dX7_answer_26 (by decide) (fun c_8 => ?_) (fun c_8 => ?_)
    · have h := iN c_8 h
      refine lv_aload_n hx hb dX7_answer_31 rfl (lv_at hl 0 rfl) ?_
      refine vgC hx hb hts hi7 hown hK hP (318) (by decide) (show kd 318 = 7 by decide) (C := RX7) (T := TX7) (N := 79) rfl 46 (by decide) (by decide) (by decide) (by decide) (352) rfl (hts (.fieldLink RX7 117 "CrateHelpersModel" "hasAnswer" "[Z") (by decide +kernel)) (fun _ h9 => h9) dX7_answer_32 ?_
      refine lv_iload_n hx hb dX7_answer_35 rfl (lv_at hl 1 rfl) ?_
      refine xzald hx hb hK hP (352) (by decide) (show kd 352 = 11 by decide) (by rw [show ln 352 = 5 by decide]; exact hn5) dX7_answer_36 ?_
      refine lv_if_eq (tgt := 54) hx hb dX7_answer_37 (by decide) (fun c_9 => ?_) (fun c_9 => ?_)
      · have h := ip c_9 h
        refine lv_bipush (v := (-9)) hx hb dX7_answer_54 (by decide) ?_
        exact W.iret (v := (-9)) hx hb hr (fun t9 ht9 hW9 => ⟨⟨(-9), (I1, G, A, L), rfl, by cases h; exact ⟨rfl, rfl⟩, by rw [ht9]; exact hP, va_K.moved hW9.alike hK⟩, hS.F ht9⟩) hS.2.2 dX7_answer_56
      · have h := iN c_9 h
        refine lv_aload_n hx hb dX7_answer_40 rfl (lv_at hl 0 rfl) ?_
        refine vgC hx hb hts hi7 hown hK hP (318) (by decide) (show kd 318 = 7 by decide) (C := RX7) (T := TX7) (N := 79) rfl 47 (by decide) (by decide) (by decide) (by decide) (353) rfl (hts (.fieldLink RX7 120 "CrateHelpersModel" "answerRow" "[I") (by decide +kernel)) (fun _ h9 => h9) dX7_answer_41 ?_
        refine lv_bipush (v := 6) hx hb dX7_answer_44 (by decide) ?_
        refine lv_iload_n hx hb dX7_answer_46 rfl (lv_at hl 1 rfl) ?_
        refine lv_imul hx hb dX7_answer_47 ?_
        refine lv_iload_n hx hb dX7_answer_48 rfl (lv_at hl 2 rfl) ?_
        refine lv_iadd hx hb dX7_answer_49 ?_
        obtain ⟨hn10, h⟩ := gk h
        refine xiald hx hb hK hP (353) (by decide) (show kd 353 = 8 by decide) (by rw [show ln 353 = 30 by decide]; exact hn10) dX7_answer_50 ?_
        refine lv_goto (tgt := 56) hx hb dX7_answer_51 (by decide) ?_
        exact W.iret (v := (A 353 (((6 * a1) + a2).toNatClampNeg))) hx hb hr (fun t9 ht9 hW9 => ⟨⟨(A 353 (((6 * a1) + a2).toNatClampNeg)), (I1, G, A, L), rfl, by cases h; exact ⟨rfl, rfl⟩, by rw [ht9]; exact hP, va_K.moved hW9.alike hK⟩, hS.F ht9⟩) hS.2.2 dX7_answer_56
    · have h := ip c_8 h
      refine lv_iconst (v := (-1)) hx hb dX7_answer_29 (by decide) ?_
      exact W.iret (v := (-1)) hx hb hr (fun t9 ht9 hW9 => ⟨⟨(-1), (I1, G, A, L), rfl, by cases h; exact ⟨rfl, rfl⟩, by rw [ht9]; exact hP, va_K.moved hW9.alike hK⟩, hS.F ht9⟩) hS.2.2 dX7_answer_30
set_option maxHeartbeats 4000000 in
set_option maxRecDepth 100000 in
theorem e_X7_costAt (l : Launch) (D : va_G) (K : Nat → ClassId) (ad : Nat → Nat) (hap0 : apart ad (fun _ => True)) (a1 : Int32) (a2 : Int32) (a3 : Int32) (I : Nat → Nat → Int32) (G : Nat → Nat → Nat) (A : Nat → Nat → Int32) (L : Nat → Nat → Int64) (r0 : Int32) (h : f_X7_costAt A a1 a2 a3 = some r0) : Ci l D K ad yX7_costAt wsX7_costAt 0 0 [.ref (ad 318), .int a1, .int a2, .int a3] (I, G, A, L) (fun (r : Int32) (u : Mem) => r = r0 ∧ u = (I, G, A, L)) := by
  intro sz
  refine Met.ofW (cc := cX7_costAt) (maxL := 4) (ret := (some .int)) (by decide) rfl ?_
  intro p e s m args below meth c s₁ Bd hml hv0
  obtain ⟨rfl, hsz, hP, hK⟩ := hv0
  have hx := Bd.exec
  have hb := Bd.bytes
  have hr := Bd.returns
  have hts := atoms_spec (ws := wsX7_costAt) Bd.pre
  have hown : s.vm.findClass RX7 = some m.cls := findClass_of_methodNamed Bd.named
  have hlocks := Bd.notSynchronized
  have hi7 : ∀ w ∈ u_ws RX7 TX7 79, w ∈ wsX7_costAt := fun w h => List.mem_cons_of_mem _ (List.mem_append_right _ h)
  subst hsz
  have hap := vF_ap hap0 s.heap.size
  have hS : va_S (vF ad s.heap.size) s.heap s.heap [] := va_S.rf
  have hP : va_P D vwCl (VW K ad I G A L) s.heap := hP
  have hl := lv_entry ([.ref (ad 318), .int a1, .int a2, .int a3]) (n := 4) (Nat.le_of_ble_eq_true rfl)
  rw [lg_entry_eq]
  generalize (lg_sl ([.ref (ad 318), .int a1, .int a2, .int a3]) ++ List.replicate (4 - (lg_sl ([.ref (ad 318), .int a1, .int a2, .int a3])).length) Slot.unset).toArray = ls at hl ⊢
  have hl : lv_has ls 4 [(0, .ref (ad 318)), (1, .int a1), (2, .int a2), (3, .int a3)] := hl
  rw [f_X7_costAt] at h
  refine lv_aload_n hx hb dX7_costAt_0 rfl (lv_at hl 0 rfl) ?_
  refine vgC hx hb hts hi7 hown hK hP (318) (by decide) (show kd 318 = 7 by decide) (C := RX7) (T := TX7) (N := 79) rfl 7 (by decide) (by decide) (by decide) (by decide) (323) rfl (hts (.fieldLink RX7 22 "CrateHelpersModel" "costs" "[I") (by decide +kernel)) (fun _ h9 => h9) dX7_costAt_1 ?_
  refine lv_bipush (v := 36) hx hb dX7_costAt_4 (by decide) ?_
  refine lv_iload_n hx hb dX7_costAt_6 rfl (lv_at hl 1 rfl) ?_
  refine lv_imul hx hb dX7_costAt_7 ?_
  refine lv_bipush (v := 6) hx hb dX7_costAt_8 (by decide) ?_
  refine lv_iload_n hx hb dX7_costAt_10 rfl (lv_at hl 2 rfl) ?_
  refine lv_imul hx hb dX7_costAt_11 ?_
  refine lv_iadd hx hb dX7_costAt_12 ?_
  refine lv_iload_n hx hb dX7_costAt_13 rfl (lv_at hl 3 rfl) ?_
  refine lv_iadd hx hb dX7_costAt_14 ?_
  obtain ⟨hn1, h⟩ := gk h
  refine xiald hx hb hK hP (323) (by decide) (show kd 323 = 8 by decide) (by rw [show ln 323 = 180 by decide]; exact hn1) dX7_costAt_15 ?_
  exact W.iret (v := (A 323 ((((36 * a1) + (6 * a2)) + a3).toNatClampNeg))) hx hb hr (fun t9 ht9 hW9 => ⟨⟨(A 323 ((((36 * a1) + (6 * a2)) + a3).toNatClampNeg)), (I, G, A, L), rfl, by cases h; exact ⟨rfl, rfl⟩, by rw [ht9]; exact hP, va_K.moved hW9.alike hK⟩, hS.F ht9⟩) hS.2.2 dX7_costAt_16
set_option maxHeartbeats 4000000 in
set_option maxRecDepth 100000 in
theorem e_X7_partAt (l : Launch) (D : va_G) (K : Nat → ClassId) (ad : Nat → Nat) (hap0 : apart ad (fun _ => True)) (a1 : Int32) (a2 : Int32) (a3 : Int32) (I : Nat → Nat → Int32) (G : Nat → Nat → Nat) (A : Nat → Nat → Int32) (L : Nat → Nat → Int64) (r0 : Int32) (h : f_X7_partAt A a1 a2 a3 = some r0) : Ci l D K ad yX7_partAt wsX7_partAt 0 0 [.ref (ad 318), .int a1, .int a2, .int a3] (I, G, A, L) (fun (r : Int32) (u : Mem) => r = r0 ∧ u = (I, G, A, L)) := by
  intro sz
  refine Met.ofW (cc := cX7_partAt) (maxL := 6) (ret := (some .int)) (by decide) rfl ?_
  intro p e s m args below meth c s₁ Bd hml hv0
  obtain ⟨rfl, hsz, hP, hK⟩ := hv0
  have hx := Bd.exec
  have hb := Bd.bytes
  have hr := Bd.returns
  have hts := atoms_spec (ws := wsX7_partAt) Bd.pre
  have hown : s.vm.findClass RX7 = some m.cls := findClass_of_methodNamed Bd.named
  have hlocks := Bd.notSynchronized
  have hi7 : ∀ w ∈ u_ws RX7 TX7 79, w ∈ wsX7_partAt := fun w h => List.mem_cons_of_mem _ (List.mem_append_right _ h)
  subst hsz
  have hap := vF_ap hap0 s.heap.size
  have hS : va_S (vF ad s.heap.size) s.heap s.heap [] := va_S.rf
  have hP : va_P D vwCl (VW K ad I G A L) s.heap := hP
  have hl := lv_entry ([.ref (ad 318), .int a1, .int a2, .int a3]) (n := 6) (Nat.le_of_ble_eq_true rfl)
  rw [lg_entry_eq]
  generalize (lg_sl ([.ref (ad 318), .int a1, .int a2, .int a3]) ++ List.replicate (6 - (lg_sl ([.ref (ad 318), .int a1, .int a2, .int a3])).length) Slot.unset).toArray = ls at hl ⊢
  have hl : lv_has ls 6 [(0, .ref (ad 318)), (1, .int a1), (2, .int a2), (3, .int a3)] := hl
  rw [f_X7_partAt] at h
  refine lv_bipush (v := 8) hx hb dX7_partAt_0 (by decide) ?_
  refine lv_iload_n hx hb dX7_partAt_2 rfl (lv_at hl 1 rfl) ?_
  refine lv_imul hx hb dX7_partAt_3 ?_
  refine lv_iload_n hx hb dX7_partAt_4 rfl (lv_at hl 2 rfl) ?_
  refine lv_iadd hx hb dX7_partAt_5 ?_
  refine lv_istore (lv' := [(4, .int ((8 * a1) + a2)), (0, .ref (ad 318)), (1, .int a1), (2, .int a2), (3, .int a3)]) hx hb dX7_partAt_6 hl (by decide) rfl (fun ls hl => ?_)
  refine lv_iconst (v := 0) hx hb dX7_partAt_8 (by decide) ?_
  refine lv_istore (lv' := [(5, .int 0), (4, .int ((8 * a1) + a2)), (0, .ref (ad 318)), (1, .int a1), (2, .int a2), (3, .int a3)]) hx hb dX7_partAt_9 hl (by decide) rfl (fun ls hl => ?_)
  obtain ⟨k4, ek4, h⟩ := bd_e h
  have kk4 : ∀ (v5 : Int32), k4 v5 = some r0 → ∀ (H : Heap) (locs : List Loc), va_P D vwCl (VW K ad I G A L) H → va_S (vF ad s.heap.size) s.heap H locs → ∀ (ls : Array Slot), lv_has ls 6 [(5, .int v5)] → W p l e ({ frames := 0, cells := 0, slots := 0, locals := 0 }) s m ([.ref (ad 318), .int a1, .int a2, .int a3] : List Value).toArray below meth c H locs 0 0 (MQ below (va_Qi (fun (r : Int32) (u : Mem) => r = r0 ∧ u = (I, G, A, L)) (vB D K ad) (vF ad s.heap.size)) ([.ref (ad 318), .int a1, .int a2, .int a3] : List Value).toArray s 0 0 (vF ad s.heap.size)) (F0 m 40 ls []) := by
    intro v5 h H locs hP hS ls hl
    subst ek4
    refine lv_iload hx hb dX7_partAt_40 (lv_at hl 0 rfl) ?_
    exact W.iret (v := v5) hx hb hr (fun t9 ht9 hW9 => ⟨⟨v5, (I, G, A, L), rfl, by cases h; exact ⟨rfl, rfl⟩, by rw [ht9]; exact hP, va_K.moved hW9.alike hK⟩, hS.F ht9⟩) hS.2.2 dX7_partAt_42
  obtain ⟨k6, ek6, h⟩ := bd_e h
  have kk6 : ∀ (_ : Unit), k6 () = some r0 → ∀ (H : Heap) (locs : List Loc), va_P D vwCl (VW K ad I G A L) H → va_S (vF ad s.heap.size) s.heap H locs → ∀ (ls : Array Slot), lv_has ls 6 [] → W p l e ({ frames := 0, cells := 0, slots := 0, locals := 0 }) s m ([.ref (ad 318), .int a1, .int a2, .int a3] : List Value).toArray below meth c H locs 0 0 (MQ below (va_Qi (fun (r : Int32) (u : Mem) => r = r0 ∧ u = (I, G, A, L)) (vB D K ad) (vF ad s.heap.size)) ([.ref (ad 318), .int a1, .int a2, .int a3] : List Value).toArray s 0 0 (vF ad s.heap.size)) (F0 m 49 ls []) := by
    intro _ h H locs hP hS ls hl
    subst ek6
    refine lv_bipush (v := (-9)) hx hb dX7_partAt_49 (by decide) ?_
    exact W.iret (v := (-9)) hx hb hr (fun t9 ht9 hW9 => ⟨⟨(-9), (I, G, A, L), rfl, by cases h; exact ⟨rfl, rfl⟩, by rw [ht9]; exact hP, va_K.moved hW9.alike hK⟩, hS.F ht9⟩) hS.2.2 dX7_partAt_51
  have lp1 : ∀ (n : Nat) (v2 : Int32) (v3 : Int32), f_X7_partAt_L11 a3 A k4 k6 n v2 v3 = some r0 → ∀ (H : Heap) (locs : List Loc), va_P D vwCl (VW K ad I G A L) H → va_S (vF ad s.heap.size) s.heap H locs → ∀ (ls : Array Slot), lv_has ls 6 [(5, .int v2), (4, .int v3), (0, .ref (ad 318)), (3, .int a3)] → W p l e ({ frames := 0, cells := 0, slots := 0, locals := 0 }) s m ([.ref (ad 318), .int a1, .int a2, .int a3] : List Value).toArray below meth c H locs 0 0 (MQ below (va_Qi (fun (r : Int32) (u : Mem) => r = r0 ∧ u = (I, G, A, L)) (vB D K ad) (vF ad s.heap.size)) ([.ref (ad 318), .int a1, .int a2, .int a3] : List Value).toArray s 0 0 (vF ad s.heap.size)) (F0 m 11 ls []) := by
    intro n
    induction n with
    | zero => intro v2 v3 h; exact absurd h (by rw [f_X7_partAt_L11]; exact nofun)
    | succ n ih1 =>
      intro v2 v3 h H locs hP hS ls hl
      rw [f_X7_partAt_L11] at h
      refine lv_iload hx hb dX7_partAt_11 (lv_at hl 0 rfl) ?_
      refine lv_aload_n hx hb dX7_partAt_13 rfl (lv_at hl 2 rfl) ?_
      refine vgC hx hb hts hi7 hown hK hP (318) (by decide) (show kd 318 = 7 by decide) (C := RX7) (T := TX7) (N := 79) rfl 10 (by decide) (by decide) (by decide) (by decide) (326) rfl (hts (.fieldLink RX7 31 "CrateHelpersModel" "parts" "[I") (by decide +kernel)) (fun _ h9 => h9) dX7_partAt_14 ?_
      refine lv_iload hx hb dX7_partAt_17 (lv_at hl 1 rfl) ?_
      obtain ⟨hn7, h⟩ := gk h
      refine xiald hx hb hK hP (326) (by decide) (show kd 326 = 8 by decide) (by rw [show ln 326 = 40 by decide]; exact hn7) dX7_partAt_19 ?_
      refine lv_icmp_ge (tgt := 49) hx hb dX7_partAt_20 (by decide) (fun c_8 => ?_) (fun c_8 => ?_)
      · have h := iN (Int32.not_lt.mpr c_8) h
        exact kk6 () h _ _ hP hS ls (lv_sub hl [] rfl)
      · have h := ip (Int32.not_le.mp c_8) h
        refine lv_aload_n hx hb dX7_partAt_23 rfl (lv_at hl 2 rfl) ?_
        refine vgC hx hb hts hi7 hown hK hP (318) (by decide) (show kd 318 = 7 by decide) (C := RX7) (T := TX7) (N := 79) rfl 11 (by decide) (by decide) (by decide) (by decide) (327) rfl (hts (.fieldLink RX7 34 "CrateHelpersModel" "partOf" "[I") (by decide +kernel)) (fun _ h9 => h9) dX7_partAt_24 ?_
        refine lv_bipush (v := 6) hx hb dX7_partAt_27 (by decide) ?_
        refine lv_iload hx hb dX7_partAt_29 (lv_at hl 1 rfl) ?_
        refine lv_imul hx hb dX7_partAt_31 ?_
        refine lv_iload hx hb dX7_partAt_32 (lv_at hl 0 rfl) ?_
        refine lv_iadd hx hb dX7_partAt_34 ?_
        obtain ⟨hn9, h⟩ := gk h
        refine xiald hx hb hK hP (327) (by decide) (show kd 327 = 8 by decide) (by rw [show ln 327 = 240 by decide]; exact hn9) dX7_partAt_35 ?_
        refine lv_iload_n hx hb dX7_partAt_36 rfl (lv_at hl 3 rfl) ?_
        refine lv_icmp_ne (tgt := 43) hx hb dX7_partAt_37 (by decide) (fun c_10 => ?_) (fun c_10 => ?_)
        · have h := iN c_10 h
          refine lv_iinc (v := (v2 + 1)) (lv' := [(5, .int (v2 + 1)), (4, .int v3), (0, .ref (ad 318)), (3, .int a3)]) hx hb dX7_partAt_43 hl (k := 0) rfl rfl (by decide) rfl (fun ls hl => ?_)
          refine lv_goto (tgt := 11) hx hb dX7_partAt_46 (by decide) ?_
          exact ih1 (v2 + 1) v3 h _ _ hP hS ls (lv_sub hl [0, 1, 2, 3] rfl)
        · have h := ip c_10 h
          exact kk4 v2 h _ _ hP hS ls (lv_sub hl [0] rfl)
  exact lp1 FU 0 ((8 * a1) + a2) h _ _ hP hS ls (lv_sub hl [0, 1, 2, 5] rfl)

/-! part 51.r01 -/
set_option maxHeartbeats 4000000 in
set_option maxRecDepth 100000 in
theorem e_X7_areLike (l : Launch) (D : va_G) (K : Nat → ClassId) (ad : Nat → Nat) (hap0 : apart ad (fun _ => True)) (a1 : Int32) (a2 : Int32) (a3 : Int32) (I : Nat → Nat → Int32) (G : Nat → Nat → Nat) (A : Nat → Nat → Int32) (L : Nat → Nat → Int64) (r0 : Int32) (h : f_X7_areLike A a1 a2 a3 = some r0) : Ci l D K ad yX7_areLike wsX7_areLike 1 28 [.ref (ad 318), .int a1, .int a2, .int a3] (I, G, A, L) (fun (r : Int32) (u : Mem) => r = r0 ∧ u = (I, G, A, L)) := by
  intro sz
  refine Met.ofW (cc := cX7_areLike) (maxL := 10) (ret := (some .boolean)) (by decide) rfl ?_
  intro p e s m args below meth c s₁ Bd hml hv0
  obtain ⟨rfl, hsz, hP, hK⟩ := hv0
  have hx := Bd.exec
  have hb := Bd.bytes
  have hr := Bd.returns
  have hts := atoms_spec (ws := wsX7_areLike) Bd.pre
  have hown : s.vm.findClass RX7 = some m.cls := findClass_of_methodNamed Bd.named
  have hlocks := Bd.notSynchronized
  have hi7 : ∀ w ∈ u_ws RX7 TX7 79, w ∈ wsX7_areLike := fun w h => List.mem_cons_of_mem _ (List.mem_append_right _ h)
  subst hsz
  have hap := vF_ap hap0 s.heap.size
  have hS : va_S (vF ad s.heap.size) s.heap s.heap [] := va_S.rf
  have hP : va_P D vwCl (VW K ad I G A L) s.heap := hP
  have hl := lv_entry ([.ref (ad 318), .int a1, .int a2, .int a3]) (n := 10) (Nat.le_of_ble_eq_true rfl)
  rw [lg_entry_eq]
  generalize (lg_sl ([.ref (ad 318), .int a1, .int a2, .int a3]) ++ List.replicate (10 - (lg_sl ([.ref (ad 318), .int a1, .int a2, .int a3])).length) Slot.unset).toArray = ls at hl ⊢
  have hl : lv_has ls 10 [(0, .ref (ad 318)), (1, .int a1), (2, .int a2), (3, .int a3)] := hl
  rw [f_X7_areLike] at h
  refine lv_aload_n hx hb dX7_areLike_0 rfl (lv_at hl 0 rfl) ?_
  refine vgC hx hb hts hi7 hown hK hP (318) (by decide) (show kd 318 = 7 by decide) (C := RX7) (T := TX7) (N := 79) rfl 5 (by decide) (by decide) (by decide) (by decide) (321) rfl (hts (.fieldLink RX7 16 "CrateHelpersModel" "values" "[I") (by decide +kernel)) (fun _ h9 => h9) dX7_areLike_1 ?_
  refine lv_bipush (v := 6) hx hb dX7_areLike_4 (by decide) ?_
  refine lv_iload_n hx hb dX7_areLike_6 rfl (lv_at hl 1 rfl) ?_
  refine lv_imul hx hb dX7_areLike_7 ?_
  refine lv_iload_n hx hb dX7_areLike_8 rfl (lv_at hl 2 rfl) ?_
  refine lv_iadd hx hb dX7_areLike_9 ?_
  obtain ⟨hn1, h⟩ := gk h
  refine xiald hx hb hK hP (321) (by decide) (show kd 321 = 8 by decide) (by rw [show ln 321 = 30 by decide]; exact hn1) dX7_areLike_10 ?_
  refine lv_aload_n hx hb dX7_areLike_11 rfl (lv_at hl 0 rfl) ?_
  refine vgC hx hb hts hi7 hown hK hP (318) (by decide) (show kd 318 = 7 by decide) (C := RX7) (T := TX7) (N := 79) rfl 5 (by decide) (by decide) (by decide) (by decide) (321) rfl (hts (.fieldLink RX7 16 "CrateHelpersModel" "values" "[I") (by decide +kernel)) (fun _ h9 => h9) dX7_areLike_12 ?_
  refine lv_bipush (v := 6) hx hb dX7_areLike_15 (by decide) ?_
  refine lv_iload_n hx hb dX7_areLike_17 rfl (lv_at hl 1 rfl) ?_
  refine lv_imul hx hb dX7_areLike_18 ?_
  refine lv_iload_n hx hb dX7_areLike_19 rfl (lv_at hl 3 rfl) ?_
  refine lv_iadd hx hb dX7_areLike_20 ?_
  obtain ⟨hn2, h⟩ := gk h
  refine xiald hx hb hK hP (321) (by decide) (show kd 321 = 8 by decide) (by rw [show ln 321 = 30 by decide]; exact hn2) dX7_areLike_21 ?_
  refine lv_icmp_eq (tgt := 27) hx hb dX7_areLike_22 (by decide) (fun c_3 => ?_) (fun c_3 => ?_)
  · have h := ip c_3 h
    refine lv_iconst (v := 0) hx hb dX7_areLike_27 (by decide) ?_
    refine lv_istore (lv' := [(4, .int 0), (0, .ref (ad 318)), (1, .int a1), (2, .int a2), (3, .int a3)]) hx hb dX7_areLike_28 hl (by decide) rfl (fun ls hl => ?_)
    obtain ⟨k6, ek6, h⟩ := bd_e h
    have kk6 : ∀ (_ : Unit), k6 () = some r0 → ∀ (H : Heap) (locs : List Loc), va_P D vwCl (VW K ad I G A L) H → va_S (vF ad s.heap.size) s.heap H locs → ∀ (ls : Array Slot), lv_has ls 10 [] → W p l e ({ frames := 1, cells := 0, slots := 0, locals := 28 }) s m ([.ref (ad 318), .int a1, .int a2, .int a3] : List Value).toArray below meth c H locs 0 0 (MQ below (va_Qi (fun (r : Int32) (u : Mem) => r = r0 ∧ u = (I, G, A, L)) (vB D K ad) (vF ad s.heap.size)) ([.ref (ad 318), .int a1, .int a2, .int a3] : List Value).toArray s 0 0 (vF ad s.heap.size)) (F0 m 65 ls []) := by
      intro _ h H locs hP hS ls hl
      subst ek6
      refine lv_iconst (v := 0) hx hb dX7_areLike_65 (by decide) ?_
      exact W.zret (v := 0) hx hb hr (by decide) (fun t9 ht9 hW9 => ⟨⟨0, (I, G, A, L), rfl, by cases h; exact ⟨rfl, rfl⟩, by rw [ht9]; exact hP, va_K.moved hW9.alike hK⟩, hS.F ht9⟩) hS.2.2 dX7_areLike_66
    obtain ⟨k7, ek7, h⟩ := bd_e h
    have kk7 : ∀ (_ : Unit), k7 () = some r0 → ∀ (H : Heap) (locs : List Loc), va_P D vwCl (VW K ad I G A L) H → va_S (vF ad s.heap.size) s.heap H locs → ∀ (ls : Array Slot), lv_has ls 10 [(0, .ref (ad 318)), (1, .int a1), (2, .int a2), (3, .int a3)] → W p l e ({ frames := 1, cells := 0, slots := 0, locals := 28 }) s m ([.ref (ad 318), .int a1, .int a2, .int a3] : List Value).toArray below meth c H locs 0 0 (MQ below (va_Qi (fun (r : Int32) (u : Mem) => r = r0 ∧ u = (I, G, A, L)) (vB D K ad) (vF ad s.heap.size)) ([.ref (ad 318), .int a1, .int a2, .int a3] : List Value).toArray s 0 0 (vF ad s.heap.size)) (F0 m 73 ls []) := by
      intro _ h H locs hP hS ls hl
      subst ek7
      refine lv_iconst (v := 0) hx hb dX7_areLike_73 (by decide) ?_
      refine lv_istore (lv' := [(4, .int 0), (0, .ref (ad 318)), (1, .int a1), (2, .int a2), (3, .int a3)]) hx hb dX7_areLike_74 hl (by decide) rfl (fun ls hl => ?_)
      obtain ⟨k10, ek10, h⟩ := bd_e h
      have kk10 : ∀ (_ : Unit), k10 () = some r0 → ∀ (H : Heap) (locs : List Loc), va_P D vwCl (VW K ad I G A L) H → va_S (vF ad s.heap.size) s.heap H locs → ∀ (ls : Array Slot), lv_has ls 10 [] → W p l e ({ frames := 1, cells := 0, slots := 0, locals := 28 }) s m ([.ref (ad 318), .int a1, .int a2, .int a3] : List Value).toArray below meth c H locs 0 0 (MQ below (va_Qi (fun (r : Int32) (u : Mem) => r = r0 ∧ u = (I, G, A, L)) (vB D K ad) (vF ad s.heap.size)) ([.ref (ad 318), .int a1, .int a2, .int a3] : List Value).toArray s 0 0 (vF ad s.heap.size)) (F0 m 209 ls []) := by
        intro _ h H locs hP hS ls hl
        subst ek10
        refine lv_iconst (v := 0) hx hb dX7_areLike_209 (by decide) ?_
        exact W.zret (v := 0) hx hb hr (by decide) (fun t9 ht9 hW9 => ⟨⟨0, (I, G, A, L), rfl, by cases h; exact ⟨rfl, rfl⟩, by rw [ht9]; exact hP, va_K.moved hW9.alike hK⟩, hS.F ht9⟩) hS.2.2 dX7_areLike_210
      obtain ⟨k11, ek11, h⟩ := bd_e h
      have kk11 : ∀ (_ : Unit), k11 () = some r0 → ∀ (H : Heap) (locs : List Loc), va_P D vwCl (VW K ad I G A L) H → va_S (vF ad s.heap.size) s.heap H locs → ∀ (ls : Array Slot), lv_has ls 10 [] → W p l e ({ frames := 1, cells := 0, slots := 0, locals := 28 }) s m ([.ref (ad 318), .int a1, .int a2, .int a3] : List Value).toArray below meth c H locs 0 0 (MQ below (va_Qi (fun (r : Int32) (u : Mem) => r = r0 ∧ u = (I, G, A, L)) (vB D K ad) (vF ad s.heap.size)) ([.ref (ad 318), .int a1, .int a2, .int a3] : List Value).toArray s 0 0 (vF ad s.heap.size)) (F0 m 217 ls []) := by
        intro _ h H locs hP hS ls hl
        subst ek11
        refine lv_iconst (v := 1) hx hb dX7_areLike_217 (by decide) ?_
        exact W.zret (v := 1) hx hb hr (by decide) (fun t9 ht9 hW9 => ⟨⟨1, (I, G, A, L), rfl, by cases h; exact ⟨rfl, rfl⟩, by rw [ht9]; exact hP, va_K.moved hW9.alike hK⟩, hS.F ht9⟩) hS.2.2 dX7_areLike_218
      have lp8 : ∀ (n : Nat) (v9 : Int32), f_X7_areLike_L76 a1 a2 a3 A k10 k11 n v9 = some r0 → ∀ (H : Heap) (locs : List Loc), va_P D vwCl (VW K ad I G A L) H → va_S (vF ad s.heap.size) s.heap H locs → ∀ (ls : Array Slot), lv_has ls 10 [(4, .int v9), (0, .ref (ad 318)), (1, .int a1), (2, .int a2), (3, .int a3)] → W p l e ({ frames := 1, cells := 0, slots := 0, locals := 28 }) s m ([.ref (ad 318), .int a1, .int a2, .int a3] : List Value).toArray below meth c H locs 0 0 (MQ below (va_Qi (fun (r : Int32) (u : Mem) => r = r0 ∧ u = (I, G, A, L)) (vB D K ad) (vF ad s.heap.size)) ([.ref (ad 318), .int a1, .int a2, .int a3] : List Value).toArray s 0 0 (vF ad s.heap.size)) (F0 m 76 ls []) := by
        intro n
        induction n with
        | zero => intro v9 h; exact absurd h (by rw [f_X7_areLike_L76]; exact nofun)
        | succ n ih8 =>
          intro v9 h H locs hP hS ls hl
          rw [f_X7_areLike_L76] at h
          refine lv_iload hx hb dX7_areLike_76 (lv_at hl 0 rfl) ?_
          refine lv_aload_n hx hb dX7_areLike_78 rfl (lv_at hl 1 rfl) ?_
          refine vgC hx hb hts hi7 hown hK hP (318) (by decide) (show kd 318 = 7 by decide) (C := RX7) (T := TX7) (N := 79) rfl 4 (by decide) (by decide) (by decide) (by decide) (320) rfl (hts (.fieldLink RX7 13 "CrateHelpersModel" "rules" "[I") (by decide +kernel)) (fun _ h9 => h9) dX7_areLike_79 ?_
          refine lv_iload_n hx hb dX7_areLike_82 rfl (lv_at hl 2 rfl) ?_
          obtain ⟨hn12, h⟩ := gk h
          refine xiald hx hb hK hP (320) (by decide) (show kd 320 = 8 by decide) (by rw [show ln 320 = 5 by decide]; exact hn12) dX7_areLike_83 ?_
          refine lv_icmp_ge (tgt := 217) hx hb dX7_areLike_84 (by decide) (fun c_13 => ?_) (fun c_13 => ?_)
          · have h := iN (Int32.not_lt.mpr c_13) h
            exact kk11 () h _ _ hP hS ls (lv_sub hl [] rfl)
          · have h := ip (Int32.not_le.mp c_13) h
            refine lv_aload_n hx hb dX7_areLike_87 rfl (lv_at hl 1 rfl) ?_
            refine lv_iload_n hx hb dX7_areLike_88 rfl (lv_at hl 2 rfl) ?_
            refine lv_iload hx hb dX7_areLike_89 (lv_at hl 0 rfl) ?_
            refine lv_iload_n hx hb dX7_areLike_91 rfl (lv_at hl 3 rfl) ?_
            obtain ⟨r14, hc15, h⟩ := Option.bind_eq_some_iff.mp h
            refine ecV (As := [.int a1, .int v9, .int a2]) (rest := []) ⟨hx, hb, hml, hown, hts⟩ (e_X7_partAt l D K ad hap0 a1 v9 a2 I G A L r14 hc15) (cwV 3 hts gX7_areLike_X7_partAt rfl rfl rfl (by decide +kernel) ⟨Nat.le_of_ble_eq_true rfl, Nat.le_of_ble_eq_true rfl⟩) hK hP hS (by decide) (show kd 318 = 7 by decide) (by decide) rfl rfl rfl hl.1 (Nat.le_of_ble_eq_true rfl) (Nat.le_of_ble_eq_true rfl) (Nat.le_of_ble_eq_true rfl) dX7_areLike_92 (fun H locs hP hS => ?_) rfl
            have hP : va_P D vwCl (VW K ad I G A L) H := hP
            refine lv_istore (lv' := [(5, .int r14), (4, .int v9), (0, .ref (ad 318)), (1, .int a1), (2, .int a2), (3, .int a3)]) hx hb dX7_areLike_95 hl (by decide) rfl (fun ls hl => ?_)
            refine lv_aload_n hx hb dX7_areLike_97 rfl (lv_at hl 2 rfl) ?_
            refine lv_iload_n hx hb dX7_areLike_98 rfl (lv_at hl 3 rfl) ?_
            refine lv_iload hx hb dX7_areLike_99 (lv_at hl 1 rfl) ?_
            refine lv_iload_n hx hb dX7_areLike_101 rfl (lv_at hl 5 rfl) ?_
            obtain ⟨r16, hc17, h⟩ := Option.bind_eq_some_iff.mp h
            refine ecV (As := [.int a1, .int v9, .int a3]) (rest := []) ⟨hx, hb, hml, hown, hts⟩ (e_X7_partAt l D K ad hap0 a1 v9 a3 I G A L r16 hc17) (cwV 3 hts gX7_areLike_X7_partAt rfl rfl rfl (by decide +kernel) ⟨Nat.le_of_ble_eq_true rfl, Nat.le_of_ble_eq_true rfl⟩) hK hP hS (by decide) (show kd 318 = 7 by decide) (by decide) rfl rfl rfl hl.1 (Nat.le_of_ble_eq_true rfl) (Nat.le_of_ble_eq_true rfl) (Nat.le_of_ble_eq_true rfl) dX7_areLike_102 (fun H locs hP hS => ?_) rfl
            have hP : va_P D vwCl (VW K ad I G A L) H := hP
            refine lv_istore (lv' := [(6, .int r16), (5, .int r14), (4, .int v9), (0, .ref (ad 318)), (1, .int a1), (2, .int a2), (3, .int a3)]) hx hb dX7_areLike_105 hl (by decide) rfl (fun ls hl => ?_)
            refine lv_bipush (v := 8) hx hb dX7_areLike_107 (by decide) ?_
            refine lv_iload_n hx hb dX7_areLike_109 rfl (lv_at hl 4 rfl) ?_
            refine lv_imul hx hb dX7_areLike_110 ?_
            refine lv_iload hx hb dX7_areLike_111 (lv_at hl 2 rfl) ?_
            refine lv_iadd hx hb dX7_areLike_113 ?_
            refine lv_istore (lv' := [(7, .int ((8 * a1) + v9)), (6, .int r16), (5, .int r14), (4, .int v9), (0, .ref (ad 318)), (1, .int a1), (2, .int a2), (3, .int a3)]) hx hb dX7_areLike_114 hl (by decide) rfl (fun ls hl => ?_)
            refine lv_iload hx hb dX7_areLike_116 (lv_at hl 2 rfl) ?_
            refine lv_bipush (v := (-9)) hx hb dX7_areLike_118 (by decide) ?_
            obtain ⟨j20, ej20, h⟩ := bd_e h
            have kj20 : ∀ (z19 : Int32), j20 z19 = some r0 → ∀ (H : Heap) (locs : List Loc), va_P D vwCl (VW K ad I G A L) H → va_S (vF ad s.heap.size) s.heap H locs → ∀ (ls : Array Slot), lv_has ls 10 [(7, .int ((8 * a1) + v9)), (6, .int r16), (5, .int r14), (4, .int v9), (0, .ref (ad 318)), (1, .int a1), (2, .int a2), (3, .int a3)] → W p l e ({ frames := 1, cells := 0, slots := 0, locals := 28 }) s m ([.ref (ad 318), .int a1, .int a2, .int a3] : List Value).toArray below meth c H locs 0 0 (MQ below (va_Qi (fun (r : Int32) (u : Mem) => r = r0 ∧ u = (I, G, A, L)) (vB D K ad) (vF ad s.heap.size)) ([.ref (ad 318), .int a1, .int a2, .int a3] : List Value).toArray s 0 0 (vF ad s.heap.size)) (F0 m 135 ls [.int z19]) := by
              intro z19 h H locs hP hS ls hl
              subst ej20
              refine lv_istore (lv' := [(8, .int z19), (7, .int ((8 * a1) + v9)), (6, .int r16), (5, .int r14), (4, .int v9), (0, .ref (ad 318)), (1, .int a1), (2, .int a2), (3, .int a3)]) hx hb dX7_areLike_135 hl (by decide) rfl (fun ls hl => ?_)
              refine lv_iload hx hb dX7_areLike_137 (lv_at hl 3 rfl) ?_
              refine lv_bipush (v := (-9)) hx hb dX7_areLike_139 (by decide) ?_
              refine lv_icmp_eq (tgt := 196) hx hb dX7_areLike_141 (by decide) (fun c_21 => ?_) (fun c_21 => ?_)
              · have h := ip c_21 h
                refine lv_iconst (v := 0) hx hb dX7_areLike_196 (by decide) ?_
                refine lv_istore (lv' := [(9, .int 0), (8, .int z19), (7, .int ((8 * a1) + v9)), (6, .int r16), (5, .int r14), (4, .int v9), (0, .ref (ad 318)), (1, .int a1), (2, .int a2), (3, .int a3)]) hx hb dX7_areLike_197 hl (by decide) rfl (fun ls hl => ?_)
                refine lv_iload hx hb dX7_areLike_199 (lv_at hl 1 rfl) ?_
                refine lv_if_ne (tgt := 211) hx hb dX7_areLike_201 (by decide) (fun c_22 => ?_) (fun c_22 => ?_)
                · have h := iN c_22 h
                  refine lv_iinc (v := (v9 + 1)) (lv' := [(4, .int (v9 + 1)), (9, .int 0), (8, .int z19), (7, .int ((8 * a1) + v9)), (6, .int r16), (5, .int r14), (0, .ref (ad 318)), (1, .int a1), (2, .int a2), (3, .int a3)]) hx hb dX7_areLike_211 hl (k := 5) rfl rfl (by decide) rfl (fun ls hl => ?_)
                  refine lv_goto (tgt := 76) hx hb dX7_areLike_214 (by decide) ?_
                  exact ih8 (v9 + 1) h _ _ hP hS ls (lv_sub hl [0, 6, 7, 8, 9] rfl)
                · have h := ip c_22 h
                  refine lv_iload hx hb dX7_areLike_204 (lv_at hl 0 rfl) ?_
                  refine lv_if_ne (tgt := 211) hx hb dX7_areLike_206 (by decide) (fun c_23 => absurd c_23 (by decide)) (fun _ => ?_)
                  exact kk10 () h _ _ hP hS ls (lv_sub hl [] rfl)
              · have h := iN c_21 h
                refine lv_iload hx hb dX7_areLike_144 (lv_at hl 2 rfl) ?_
                refine lv_bipush (v := (-9)) hx hb dX7_areLike_146 (by decide) ?_
                refine lv_icmp_eq (tgt := 196) hx hb dX7_areLike_148 (by decide) (fun c_24 => ?_) (fun c_24 => ?_)
                · have h := ip c_24 h
                  refine lv_iconst (v := 0) hx hb dX7_areLike_196 (by decide) ?_
                  refine lv_istore (lv' := [(9, .int 0), (8, .int z19), (7, .int ((8 * a1) + v9)), (6, .int r16), (5, .int r14), (4, .int v9), (0, .ref (ad 318)), (1, .int a1), (2, .int a2), (3, .int a3)]) hx hb dX7_areLike_197 hl (by decide) rfl (fun ls hl => ?_)
                  refine lv_iload hx hb dX7_areLike_199 (lv_at hl 1 rfl) ?_
                  refine lv_if_ne (tgt := 211) hx hb dX7_areLike_201 (by decide) (fun c_25 => ?_) (fun c_25 => ?_)
                  · have h := iN c_25 h
                    refine lv_iinc (v := (v9 + 1)) (lv' := [(4, .int (v9 + 1)), (9, .int 0), (8, .int z19), (7, .int ((8 * a1) + v9)), (6, .int r16), (5, .int r14), (0, .ref (ad 318)), (1, .int a1), (2, .int a2), (3, .int a3)]) hx hb dX7_areLike_211 hl (k := 5) rfl rfl (by decide) rfl (fun ls hl => ?_)
                    refine lv_goto (tgt := 76) hx hb dX7_areLike_214 (by decide) ?_
                    exact ih8 (v9 + 1) h _ _ hP hS ls (lv_sub hl [0, 6, 7, 8, 9] rfl)
                  · have h := ip c_25 h
                    refine lv_iload hx hb dX7_areLike_204 (lv_at hl 0 rfl) ?_
                    refine lv_if_ne (tgt := 211) hx hb dX7_areLike_206 (by decide) (fun c_26 => absurd c_26 (by decide)) (fun _ => ?_)
                    exact kk10 () h _ _ hP hS ls (lv_sub hl [] rfl)
                · have h := iN c_24 h
                  refine lv_aload_n hx hb dX7_areLike_151 rfl (lv_at hl 5 rfl) ?_
                  refine vgC hx hb hts hi7 hown hK hP (318) (by decide) (show kd 318 = 7 by decide) (C := RX7) (T := TX7) (N := 79) rfl 8 (by decide) (by decide) (by decide) (by decide) (324) rfl (hts (.fieldLink RX7 25 "CrateHelpersModel" "ruleKind" "[I") (by decide +kernel)) (fun _ h9 => h9) dX7_areLike_152 ?_
                  refine lv_iload hx hb dX7_areLike_155 (lv_at hl 1 rfl) ?_
                  obtain ⟨hn27, h⟩ := gk h
                  refine xiald hx hb hK hP (324) (by decide) (show kd 324 = 8 by decide) (by rw [show ln 324 = 40 by decide]; exact hn27) dX7_areLike_157 ?_
                  refine lv_bipush (v := 6) hx hb dX7_areLike_158 (by decide) ?_
                  refine lv_icmp_eq (tgt := 196) hx hb dX7_areLike_160 (by decide) (fun c_28 => ?_) (fun c_28 => ?_)
                  · have h := ip c_28 h
                    refine lv_iconst (v := 0) hx hb dX7_areLike_196 (by decide) ?_
                    refine lv_istore (lv' := [(9, .int 0), (8, .int z19), (7, .int ((8 * a1) + v9)), (6, .int r16), (5, .int r14), (4, .int v9), (0, .ref (ad 318)), (1, .int a1), (2, .int a2), (3, .int a3)]) hx hb dX7_areLike_197 hl (by decide) rfl (fun ls hl => ?_)
                    refine lv_iload hx hb dX7_areLike_199 (lv_at hl 1 rfl) ?_
                    refine lv_if_ne (tgt := 211) hx hb dX7_areLike_201 (by decide) (fun c_29 => ?_) (fun c_29 => ?_)
                    · have h := iN c_29 h
                      refine lv_iinc (v := (v9 + 1)) (lv' := [(4, .int (v9 + 1)), (9, .int 0), (8, .int z19), (7, .int ((8 * a1) + v9)), (6, .int r16), (5, .int r14), (0, .ref (ad 318)), (1, .int a1), (2, .int a2), (3, .int a3)]) hx hb dX7_areLike_211 hl (k := 5) rfl rfl (by decide) rfl (fun ls hl => ?_)
                      refine lv_goto (tgt := 76) hx hb dX7_areLike_214 (by decide) ?_
                      exact ih8 (v9 + 1) h _ _ hP hS ls (lv_sub hl [0, 6, 7, 8, 9] rfl)
                    · have h := ip c_29 h
                      refine lv_iload hx hb dX7_areLike_204 (lv_at hl 0 rfl) ?_
                      refine lv_if_ne (tgt := 211) hx hb dX7_areLike_206 (by decide) (fun c_30 => absurd c_30 (by decide)) (fun _ => ?_)
                      exact kk10 () h _ _ hP hS ls (lv_sub hl [] rfl)
                  · have h := iN c_28 h
                    refine lv_aload_n hx hb dX7_areLike_163 rfl (lv_at hl 5 rfl) ?_
                    refine vgC hx hb hts hi7 hown hK hP (318) (by decide) (show kd 318 = 7 by decide) (C := RX7) (T := TX7) (N := 79) rfl 12 (by decide) (by decide) (by decide) (by decide) (328) rfl (hts (.fieldLink RX7 37 "CrateHelpersModel" "weight" "[I") (by decide +kernel)) (fun _ h9 => h9) dX7_areLike_164 ?_
                    refine lv_bipush (v := 6) hx hb dX7_areLike_167 (by decide) ?_
                    refine lv_iload hx hb dX7_areLike_169 (lv_at hl 1 rfl) ?_
                    refine lv_imul hx hb dX7_areLike_171 ?_
                    refine lv_iload hx hb dX7_areLike_172 (lv_at hl 3 rfl) ?_
                    refine lv_iadd hx hb dX7_areLike_174 ?_
                    obtain ⟨hn31, h⟩ := gk h
                    refine xiald hx hb hK hP (328) (by decide) (show kd 328 = 8 by decide) (by rw [show ln 328 = 240 by decide]; exact hn31) dX7_areLike_175 ?_
                    refine lv_aload_n hx hb dX7_areLike_176 rfl (lv_at hl 5 rfl) ?_
                    refine vgC hx hb hts hi7 hown hK hP (318) (by decide) (show kd 318 = 7 by decide) (C := RX7) (T := TX7) (N := 79) rfl 12 (by decide) (by decide) (by decide) (by decide) (328) rfl (hts (.fieldLink RX7 37 "CrateHelpersModel" "weight" "[I") (by decide +kernel)) (fun _ h9 => h9) dX7_areLike_177 ?_
                    refine lv_bipush (v := 6) hx hb dX7_areLike_180 (by decide) ?_
                    refine lv_iload hx hb dX7_areLike_182 (lv_at hl 1 rfl) ?_
                    refine lv_imul hx hb dX7_areLike_184 ?_
                    refine lv_iload hx hb dX7_areLike_185 (lv_at hl 2 rfl) ?_
                    refine lv_iadd hx hb dX7_areLike_187 ?_
                    obtain ⟨hn32, h⟩ := gk h
                    refine xiald hx hb hK hP (328) (by decide) (show kd 328 = 8 by decide) (by rw [show ln 328 = 240 by decide]; exact hn32) dX7_areLike_188 ?_
                    refine lv_icmp_ne (tgt := 196) hx hb dX7_areLike_189 (by decide) (fun c_33 => ?_) (fun c_33 => ?_)
                    · have h := iN c_33 h
                      refine lv_iconst (v := 0) hx hb dX7_areLike_196 (by decide) ?_
                      refine lv_istore (lv' := [(9, .int 0), (8, .int z19), (7, .int ((8 * a1) + v9)), (6, .int r16), (5, .int r14), (4, .int v9), (0, .ref (ad 318)), (1, .int a1), (2, .int a2), (3, .int a3)]) hx hb dX7_areLike_197 hl (by decide) rfl (fun ls hl => ?_)
                      refine lv_iload hx hb dX7_areLike_199 (lv_at hl 1 rfl) ?_
                      refine lv_if_ne (tgt := 211) hx hb dX7_areLike_201 (by decide) (fun c_34 => ?_) (fun c_34 => ?_)
                      · have h := iN c_34 h
                        refine lv_iinc (v := (v9 + 1)) (lv' := [(4, .int (v9 + 1)), (9, .int 0), (8, .int z19), (7, .int ((8 * a1) + v9)), (6, .int r16), (5, .int r14), (0, .ref (ad 318)), (1, .int a1), (2, .int a2), (3, .int a3)]) hx hb dX7_areLike_211 hl (k := 5) rfl rfl (by decide) rfl (fun ls hl => ?_)
                        refine lv_goto (tgt := 76) hx hb dX7_areLike_214 (by decide) ?_
                        exact ih8 (v9 + 1) h _ _ hP hS ls (lv_sub hl [0, 6, 7, 8, 9] rfl)
                      · have h := ip c_34 h
                        refine lv_iload hx hb dX7_areLike_204 (lv_at hl 0 rfl) ?_
                        refine lv_if_ne (tgt := 211) hx hb dX7_areLike_206 (by decide) (fun c_35 => absurd c_35 (by decide)) (fun _ => ?_)
                        exact kk10 () h _ _ hP hS ls (lv_sub hl [] rfl)
                    · have h := ip c_33 h
                      refine lv_iconst (v := 1) hx hb dX7_areLike_192 (by decide) ?_
                      refine lv_goto (tgt := 197) hx hb dX7_areLike_193 (by decide) ?_
                      refine lv_istore (lv' := [(9, .int 1), (8, .int z19), (7, .int ((8 * a1) + v9)), (6, .int r16), (5, .int r14), (4, .int v9), (0, .ref (ad 318)), (1, .int a1), (2, .int a2), (3, .int a3)]) hx hb dX7_areLike_197 hl (by decide) rfl (fun ls hl => ?_)
                      refine lv_iload hx hb dX7_areLike_199 (lv_at hl 1 rfl) ?_
                      refine lv_if_ne (tgt := 211) hx hb dX7_areLike_201 (by decide) (fun c_36 => ?_) (fun c_36 => ?_)
                      · have h := iN c_36 h
                        refine lv_iinc (v := (v9 + 1)) (lv' := [(4, .int (v9 + 1)), (9, .int 1), (8, .int z19), (7, .int ((8 * a1) + v9)), (6, .int r16), (5, .int r14), (0, .ref (ad 318)), (1, .int a1), (2, .int a2), (3, .int a3)]) hx hb dX7_areLike_211 hl (k := 5) rfl rfl (by decide) rfl (fun ls hl => ?_)
                        refine lv_goto (tgt := 76) hx hb dX7_areLike_214 (by decide) ?_
                        exact ih8 (v9 + 1) h _ _ hP hS ls (lv_sub hl [0, 6, 7, 8, 9] rfl)
                      · have h := ip c_36 h
                        refine lv_iload hx hb dX7_areLike_204 (lv_at hl 0 rfl) ?_
                        refine lv_if_ne (tgt := 211) hx hb dX7_areLike_206 (by decide) (fun _ => ?_) (fun c_37 => absurd c_37 (by decide))
                        refine lv_iinc (v := (v9 + 1)) (lv' := [(4, .int (v9 + 1)), (9, .int 1), (8, .int z19), (7, .int ((8 * a1) + v9)), (6, .int r16), (5, .int r14), (0, .ref (ad 318)), (1, .int a1), (2, .int a2), (3, .int a3)]) hx hb dX7_areLike_211 hl (k := 5) rfl rfl (by decide) rfl (fun ls hl => ?_)
                        refine lv_goto (tgt := 76) hx hb dX7_areLike_214 (by decide) ?_
                        exact ih8 (v9 + 1) h _ _ hP hS ls (lv_sub hl [0, 6, 7, 8, 9] rfl)
            refine lv_icmp_ne (tgt := 134) hx hb dX7_areLike_120 (by decide) (fun c_38 => ?_) (fun c_38 => ?_)
            · have h := iN c_38 h
              refine lv_iconst (v := 0) hx hb dX7_areLike_134 (by decide) ?_
              exact kj20 0 h _ _ hP hS ls (lv_sub hl [0, 1, 2, 3, 4, 5, 6, 7] rfl)
            · have h := ip c_38 h
              refine lv_iload hx hb dX7_areLike_123 (lv_at hl 1 rfl) ?_
              refine lv_bipush (v := (-9)) hx hb dX7_areLike_125 (by decide) ?_
              refine lv_icmp_ne (tgt := 134) hx hb dX7_areLike_127 (by decide) (fun c_39 => ?_) (fun c_39 => ?_)
              · have h := iN c_39 h
                refine lv_iconst (v := 0) hx hb dX7_areLike_134 (by decide) ?_
                exact kj20 0 h _ _ hP hS ls (lv_sub hl [0, 1, 2, 3, 4, 5, 6, 7] rfl)
              · have h := ip c_39 h
                refine lv_iconst (v := 1) hx hb dX7_areLike_130 (by decide) ?_
                refine lv_goto (tgt := 135) hx hb dX7_areLike_131 (by decide) ?_
                exact kj20 1 h _ _ hP hS ls (lv_sub hl [0, 1, 2, 3, 4, 5, 6, 7] rfl)
      exact lp8 FU 0 h _ _ hP hS ls (lv_sub hl [0, 1, 2, 3, 4] rfl)
    have lp4 : ∀ (n : Nat) (v5 : Int32), f_X7_areLike_L30 a1 a2 a3 A k6 k7 n v5 = some r0 → ∀ (H : Heap) (locs : List Loc), va_P D vwCl (VW K ad I G A L) H → va_S (vF ad s.heap.size) s.heap H locs → ∀ (ls : Array Slot), lv_has ls 10 [(4, .int v5), (0, .ref (ad 318)), (1, .int a1), (2, .int a2), (3, .int a3)] → W p l e ({ frames := 1, cells := 0, slots := 0, locals := 28 }) s m ([.ref (ad 318), .int a1, .int a2, .int a3] : List Value).toArray below meth c H locs 0 0 (MQ below (va_Qi (fun (r : Int32) (u : Mem) => r = r0 ∧ u = (I, G, A, L)) (vB D K ad) (vF ad s.heap.size)) ([.ref (ad 318), .int a1, .int a2, .int a3] : List Value).toArray s 0 0 (vF ad s.heap.size)) (F0 m 30 ls []) := by
      intro n
      induction n with
      | zero => intro v5 h; exact absurd h (by rw [f_X7_areLike_L30]; exact nofun)
      | succ n ih4 =>
        intro v5 h H locs hP hS ls hl
        rw [f_X7_areLike_L30] at h
        refine lv_iload hx hb dX7_areLike_30 (lv_at hl 0 rfl) ?_
        refine lv_aload_n hx hb dX7_areLike_32 rfl (lv_at hl 1 rfl) ?_
        refine vgC hx hb hts hi7 hown hK hP (318) (by decide) (show kd 318 = 7 by decide) (C := RX7) (T := TX7) (N := 79) rfl 5 (by decide) (by decide) (by decide) (by decide) (321) rfl (hts (.fieldLink RX7 16 "CrateHelpersModel" "values" "[I") (by decide +kernel)) (fun _ h9 => h9) dX7_areLike_33 ?_
        refine lv_bipush (v := 6) hx hb dX7_areLike_36 (by decide) ?_
        refine lv_iload_n hx hb dX7_areLike_38 rfl (lv_at hl 2 rfl) ?_
        refine lv_imul hx hb dX7_areLike_39 ?_
        refine lv_iload_n hx hb dX7_areLike_40 rfl (lv_at hl 3 rfl) ?_
        refine lv_iadd hx hb dX7_areLike_41 ?_
        refine xiald hx hb hK hP (321) (by decide) (show kd 321 = 8 by decide) (by rw [show ln 321 = 30 by decide]; exact hn1) dX7_areLike_42 ?_
        refine lv_icmp_ge (tgt := 73) hx hb dX7_areLike_43 (by decide) (fun c_40 => ?_) (fun c_40 => ?_)
        · have h := iN (Int32.not_lt.mpr c_40) h
          exact kk7 () h _ _ hP hS ls (lv_sub hl [1, 2, 3, 4] rfl)
        · have h := ip (Int32.not_le.mp c_40) h
          refine lv_aload_n hx hb dX7_areLike_46 rfl (lv_at hl 1 rfl) ?_
          refine lv_iload_n hx hb dX7_areLike_47 rfl (lv_at hl 2 rfl) ?_
          refine lv_iload_n hx hb dX7_areLike_48 rfl (lv_at hl 3 rfl) ?_
          refine lv_iload hx hb dX7_areLike_49 (lv_at hl 0 rfl) ?_
          obtain ⟨r41, hc42, h⟩ := Option.bind_eq_some_iff.mp h
          refine ecV (As := [.int a1, .int a2, .int v5]) (rest := []) ⟨hx, hb, hml, hown, hts⟩ (e_X7_costAt l D K ad hap0 a1 a2 v5 I G A L r41 hc42) (cwV 3 hts gX7_areLike_X7_costAt rfl rfl rfl (by decide +kernel) ⟨Nat.le_of_ble_eq_true rfl, Nat.le_of_ble_eq_true rfl⟩) hK hP hS (by decide) (show kd 318 = 7 by decide) (by decide) rfl rfl rfl hl.1 (Nat.le_of_ble_eq_true rfl) (Nat.le_of_ble_eq_true rfl) (Nat.le_of_ble_eq_true rfl) dX7_areLike_51 (fun H locs hP hS => ?_) rfl
          have hP : va_P D vwCl (VW K ad I G A L) H := hP
          refine lv_aload_n hx hb dX7_areLike_54 rfl (lv_at hl 1 rfl) ?_
          refine lv_iload_n hx hb dX7_areLike_55 rfl (lv_at hl 2 rfl) ?_
          refine lv_iload_n hx hb dX7_areLike_56 rfl (lv_at hl 4 rfl) ?_
          refine lv_iload hx hb dX7_areLike_57 (lv_at hl 0 rfl) ?_
          obtain ⟨r43, hc44, h⟩ := Option.bind_eq_some_iff.mp h
          refine ecV (As := [.int a1, .int a3, .int v5]) (rest := [.int r41]) ⟨hx, hb, hml, hown, hts⟩ (e_X7_costAt l D K ad hap0 a1 a3 v5 I G A L r43 hc44) (cwV 3 hts gX7_areLike_X7_costAt rfl rfl rfl (by decide +kernel) ⟨Nat.le_of_ble_eq_true rfl, Nat.le_of_ble_eq_true rfl⟩) hK hP hS (by decide) (show kd 318 = 7 by decide) (by decide) rfl rfl rfl hl.1 (Nat.le_of_ble_eq_true rfl) (Nat.le_of_ble_eq_true rfl) (Nat.le_of_ble_eq_true rfl) dX7_areLike_59 (fun H locs hP hS => ?_) rfl
          have hP : va_P D vwCl (VW K ad I G A L) H := hP
          refine lv_icmp_eq (tgt := 67) hx hb dX7_areLike_62 (by decide) (fun c_45 => ?_) (fun c_45 => ?_)
          · have h := ip c_45 h
            refine lv_iinc (v := (v5 + 1)) (lv' := [(4, .int (v5 + 1)), (0, .ref (ad 318)), (1, .int a1), (2, .int a2), (3, .int a3)]) hx hb dX7_areLike_67 hl (k := 0) rfl rfl (by decide) rfl (fun ls hl => ?_)
            refine lv_goto (tgt := 30) hx hb dX7_areLike_70 (by decide) ?_
            exact ih4 (v5 + 1) h _ _ hP hS ls (lv_sub hl [0, 1, 2, 3, 4] rfl)
          · have h := iN c_45 h
            exact kk6 () h _ _ hP hS ls (lv_sub hl [] rfl)
    exact lp4 FU 0 h _ _ hP hS ls (lv_sub hl [0, 1, 2, 3, 4] rfl)
  · have h := iN c_3 h
    refine lv_iconst (v := 0) hx hb dX7_areLike_25 (by decide) ?_
    exact W.zret (v := 0) hx hb hr (by decide) (fun t9 ht9 hW9 => ⟨⟨0, (I, G, A, L), rfl, by cases h; exact ⟨rfl, rfl⟩, by rw [ht9]; exact hP, va_K.moved hW9.alike hK⟩, hS.F ht9⟩) hS.2.2 dX7_areLike_26
set_option maxHeartbeats 4000000 in
set_option maxRecDepth 100000 in
theorem e_X7_swap (l : Launch) (D : va_G) (K : Nat → ClassId) (ad : Nat → Nat) (hap0 : apart ad (fun _ => True)) (s0 : Nat) (s1 : Nat) (I : Nat → Nat → Int32) (G : Nat → Nat → Nat) (A : Nat → Nat → Int32) (L : Nat → Nat → Int64) (A0 : Nat → Nat → Int32) (h : f_X7_swap A s0 s1 = some A0) : Cv l D K ad yX7_swap wsX7_swap 0 0 [.ref (ad s0), .ref (ad s1)] (I, G, A, L) (fun (u : Mem) => u = (I, G, A0, L)) := by
  intro sz
  refine Met.ofW (cc := cX7_swap) (maxL := 4) (ret := none) (by decide) rfl ?_
  intro p e s m args below meth c s₁ Bd hml hv0
  obtain ⟨rfl, hsz, hP, hK⟩ := hv0
  have hx := Bd.exec
  have hb := Bd.bytes
  have hr := Bd.returns
  have hts := atoms_spec (ws := wsX7_swap) Bd.pre
  have hown : s.vm.findClass RX7 = some m.cls := findClass_of_methodNamed Bd.named
  have hlocks := Bd.notSynchronized
  subst hsz
  have hap := vF_ap hap0 s.heap.size
  have hS : va_S (vF ad s.heap.size) s.heap s.heap [] := va_S.rf
  have hP : va_P D vwCl (VW K ad I G A L) s.heap := hP
  have hl := lv_entry ([.ref (ad s0), .ref (ad s1)]) (n := 4) (Nat.le_of_ble_eq_true rfl)
  rw [lg_entry_eq]
  generalize (lg_sl ([.ref (ad s0), .ref (ad s1)]) ++ List.replicate (4 - (lg_sl ([.ref (ad s0), .ref (ad s1)])).length) Slot.unset).toArray = ls at hl ⊢
  have hl : lv_has ls 4 [(0, .ref (ad s0)), (1, .ref (ad s1))] := hl
  rw [f_X7_swap] at h
  refine lv_iconst (v := 0) hx hb dX7_swap_0 (by decide) ?_
  refine lv_istore_n (lv' := [(2, .int 0), (0, .ref (ad s0)), (1, .ref (ad s1))]) hx hb dX7_swap_1 rfl hl (by decide) rfl (fun ls hl => ?_)
  obtain ⟨k4, ek4, h⟩ := bd_e h
  have kk4 : ∀ (A5 : Nat → Nat → Int32), k4 A5 = some A0 → ∀ (H : Heap) (locs : List Loc), va_P D vwCl (VW K ad I G A5 L) H → va_S (vF ad s.heap.size) s.heap H locs → ∀ (ls : Array Slot), lv_has ls 4 [] → W p l e ({ frames := 0, cells := 0, slots := 0, locals := 0 }) s m ([.ref (ad s0), .ref (ad s1)] : List Value).toArray below meth c H locs 0 0 (MQ below (va_Qv (fun (u : Mem) => u = (I, G, A0, L)) (vB D K ad) (vF ad s.heap.size)) ([.ref (ad s0), .ref (ad s1)] : List Value).toArray s 0 0 (vF ad s.heap.size)) (F0 m 28 ls []) := by
    intro A5 h H locs hP hS ls hl
    subst ek4
    exact W.vret hx hb hr (fun t9 ht9 hW9 => ⟨⟨(I, G, A5, L), rfl, by cases h; rfl, by rw [ht9]; exact hP, va_K.moved hW9.alike hK⟩, hS.F ht9⟩) hS.2.2 dX7_swap_28
  have lp1 : ∀ (n : Nat) (v2 : Int32) (A3 : Nat → Nat → Int32), f_X7_swap_L2 s0 s1 k4 n v2 A3 = some A0 → ∀ (H : Heap) (locs : List Loc), va_P D vwCl (VW K ad I G A3 L) H → va_S (vF ad s.heap.size) s.heap H locs → ∀ (ls : Array Slot), lv_has ls 4 [(2, .int v2), (0, .ref (ad s0)), (1, .ref (ad s1))] → W p l e ({ frames := 0, cells := 0, slots := 0, locals := 0 }) s m ([.ref (ad s0), .ref (ad s1)] : List Value).toArray below meth c H locs 0 0 (MQ below (va_Qv (fun (u : Mem) => u = (I, G, A0, L)) (vB D K ad) (vF ad s.heap.size)) ([.ref (ad s0), .ref (ad s1)] : List Value).toArray s 0 0 (vF ad s.heap.size)) (F0 m 2 ls []) := by
    intro n
    induction n with
    | zero => intro v2 A3 h; exact absurd h (by rw [f_X7_swap_L2]; exact nofun)
    | succ n ih1 =>
      intro v2 A3 h H locs hP hS ls hl
      rw [f_X7_swap_L2] at h
      refine lv_iload_n hx hb dX7_swap_2 rfl (lv_at hl 0 rfl) ?_
      refine lv_aload_n hx hb dX7_swap_3 rfl (lv_at hl 1 rfl) ?_
      obtain ⟨hk6, h⟩ := gk h
      refine vlen hx hb hK hP (s0) hk6.1.1 hk6.2 dX7_swap_4 ?_
      refine lv_icmp_ge (tgt := 28) hx hb dX7_swap_5 (by decide) (fun c_7 => ?_) (fun c_7 => ?_)
      · have h := iN (Int32.not_lt.mpr c_7) h
        exact kk4 A3 h _ _ hP hS ls (lv_sub hl [] rfl)
      · have h := ip (Int32.not_le.mp c_7) h
        refine lv_aload_n hx hb dX7_swap_8 rfl (lv_at hl 1 rfl) ?_
        refine lv_iload_n hx hb dX7_swap_9 rfl (lv_at hl 0 rfl) ?_
        obtain ⟨hn8, h⟩ := gk h
        refine xiald hx hb hK hP (s0) hk6.1.1 hk6.2 hn8 dX7_swap_10 ?_
        refine lv_istore_n (lv' := [(3, .int (A3 s0 v2.toNatClampNeg)), (2, .int v2), (0, .ref (ad s0)), (1, .ref (ad s1))]) hx hb dX7_swap_11 rfl hl (by decide) rfl (fun ls hl => ?_)
        refine lv_aload_n hx hb dX7_swap_12 rfl (lv_at hl 2 rfl) ?_
        refine lv_iload_n hx hb dX7_swap_13 rfl (lv_at hl 1 rfl) ?_
        refine lv_aload_n hx hb dX7_swap_14 rfl (lv_at hl 3 rfl) ?_
        refine lv_iload_n hx hb dX7_swap_15 rfl (lv_at hl 1 rfl) ?_
        obtain ⟨hk9, h⟩ := gk h
        obtain ⟨hn10, h⟩ := gk h
        refine xiald hx hb hK hP (s1) hk9.1.1 hk9.2 hn10 dX7_swap_16 ?_
        refine xiast hx hb hK hP hap hS (s0) hk6.1.1 hk6.2 hn8 dX7_swap_17 (fun H locs hP hS => ?_)
        obtain ⟨A11, eA11, h⟩ := bd_e h
        rw [← eA11] at hP
        have hP : va_P D vwCl (VW K ad I G A11 L) H := hP
        refine lv_aload_n hx hb dX7_swap_18 rfl (lv_at hl 3 rfl) ?_
        refine lv_iload_n hx hb dX7_swap_19 rfl (lv_at hl 1 rfl) ?_
        refine lv_iload_n hx hb dX7_swap_20 rfl (lv_at hl 0 rfl) ?_
        refine xiast hx hb hK hP hap hS (s1) hk9.1.1 hk9.2 hn10 dX7_swap_21 (fun H locs hP hS => ?_)
        obtain ⟨A12, eA12, h⟩ := bd_e h
        rw [← eA12] at hP
        have hP : va_P D vwCl (VW K ad I G A12 L) H := hP
        refine lv_iinc (v := (v2 + 1)) (lv' := [(2, .int (v2 + 1)), (3, .int (A3 s0 v2.toNatClampNeg)), (0, .ref (ad s0)), (1, .ref (ad s1))]) hx hb dX7_swap_22 hl (k := 1) rfl rfl (by decide) rfl (fun ls hl => ?_)
        refine lv_goto (tgt := 2) hx hb dX7_swap_25 (by decide) ?_
        exact ih1 (v2 + 1) A12 h _ _ hP hS ls (lv_sub hl [0, 2, 3] rfl)
  exact lp1 FU 0 A h _ _ hP hS ls (lv_sub hl [0, 1, 2] rfl)
set_option maxHeartbeats 4000000 in
set_option maxRecDepth 100000 in
theorem e_X7_turnRound (l : Launch) (D : va_G) (K : Nat → ClassId) (ad : Nat → Nat) (hap0 : apart ad (fun _ => True)) (s0 : Nat) (s1 : Nat) (I : Nat → Nat → Int32) (G : Nat → Nat → Nat) (A : Nat → Nat → Int32) (L : Nat → Nat → Int64) (A0 : Nat → Nat → Int32) (h : f_X7_turnRound A s0 s1 = some A0) : Cv l D K ad yX7_turnRound wsX7_turnRound 0 0 [.ref (ad s0), .ref (ad s1)] (I, G, A, L) (fun (u : Mem) => u = (I, G, A0, L)) := by
  intro sz
  refine Met.ofW (cc := cX7_turnRound) (maxL := 4) (ret := none) (by decide) rfl ?_
  intro p e s m args below meth c s₁ Bd hml hv0
  obtain ⟨rfl, hsz, hP, hK⟩ := hv0
  have hx := Bd.exec
  have hb := Bd.bytes
  have hr := Bd.returns
  have hts := atoms_spec (ws := wsX7_turnRound) Bd.pre
  have hown : s.vm.findClass RX7 = some m.cls := findClass_of_methodNamed Bd.named
  have hlocks := Bd.notSynchronized
  subst hsz
  have hap := vF_ap hap0 s.heap.size
  have hS : va_S (vF ad s.heap.size) s.heap s.heap [] := va_S.rf
  have hP : va_P D vwCl (VW K ad I G A L) s.heap := hP
  have hl := lv_entry ([.ref (ad s0), .ref (ad s1)]) (n := 4) (Nat.le_of_ble_eq_true rfl)
  rw [lg_entry_eq]
  generalize (lg_sl ([.ref (ad s0), .ref (ad s1)]) ++ List.replicate (4 - (lg_sl ([.ref (ad s0), .ref (ad s1)])).length) Slot.unset).toArray = ls at hl ⊢
  have hl : lv_has ls 4 [(0, .ref (ad s0)), (1, .ref (ad s1))] := hl
  rw [f_X7_turnRound] at h
  refine lv_iconst (v := 0) hx hb dX7_turnRound_0 (by decide) ?_
  refine lv_istore_n (lv' := [(2, .int 0), (0, .ref (ad s0)), (1, .ref (ad s1))]) hx hb dX7_turnRound_1 rfl hl (by decide) rfl (fun ls hl => ?_)
  obtain ⟨k4, ek4, h⟩ := bd_e h
  have kk4 : ∀ (A5 : Nat → Nat → Int32), k4 A5 = some A0 → ∀ (H : Heap) (locs : List Loc), va_P D vwCl (VW K ad I G A5 L) H → va_S (vF ad s.heap.size) s.heap H locs → ∀ (ls : Array Slot), lv_has ls 4 [] → W p l e ({ frames := 0, cells := 0, slots := 0, locals := 0 }) s m ([.ref (ad s0), .ref (ad s1)] : List Value).toArray below meth c H locs 0 0 (MQ below (va_Qv (fun (u : Mem) => u = (I, G, A0, L)) (vB D K ad) (vF ad s.heap.size)) ([.ref (ad s0), .ref (ad s1)] : List Value).toArray s 0 0 (vF ad s.heap.size)) (F0 m 28 ls []) := by
    intro A5 h H locs hP hS ls hl
    subst ek4
    exact W.vret hx hb hr (fun t9 ht9 hW9 => ⟨⟨(I, G, A5, L), rfl, by cases h; rfl, by rw [ht9]; exact hP, va_K.moved hW9.alike hK⟩, hS.F ht9⟩) hS.2.2 dX7_turnRound_28
  have lp1 : ∀ (n : Nat) (v2 : Int32) (A3 : Nat → Nat → Int32), f_X7_turnRound_L2 s0 s1 k4 n v2 A3 = some A0 → ∀ (H : Heap) (locs : List Loc), va_P D vwCl (VW K ad I G A3 L) H → va_S (vF ad s.heap.size) s.heap H locs → ∀ (ls : Array Slot), lv_has ls 4 [(2, .int v2), (0, .ref (ad s0)), (1, .ref (ad s1))] → W p l e ({ frames := 0, cells := 0, slots := 0, locals := 0 }) s m ([.ref (ad s0), .ref (ad s1)] : List Value).toArray below meth c H locs 0 0 (MQ below (va_Qv (fun (u : Mem) => u = (I, G, A0, L)) (vB D K ad) (vF ad s.heap.size)) ([.ref (ad s0), .ref (ad s1)] : List Value).toArray s 0 0 (vF ad s.heap.size)) (F0 m 2 ls []) := by
    intro n
    induction n with
    | zero => intro v2 A3 h; exact absurd h (by rw [f_X7_turnRound_L2]; exact nofun)
    | succ n ih1 =>
      intro v2 A3 h H locs hP hS ls hl
      rw [f_X7_turnRound_L2] at h
      refine lv_iload_n hx hb dX7_turnRound_2 rfl (lv_at hl 0 rfl) ?_
      refine lv_aload_n hx hb dX7_turnRound_3 rfl (lv_at hl 1 rfl) ?_
      obtain ⟨hk6, h⟩ := gk h
      refine vlenZ hx hb hK hP (s0) hk6.1.1 hk6.2 dX7_turnRound_4 ?_
      refine lv_icmp_ge (tgt := 28) hx hb dX7_turnRound_5 (by decide) (fun c_7 => ?_) (fun c_7 => ?_)
      · have h := iN (Int32.not_lt.mpr c_7) h
        exact kk4 A3 h _ _ hP hS ls (lv_sub hl [] rfl)
      · have h := ip (Int32.not_le.mp c_7) h
        refine lv_aload_n hx hb dX7_turnRound_8 rfl (lv_at hl 1 rfl) ?_
        refine lv_iload_n hx hb dX7_turnRound_9 rfl (lv_at hl 0 rfl) ?_
        obtain ⟨hn8, h⟩ := gk h
        refine xzald hx hb hK hP (s0) hk6.1.1 hk6.2 hn8 dX7_turnRound_10 ?_
        refine lv_istore_n (lv' := [(3, .int (A3 s0 v2.toNatClampNeg)), (2, .int v2), (0, .ref (ad s0)), (1, .ref (ad s1))]) hx hb dX7_turnRound_11 rfl hl (by decide) rfl (fun ls hl => ?_)
        refine lv_aload_n hx hb dX7_turnRound_12 rfl (lv_at hl 2 rfl) ?_
        refine lv_iload_n hx hb dX7_turnRound_13 rfl (lv_at hl 1 rfl) ?_
        refine lv_aload_n hx hb dX7_turnRound_14 rfl (lv_at hl 3 rfl) ?_
        refine lv_iload_n hx hb dX7_turnRound_15 rfl (lv_at hl 1 rfl) ?_
        obtain ⟨hk9, h⟩ := gk h
        obtain ⟨hn10, h⟩ := gk h
        refine xzald hx hb hK hP (s1) hk9.1.1 hk9.2 hn10 dX7_turnRound_16 ?_
        refine xzast hx hb hK hP hap hS (s0) hk6.1.1 hk6.2 hn8 dX7_turnRound_17 (fun H locs hP hS => ?_)
        obtain ⟨A11, eA11, h⟩ := bd_e h
        rw [← eA11] at hP
        have hP : va_P D vwCl (VW K ad I G A11 L) H := hP
        refine lv_aload_n hx hb dX7_turnRound_18 rfl (lv_at hl 3 rfl) ?_
        refine lv_iload_n hx hb dX7_turnRound_19 rfl (lv_at hl 1 rfl) ?_
        refine lv_iload_n hx hb dX7_turnRound_20 rfl (lv_at hl 0 rfl) ?_
        refine xzast hx hb hK hP hap hS (s1) hk9.1.1 hk9.2 hn10 dX7_turnRound_21 (fun H locs hP hS => ?_)
        obtain ⟨A12, eA12, h⟩ := bd_e h
        rw [← eA12] at hP
        have hP : va_P D vwCl (VW K ad I G A12 L) H := hP
        refine lv_iinc (v := (v2 + 1)) (lv' := [(2, .int (v2 + 1)), (3, .int (A3 s0 v2.toNatClampNeg)), (0, .ref (ad s0)), (1, .ref (ad s1))]) hx hb dX7_turnRound_22 hl (k := 1) rfl rfl (by decide) rfl (fun ls hl => ?_)
        refine lv_goto (tgt := 2) hx hb dX7_turnRound_25 (by decide) ?_
        exact ih1 (v2 + 1) A12 h _ _ hP hS ls (lv_sub hl [0, 2, 3] rfl)
  exact lp1 FU 0 A h _ _ hP hS ls (lv_sub hl [0, 1, 2] rfl)
set_option maxHeartbeats 4000000 in
set_option maxRecDepth 100000 in
theorem e_X7_aside (l : Launch) (D : va_G) (K : Nat → ClassId) (ad : Nat → Nat) (hap0 : apart ad (fun _ => True)) (I : Nat → Nat → Int32) (G : Nat → Nat → Nat) (A : Nat → Nat → Int32) (L : Nat → Nat → Int64) (I0 : Nat → Nat → Int32) (A0 : Nat → Nat → Int32) (h : f_X7_aside I A = some (I0, A0)) : Cv l D K ad yX7_aside wsX7_aside 1 26 [.ref (ad 318)] (I, G, A, L) (fun (u : Mem) => u = (I0, G, A0, L)) := by
  intro sz
  refine Met.ofW (cc := cX7_aside) (maxL := 4) (ret := none) (by decide) rfl ?_
  intro p e s m args below meth c s₁ Bd hml hv0
  obtain ⟨rfl, hsz, hP, hK⟩ := hv0
  have hx := Bd.exec
  have hb := Bd.bytes
  have hr := Bd.returns
  have hts := atoms_spec (ws := wsX7_aside) Bd.pre
  have hown : s.vm.findClass RX7 = some m.cls := findClass_of_methodNamed Bd.named
  have hlocks := Bd.notSynchronized
  have hi7 : ∀ w ∈ u_ws RX7 TX7 79, w ∈ wsX7_aside := fun w h => List.mem_cons_of_mem _ (List.mem_append_right _ h)
  subst hsz
  have hap := vF_ap hap0 s.heap.size
  have hS : va_S (vF ad s.heap.size) s.heap s.heap [] := va_S.rf
  have hP : va_P D vwCl (VW K ad I G A L) s.heap := hP
  have hl := lv_entry ([.ref (ad 318)]) (n := 4) (Nat.le_of_ble_eq_true rfl)
  rw [lg_entry_eq]
  generalize (lg_sl ([.ref (ad 318)]) ++ List.replicate (4 - (lg_sl ([.ref (ad 318)])).length) Slot.unset).toArray = ls at hl ⊢
  have hl : lv_has ls 4 [(0, .ref (ad 318))] := hl
  rw [f_X7_aside] at h
  refine lv_aload_n hx hb dX7_aside_0 rfl (lv_at hl 0 rfl) ?_
  refine vgI hx hb hts hi7 hown hK hP (318) (by decide) (show kd 318 = 7 by decide) (C := RX7) (T := TX7) (N := 79) rfl 29 (by decide) (by decide) (by decide) (by decide) (hts (.fieldLink RX7 284 "CrateHelpersModel" "nodes" "I") (by decide +kernel)) (fun _ h9 => h9) dX7_aside_1 ?_
  refine lv_istore_n (lv' := [(1, .int (I 318 29)), (0, .ref (ad 318))]) hx hb dX7_aside_4 rfl hl (by decide) rfl (fun ls hl => ?_)
  refine lv_aload_n hx hb dX7_aside_5 rfl (lv_at hl 1 rfl) ?_
  refine vgI hx hb hts hi7 hown hK hP (318) (by decide) (show kd 318 = 7 by decide) (C := RX7) (T := TX7) (N := 79) rfl 30 (by decide) (by decide) (by decide) (by decide) (hts (.fieldLink RX7 287 "CrateHelpersModel" "done" "I") (by decide +kernel)) (fun _ h9 => h9) dX7_aside_6 ?_
  refine lv_istore_n (lv' := [(2, .int (I 318 30)), (1, .int (I 318 29)), (0, .ref (ad 318))]) hx hb dX7_aside_9 rfl hl (by decide) rfl (fun ls hl => ?_)
  refine lv_aload_n hx hb dX7_aside_10 rfl (lv_at hl 2 rfl) ?_
  refine vgI hx hb hts hi7 hown hK hP (318) (by decide) (show kd 318 = 7 by decide) (C := RX7) (T := TX7) (N := 79) rfl 31 (by decide) (by decide) (by decide) (by decide) (hts (.fieldLink RX7 303 "CrateHelpersModel" "taken" "I") (by decide +kernel)) (fun _ h9 => h9) dX7_aside_11 ?_
  refine lv_istore_n (lv' := [(3, .int (I 318 31)), (2, .int (I 318 30)), (1, .int (I 318 29)), (0, .ref (ad 318))]) hx hb dX7_aside_14 rfl hl (by decide) rfl (fun ls hl => ?_)
  refine lv_aload_n hx hb dX7_aside_15 rfl (lv_at hl 3 rfl) ?_
  refine lv_aload_n hx hb dX7_aside_16 rfl (lv_at hl 3 rfl) ?_
  refine vgC hx hb hts hi7 hown hK hP (318) (by decide) (show kd 318 = 7 by decide) (C := RX7) (T := TX7) (N := 79) rfl 66 (by decide) (by decide) (by decide) (by decide) (365) rfl (hts (.fieldLink RX7 162 "CrateHelpersModel" "asideNodes" "[I") (by decide +kernel)) (fun _ h9 => h9) dX7_aside_17 ?_
  refine lv_iconst (v := 0) hx hb dX7_aside_20 (by decide) ?_
  refine xiald hx hb hK hP (365) (by decide) (show kd 365 = 8 by decide) (by rw [show ln 365 = 3 by decide]; unfold vp_in; decide) dX7_aside_21 ?_
  rw [show (0 : Int32).toNatClampNeg = 0 by decide]
  refine vpI (v := (A 365 0)) (ty := .int) hx hb hts hi7 tyX7 tyX7_ok nmX7 hown hK hP hap hS (318) (by decide) (show kd 318 = 7 by decide) (C := RX7) (T := TX7) (N := 79) rfl 29 (by decide) (by decide) (by decide) (by decide) (hts (.fieldLink RX7 284 "CrateHelpersModel" "nodes" "I") (by decide +kernel)) (fun _ h9 => h9) rfl (by decide +kernel) rfl rfl dX7_aside_22 (fun H locs hP hS => ?_)
  obtain ⟨I1, eI1, h⟩ := bd_e h
  rw [← eI1] at hP
  have hP : va_P D vwCl (VW K ad I1 G A L) H := hP
  refine lv_aload_n hx hb dX7_aside_25 rfl (lv_at hl 3 rfl) ?_
  refine lv_aload_n hx hb dX7_aside_26 rfl (lv_at hl 3 rfl) ?_
  refine vgC hx hb hts hi7 hown hK hP (318) (by decide) (show kd 318 = 7 by decide) (C := RX7) (T := TX7) (N := 79) rfl 66 (by decide) (by decide) (by decide) (by decide) (365) rfl (hts (.fieldLink RX7 162 "CrateHelpersModel" "asideNodes" "[I") (by decide +kernel)) (fun _ h9 => h9) dX7_aside_27 ?_
  refine lv_iconst (v := 1) hx hb dX7_aside_30 (by decide) ?_
  refine xiald hx hb hK hP (365) (by decide) (show kd 365 = 8 by decide) (by rw [show ln 365 = 3 by decide]; unfold vp_in; decide) dX7_aside_31 ?_
  rw [show (1 : Int32).toNatClampNeg = 1 by decide]
  refine vpI (v := (A 365 1)) (ty := .int) hx hb hts hi7 tyX7 tyX7_ok nmX7 hown hK hP hap hS (318) (by decide) (show kd 318 = 7 by decide) (C := RX7) (T := TX7) (N := 79) rfl 30 (by decide) (by decide) (by decide) (by decide) (hts (.fieldLink RX7 287 "CrateHelpersModel" "done" "I") (by decide +kernel)) (fun _ h9 => h9) rfl (by decide +kernel) rfl rfl dX7_aside_32 (fun H locs hP hS => ?_)
  obtain ⟨I2, eI2, h⟩ := bd_e h
  rw [← eI2] at hP
  have hP : va_P D vwCl (VW K ad I2 G A L) H := hP
  refine lv_aload_n hx hb dX7_aside_35 rfl (lv_at hl 3 rfl) ?_
  refine lv_aload_n hx hb dX7_aside_36 rfl (lv_at hl 3 rfl) ?_
  refine vgC hx hb hts hi7 hown hK hP (318) (by decide) (show kd 318 = 7 by decide) (C := RX7) (T := TX7) (N := 79) rfl 66 (by decide) (by decide) (by decide) (by decide) (365) rfl (hts (.fieldLink RX7 162 "CrateHelpersModel" "asideNodes" "[I") (by decide +kernel)) (fun _ h9 => h9) dX7_aside_37 ?_
  refine lv_iconst (v := 2) hx hb dX7_aside_40 (by decide) ?_
  refine xiald hx hb hK hP (365) (by decide) (show kd 365 = 8 by decide) (by rw [show ln 365 = 3 by decide]; unfold vp_in; decide) dX7_aside_41 ?_
  rw [show (2 : Int32).toNatClampNeg = 2 by decide]
  refine vpI (v := (A 365 2)) (ty := .int) hx hb hts hi7 tyX7 tyX7_ok nmX7 hown hK hP hap hS (318) (by decide) (show kd 318 = 7 by decide) (C := RX7) (T := TX7) (N := 79) rfl 31 (by decide) (by decide) (by decide) (by decide) (hts (.fieldLink RX7 303 "CrateHelpersModel" "taken" "I") (by decide +kernel)) (fun _ h9 => h9) rfl (by decide +kernel) rfl rfl dX7_aside_42 (fun H locs hP hS => ?_)
  obtain ⟨I3, eI3, h⟩ := bd_e h
  rw [← eI3] at hP
  have hP : va_P D vwCl (VW K ad I3 G A L) H := hP
  refine lv_aload_n hx hb dX7_aside_45 rfl (lv_at hl 3 rfl) ?_
  refine vgC hx hb hts hi7 hown hK hP (318) (by decide) (show kd 318 = 7 by decide) (C := RX7) (T := TX7) (N := 79) rfl 66 (by decide) (by decide) (by decide) (by decide) (365) rfl (hts (.fieldLink RX7 162 "CrateHelpersModel" "asideNodes" "[I") (by decide +kernel)) (fun _ h9 => h9) dX7_aside_46 ?_
  refine lv_iconst (v := 0) hx hb dX7_aside_49 (by decide) ?_
  refine lv_iload_n hx hb dX7_aside_50 rfl (lv_at hl 2 rfl) ?_
  refine xiast hx hb hK hP hap hS (365) (by decide) (show kd 365 = 8 by decide) (by rw [show ln 365 = 3 by decide]; unfold vp_in; decide) dX7_aside_51 (fun H locs hP hS => ?_)
  rw [show (0 : Int32).toNatClampNeg = 0 by decide] at hP
  obtain ⟨A4, eA4, h⟩ := bd_e h
  rw [← eA4] at hP
  have hP : va_P D vwCl (VW K ad I3 G A4 L) H := hP
  refine lv_aload_n hx hb dX7_aside_52 rfl (lv_at hl 3 rfl) ?_
  refine vgC hx hb hts hi7 hown hK hP (318) (by decide) (show kd 318 = 7 by decide) (C := RX7) (T := TX7) (N := 79) rfl 66 (by decide) (by decide) (by decide) (by decide) (365) rfl (hts (.fieldLink RX7 162 "CrateHelpersModel" "asideNodes" "[I") (by decide +kernel)) (fun _ h9 => h9) dX7_aside_53 ?_
  refine lv_iconst (v := 1) hx hb dX7_aside_56 (by decide) ?_
  refine lv_iload_n hx hb dX7_aside_57 rfl (lv_at hl 1 rfl) ?_
  refine xiast hx hb hK hP hap hS (365) (by decide) (show kd 365 = 8 by decide) (by rw [show ln 365 = 3 by decide]; unfold vp_in; decide) dX7_aside_58 (fun H locs hP hS => ?_)
  rw [show (1 : Int32).toNatClampNeg = 1 by decide] at hP
  obtain ⟨A5, eA5, h⟩ := bd_e h
  rw [← eA5] at hP
  have hP : va_P D vwCl (VW K ad I3 G A5 L) H := hP
  refine lv_aload_n hx hb dX7_aside_59 rfl (lv_at hl 3 rfl) ?_
  refine vgC hx hb hts hi7 hown hK hP (318) (by decide) (show kd 318 = 7 by decide) (C := RX7) (T := TX7) (N := 79) rfl 66 (by decide) (by decide) (by decide) (by decide) (365) rfl (hts (.fieldLink RX7 162 "CrateHelpersModel" "asideNodes" "[I") (by decide +kernel)) (fun _ h9 => h9) dX7_aside_60 ?_
  refine lv_iconst (v := 2) hx hb dX7_aside_63 (by decide) ?_
  refine lv_iload_n hx hb dX7_aside_64 rfl (lv_at hl 0 rfl) ?_
  refine xiast hx hb hK hP hap hS (365) (by decide) (show kd 365 = 8 by decide) (by rw [show ln 365 = 3 by decide]; unfold vp_in; decide) dX7_aside_65 (fun H locs hP hS => ?_)
  rw [show (2 : Int32).toNatClampNeg = 2 by decide] at hP
  obtain ⟨A6, eA6, h⟩ := bd_e h
  rw [← eA6] at hP
  have hP : va_P D vwCl (VW K ad I3 G A6 L) H := hP
  refine lv_aload_n hx hb dX7_aside_66 rfl (lv_at hl 3 rfl) ?_
  refine vgC hx hb hts hi7 hown hK hP (318) (by decide) (show kd 318 = 7 by decide) (C := RX7) (T := TX7) (N := 79) rfl 32 (by decide) (by decide) (by decide) (by decide) (338) rfl (hts (.fieldLink RX7 74 "CrateHelpersModel" "depth" "[I") (by decide +kernel)) (fun _ h9 => h9) dX7_aside_67 ?_
  refine lv_aload_n hx hb dX7_aside_70 rfl (lv_at hl 3 rfl) ?_
  refine vgC hx hb hts hi7 hown hK hP (318) (by decide) (show kd 318 = 7 by decide) (C := RX7) (T := TX7) (N := 79) rfl 67 (by decide) (by decide) (by decide) (by decide) (366) rfl (hts (.fieldLink RX7 165 "CrateHelpersModel" "asideDepth" "[I") (by decide +kernel)) (fun _ h9 => h9) dX7_aside_71 ?_
  obtain ⟨A7, hc8, h⟩ := Option.bind_eq_some_iff.mp h
  refine ecSv (As := [.ref (ad 338), .ref (ad 366)]) (rest := []) ⟨hx, hb, hml, hown, hts⟩ (e_X7_swap l D K ad hap0 338 366 I3 G A6 L A7 hc8) (va_cwS 2 hts gX7_aside_X7_swap rfl rfl rfl (by decide +kernel) ⟨Nat.le_of_ble_eq_true rfl, Nat.le_of_ble_eq_true rfl⟩) hK hP hS rfl hl.1 (Nat.le_of_ble_eq_true rfl) (Nat.le_of_ble_eq_true rfl) (Nat.le_of_ble_eq_true rfl) dX7_aside_74 (fun H locs hP hS => ?_) rfl
  have hP : va_P D vwCl (VW K ad I3 G A7 L) H := hP
  refine lv_aload_n hx hb dX7_aside_77 rfl (lv_at hl 3 rfl) ?_
  refine vgC hx hb hts hi7 hown hK hP (318) (by decide) (show kd 318 = 7 by decide) (C := RX7) (T := TX7) (N := 79) rfl 33 (by decide) (by decide) (by decide) (by decide) (339) rfl (hts (.fieldLink RX7 77 "CrateHelpersModel" "row" "[I") (by decide +kernel)) (fun _ h9 => h9) dX7_aside_78 ?_
  refine lv_aload_n hx hb dX7_aside_81 rfl (lv_at hl 3 rfl) ?_
  refine vgC hx hb hts hi7 hown hK hP (318) (by decide) (show kd 318 = 7 by decide) (C := RX7) (T := TX7) (N := 79) rfl 68 (by decide) (by decide) (by decide) (by decide) (367) rfl (hts (.fieldLink RX7 168 "CrateHelpersModel" "asideRow" "[I") (by decide +kernel)) (fun _ h9 => h9) dX7_aside_82 ?_
  obtain ⟨A9, hc10, h⟩ := Option.bind_eq_some_iff.mp h
  refine ecSv (As := [.ref (ad 339), .ref (ad 367)]) (rest := []) ⟨hx, hb, hml, hown, hts⟩ (e_X7_swap l D K ad hap0 339 367 I3 G A7 L A9 hc10) (va_cwS 2 hts gX7_aside_X7_swap rfl rfl rfl (by decide +kernel) ⟨Nat.le_of_ble_eq_true rfl, Nat.le_of_ble_eq_true rfl⟩) hK hP hS rfl hl.1 (Nat.le_of_ble_eq_true rfl) (Nat.le_of_ble_eq_true rfl) (Nat.le_of_ble_eq_true rfl) dX7_aside_85 (fun H locs hP hS => ?_) rfl
  have hP : va_P D vwCl (VW K ad I3 G A9 L) H := hP
  refine lv_aload_n hx hb dX7_aside_88 rfl (lv_at hl 3 rfl) ?_
  refine vgC hx hb hts hi7 hown hK hP (318) (by decide) (show kd 318 = 7 by decide) (C := RX7) (T := TX7) (N := 79) rfl 34 (by decide) (by decide) (by decide) (by decide) (340) rfl (hts (.fieldLink RX7 80 "CrateHelpersModel" "key" "[I") (by decide +kernel)) (fun _ h9 => h9) dX7_aside_89 ?_
  refine lv_aload_n hx hb dX7_aside_92 rfl (lv_at hl 3 rfl) ?_
  refine vgC hx hb hts hi7 hown hK hP (318) (by decide) (show kd 318 = 7 by decide) (C := RX7) (T := TX7) (N := 79) rfl 69 (by decide) (by decide) (by decide) (by decide) (368) rfl (hts (.fieldLink RX7 171 "CrateHelpersModel" "asideKey" "[I") (by decide +kernel)) (fun _ h9 => h9) dX7_aside_93 ?_
  obtain ⟨A11, hc12, h⟩ := Option.bind_eq_some_iff.mp h
  refine ecSv (As := [.ref (ad 340), .ref (ad 368)]) (rest := []) ⟨hx, hb, hml, hown, hts⟩ (e_X7_swap l D K ad hap0 340 368 I3 G A9 L A11 hc12) (va_cwS 2 hts gX7_aside_X7_swap rfl rfl rfl (by decide +kernel) ⟨Nat.le_of_ble_eq_true rfl, Nat.le_of_ble_eq_true rfl⟩) hK hP hS rfl hl.1 (Nat.le_of_ble_eq_true rfl) (Nat.le_of_ble_eq_true rfl) (Nat.le_of_ble_eq_true rfl) dX7_aside_96 (fun H locs hP hS => ?_) rfl
  have hP : va_P D vwCl (VW K ad I3 G A11 L) H := hP
  refine lv_aload_n hx hb dX7_aside_99 rfl (lv_at hl 3 rfl) ?_
  refine vgC hx hb hts hi7 hown hK hP (318) (by decide) (show kd 318 = 7 by decide) (C := RX7) (T := TX7) (N := 79) rfl 35 (by decide) (by decide) (by decide) (by decide) (341) rfl (hts (.fieldLink RX7 83 "CrateHelpersModel" "bound" "[I") (by decide +kernel)) (fun _ h9 => h9) dX7_aside_100 ?_
  refine lv_aload_n hx hb dX7_aside_103 rfl (lv_at hl 3 rfl) ?_
  refine vgC hx hb hts hi7 hown hK hP (318) (by decide) (show kd 318 = 7 by decide) (C := RX7) (T := TX7) (N := 79) rfl 70 (by decide) (by decide) (by decide) (by decide) (369) rfl (hts (.fieldLink RX7 174 "CrateHelpersModel" "asideBound" "[I") (by decide +kernel)) (fun _ h9 => h9) dX7_aside_104 ?_
  obtain ⟨A13, hc14, h⟩ := Option.bind_eq_some_iff.mp h
  refine ecSv (As := [.ref (ad 341), .ref (ad 369)]) (rest := []) ⟨hx, hb, hml, hown, hts⟩ (e_X7_swap l D K ad hap0 341 369 I3 G A11 L A13 hc14) (va_cwS 2 hts gX7_aside_X7_swap rfl rfl rfl (by decide +kernel) ⟨Nat.le_of_ble_eq_true rfl, Nat.le_of_ble_eq_true rfl⟩) hK hP hS rfl hl.1 (Nat.le_of_ble_eq_true rfl) (Nat.le_of_ble_eq_true rfl) (Nat.le_of_ble_eq_true rfl) dX7_aside_107 (fun H locs hP hS => ?_) rfl
  have hP : va_P D vwCl (VW K ad I3 G A13 L) H := hP
  refine lv_aload_n hx hb dX7_aside_110 rfl (lv_at hl 3 rfl) ?_
  refine vgC hx hb hts hi7 hown hK hP (318) (by decide) (show kd 318 = 7 by decide) (C := RX7) (T := TX7) (N := 79) rfl 36 (by decide) (by decide) (by decide) (by decide) (342) rfl (hts (.fieldLink RX7 86 "CrateHelpersModel" "above" "[I") (by decide +kernel)) (fun _ h9 => h9) dX7_aside_111 ?_
  refine lv_aload_n hx hb dX7_aside_114 rfl (lv_at hl 3 rfl) ?_
  refine vgC hx hb hts hi7 hown hK hP (318) (by decide) (show kd 318 = 7 by decide) (C := RX7) (T := TX7) (N := 79) rfl 71 (by decide) (by decide) (by decide) (by decide) (370) rfl (hts (.fieldLink RX7 177 "CrateHelpersModel" "asideAbove" "[I") (by decide +kernel)) (fun _ h9 => h9) dX7_aside_115 ?_
  obtain ⟨A15, hc16, h⟩ := Option.bind_eq_some_iff.mp h
  refine ecSv (As := [.ref (ad 342), .ref (ad 370)]) (rest := []) ⟨hx, hb, hml, hown, hts⟩ (e_X7_swap l D K ad hap0 342 370 I3 G A13 L A15 hc16) (va_cwS 2 hts gX7_aside_X7_swap rfl rfl rfl (by decide +kernel) ⟨Nat.le_of_ble_eq_true rfl, Nat.le_of_ble_eq_true rfl⟩) hK hP hS rfl hl.1 (Nat.le_of_ble_eq_true rfl) (Nat.le_of_ble_eq_true rfl) (Nat.le_of_ble_eq_true rfl) dX7_aside_118 (fun H locs hP hS => ?_) rfl
  have hP : va_P D vwCl (VW K ad I3 G A15 L) H := hP
  refine lv_aload_n hx hb dX7_aside_121 rfl (lv_at hl 3 rfl) ?_
  refine vgC hx hb hts hi7 hown hK hP (318) (by decide) (show kd 318 = 7 by decide) (C := RX7) (T := TX7) (N := 79) rfl 37 (by decide) (by decide) (by decide) (by decide) (343) rfl (hts (.fieldLink RX7 89 "CrateHelpersModel" "holder" "[I") (by decide +kernel)) (fun _ h9 => h9) dX7_aside_122 ?_
  refine lv_aload_n hx hb dX7_aside_125 rfl (lv_at hl 3 rfl) ?_
  refine vgC hx hb hts hi7 hown hK hP (318) (by decide) (show kd 318 = 7 by decide) (C := RX7) (T := TX7) (N := 79) rfl 72 (by decide) (by decide) (by decide) (by decide) (371) rfl (hts (.fieldLink RX7 180 "CrateHelpersModel" "asideHolder" "[I") (by decide +kernel)) (fun _ h9 => h9) dX7_aside_126 ?_
  obtain ⟨A17, hc18, h⟩ := Option.bind_eq_some_iff.mp h
  refine ecSv (As := [.ref (ad 343), .ref (ad 371)]) (rest := []) ⟨hx, hb, hml, hown, hts⟩ (e_X7_swap l D K ad hap0 343 371 I3 G A15 L A17 hc18) (va_cwS 2 hts gX7_aside_X7_swap rfl rfl rfl (by decide +kernel) ⟨Nat.le_of_ble_eq_true rfl, Nat.le_of_ble_eq_true rfl⟩) hK hP hS rfl hl.1 (Nat.le_of_ble_eq_true rfl) (Nat.le_of_ble_eq_true rfl) (Nat.le_of_ble_eq_true rfl) dX7_aside_129 (fun H locs hP hS => ?_) rfl
  have hP : va_P D vwCl (VW K ad I3 G A17 L) H := hP
  refine lv_aload_n hx hb dX7_aside_132 rfl (lv_at hl 3 rfl) ?_
  refine vgC hx hb hts hi7 hown hK hP (318) (by decide) (show kd 318 = 7 by decide) (C := RX7) (T := TX7) (N := 79) rfl 38 (by decide) (by decide) (by decide) (by decide) (344) rfl (hts (.fieldLink RX7 92 "CrateHelpersModel" "isDone" "[Z") (by decide +kernel)) (fun _ h9 => h9) dX7_aside_133 ?_
  refine lv_aload_n hx hb dX7_aside_136 rfl (lv_at hl 3 rfl) ?_
  refine vgC hx hb hts hi7 hown hK hP (318) (by decide) (show kd 318 = 7 by decide) (C := RX7) (T := TX7) (N := 79) rfl 73 (by decide) (by decide) (by decide) (by decide) (372) rfl (hts (.fieldLink RX7 183 "CrateHelpersModel" "asideDone" "[Z") (by decide +kernel)) (fun _ h9 => h9) dX7_aside_137 ?_
  obtain ⟨A19, hc20, h⟩ := Option.bind_eq_some_iff.mp h
  refine ecSv (As := [.ref (ad 344), .ref (ad 372)]) (rest := []) ⟨hx, hb, hml, hown, hts⟩ (e_X7_turnRound l D K ad hap0 344 372 I3 G A17 L A19 hc20) (va_cwS 2 hts gX7_aside_X7_turnRound rfl rfl rfl (by decide +kernel) ⟨Nat.le_of_ble_eq_true rfl, Nat.le_of_ble_eq_true rfl⟩) hK hP hS rfl hl.1 (Nat.le_of_ble_eq_true rfl) (Nat.le_of_ble_eq_true rfl) (Nat.le_of_ble_eq_true rfl) dX7_aside_140 (fun H locs hP hS => ?_) rfl
  have hP : va_P D vwCl (VW K ad I3 G A19 L) H := hP
  refine lv_aload_n hx hb dX7_aside_143 rfl (lv_at hl 3 rfl) ?_
  refine vgC hx hb hts hi7 hown hK hP (318) (by decide) (show kd 318 = 7 by decide) (C := RX7) (T := TX7) (N := 79) rfl 39 (by decide) (by decide) (by decide) (by decide) (345) rfl (hts (.fieldLink RX7 96 "CrateHelpersModel" "isTaken" "[Z") (by decide +kernel)) (fun _ h9 => h9) dX7_aside_144 ?_
  refine lv_aload_n hx hb dX7_aside_147 rfl (lv_at hl 3 rfl) ?_
  refine vgC hx hb hts hi7 hown hK hP (318) (by decide) (show kd 318 = 7 by decide) (C := RX7) (T := TX7) (N := 79) rfl 74 (by decide) (by decide) (by decide) (by decide) (373) rfl (hts (.fieldLink RX7 186 "CrateHelpersModel" "asideTaken" "[Z") (by decide +kernel)) (fun _ h9 => h9) dX7_aside_148 ?_
  obtain ⟨A21, hc22, h⟩ := Option.bind_eq_some_iff.mp h
  refine ecSv (As := [.ref (ad 345), .ref (ad 373)]) (rest := []) ⟨hx, hb, hml, hown, hts⟩ (e_X7_turnRound l D K ad hap0 345 373 I3 G A19 L A21 hc22) (va_cwS 2 hts gX7_aside_X7_turnRound rfl rfl rfl (by decide +kernel) ⟨Nat.le_of_ble_eq_true rfl, Nat.le_of_ble_eq_true rfl⟩) hK hP hS rfl hl.1 (Nat.le_of_ble_eq_true rfl) (Nat.le_of_ble_eq_true rfl) (Nat.le_of_ble_eq_true rfl) dX7_aside_151 (fun H locs hP hS => ?_) rfl
  have hP : va_P D vwCl (VW K ad I3 G A21 L) H := hP
  refine lv_aload_n hx hb dX7_aside_154 rfl (lv_at hl 3 rfl) ?_
  refine vgC hx hb hts hi7 hown hK hP (318) (by decide) (show kd 318 = 7 by decide) (C := RX7) (T := TX7) (N := 79) rfl 40 (by decide) (by decide) (by decide) (by decide) (346) rfl (hts (.fieldLink RX7 99 "CrateHelpersModel" "order" "[I") (by decide +kernel)) (fun _ h9 => h9) dX7_aside_155 ?_
  refine lv_aload_n hx hb dX7_aside_158 rfl (lv_at hl 3 rfl) ?_
  refine vgC hx hb hts hi7 hown hK hP (318) (by decide) (show kd 318 = 7 by decide) (C := RX7) (T := TX7) (N := 79) rfl 75 (by decide) (by decide) (by decide) (by decide) (374) rfl (hts (.fieldLink RX7 189 "CrateHelpersModel" "asideOrder" "[I") (by decide +kernel)) (fun _ h9 => h9) dX7_aside_159 ?_
  obtain ⟨A23, hc24, h⟩ := Option.bind_eq_some_iff.mp h
  refine ecSv (As := [.ref (ad 346), .ref (ad 374)]) (rest := []) ⟨hx, hb, hml, hown, hts⟩ (e_X7_swap l D K ad hap0 346 374 I3 G A21 L A23 hc24) (va_cwS 2 hts gX7_aside_X7_swap rfl rfl rfl (by decide +kernel) ⟨Nat.le_of_ble_eq_true rfl, Nat.le_of_ble_eq_true rfl⟩) hK hP hS rfl hl.1 (Nat.le_of_ble_eq_true rfl) (Nat.le_of_ble_eq_true rfl) (Nat.le_of_ble_eq_true rfl) dX7_aside_162 (fun H locs hP hS => ?_) rfl
  have hP : va_P D vwCl (VW K ad I3 G A23 L) H := hP
  refine lv_aload_n hx hb dX7_aside_165 rfl (lv_at hl 3 rfl) ?_
  refine vgC hx hb hts hi7 hown hK hP (318) (by decide) (show kd 318 = 7 by decide) (C := RX7) (T := TX7) (N := 79) rfl 41 (by decide) (by decide) (by decide) (by decide) (347) rfl (hts (.fieldLink RX7 102 "CrateHelpersModel" "closing" "[I") (by decide +kernel)) (fun _ h9 => h9) dX7_aside_166 ?_
  refine lv_aload_n hx hb dX7_aside_169 rfl (lv_at hl 3 rfl) ?_
  refine vgC hx hb hts hi7 hown hK hP (318) (by decide) (show kd 318 = 7 by decide) (C := RX7) (T := TX7) (N := 79) rfl 76 (by decide) (by decide) (by decide) (by decide) (375) rfl (hts (.fieldLink RX7 192 "CrateHelpersModel" "asideClosing" "[I") (by decide +kernel)) (fun _ h9 => h9) dX7_aside_170 ?_
  obtain ⟨A25, hc26, h⟩ := Option.bind_eq_some_iff.mp h
  refine ecSv (As := [.ref (ad 347), .ref (ad 375)]) (rest := []) ⟨hx, hb, hml, hown, hts⟩ (e_X7_swap l D K ad hap0 347 375 I3 G A23 L A25 hc26) (va_cwS 2 hts gX7_aside_X7_swap rfl rfl rfl (by decide +kernel) ⟨Nat.le_of_ble_eq_true rfl, Nat.le_of_ble_eq_true rfl⟩) hK hP hS rfl hl.1 (Nat.le_of_ble_eq_true rfl) (Nat.le_of_ble_eq_true rfl) (Nat.le_of_ble_eq_true rfl) dX7_aside_173 (fun H locs hP hS => ?_) rfl
  have hP : va_P D vwCl (VW K ad I3 G A25 L) H := hP
  refine lv_aload_n hx hb dX7_aside_176 rfl (lv_at hl 3 rfl) ?_
  refine vgC hx hb hts hi7 hown hK hP (318) (by decide) (show kd 318 = 7 by decide) (C := RX7) (T := TX7) (N := 79) rfl 42 (by decide) (by decide) (by decide) (by decide) (348) rfl (hts (.fieldLink RX7 105 "CrateHelpersModel" "reason" "[I") (by decide +kernel)) (fun _ h9 => h9) dX7_aside_177 ?_
  refine lv_aload_n hx hb dX7_aside_180 rfl (lv_at hl 3 rfl) ?_
  refine vgC hx hb hts hi7 hown hK hP (318) (by decide) (show kd 318 = 7 by decide) (C := RX7) (T := TX7) (N := 79) rfl 77 (by decide) (by decide) (by decide) (by decide) (376) rfl (hts (.fieldLink RX7 195 "CrateHelpersModel" "asideReason" "[I") (by decide +kernel)) (fun _ h9 => h9) dX7_aside_181 ?_
  obtain ⟨A27, hc28, h⟩ := Option.bind_eq_some_iff.mp h
  refine ecSv (As := [.ref (ad 348), .ref (ad 376)]) (rest := []) ⟨hx, hb, hml, hown, hts⟩ (e_X7_swap l D K ad hap0 348 376 I3 G A25 L A27 hc28) (va_cwS 2 hts gX7_aside_X7_swap rfl rfl rfl (by decide +kernel) ⟨Nat.le_of_ble_eq_true rfl, Nat.le_of_ble_eq_true rfl⟩) hK hP hS rfl hl.1 (Nat.le_of_ble_eq_true rfl) (Nat.le_of_ble_eq_true rfl) (Nat.le_of_ble_eq_true rfl) dX7_aside_184 (fun H locs hP hS => ?_) rfl
  have hP : va_P D vwCl (VW K ad I3 G A27 L) H := hP
  refine lv_aload_n hx hb dX7_aside_187 rfl (lv_at hl 3 rfl) ?_
  refine vgC hx hb hts hi7 hown hK hP (318) (by decide) (show kd 318 = 7 by decide) (C := RX7) (T := TX7) (N := 79) rfl 43 (by decide) (by decide) (by decide) (by decide) (349) rfl (hts (.fieldLink RX7 108 "CrateHelpersModel" "openBelow" "[I") (by decide +kernel)) (fun _ h9 => h9) dX7_aside_188 ?_
  refine lv_aload_n hx hb dX7_aside_191 rfl (lv_at hl 3 rfl) ?_
  refine vgC hx hb hts hi7 hown hK hP (318) (by decide) (show kd 318 = 7 by decide) (C := RX7) (T := TX7) (N := 79) rfl 78 (by decide) (by decide) (by decide) (by decide) (377) rfl (hts (.fieldLink RX7 198 "CrateHelpersModel" "asideOpen" "[I") (by decide +kernel)) (fun _ h9 => h9) dX7_aside_192 ?_
  obtain ⟨A29, hc30, h⟩ := Option.bind_eq_some_iff.mp h
  refine ecSv (As := [.ref (ad 349), .ref (ad 377)]) (rest := []) ⟨hx, hb, hml, hown, hts⟩ (e_X7_swap l D K ad hap0 349 377 I3 G A27 L A29 hc30) (va_cwS 2 hts gX7_aside_X7_swap rfl rfl rfl (by decide +kernel) ⟨Nat.le_of_ble_eq_true rfl, Nat.le_of_ble_eq_true rfl⟩) hK hP hS rfl hl.1 (Nat.le_of_ble_eq_true rfl) (Nat.le_of_ble_eq_true rfl) (Nat.le_of_ble_eq_true rfl) dX7_aside_195 (fun H locs hP hS => ?_) rfl
  have hP : va_P D vwCl (VW K ad I3 G A29 L) H := hP
  exact W.vret hx hb hr (fun t9 ht9 hW9 => ⟨⟨(I3, G, A29, L), rfl, by cases h; rfl, by rw [ht9]; exact hP, va_K.moved hW9.alike hK⟩, hS.F ht9⟩) hS.2.2 dX7_aside_198
set_option maxHeartbeats 4000000 in
set_option maxRecDepth 100000 in
theorem e_X7_ask (l : Launch) (D : va_G) (K : Nat → ClassId) (ad : Nat → Nat) (hap0 : apart ad (fun _ => True)) (a1 : Int32) (I : Nat → Nat → Int32) (G : Nat → Nat → Nat) (A : Nat → Nat → Int32) (L : Nat → Nat → Int64) (r0 : Int32) (I0 : Nat → Nat → Int32) (h : f_X7_ask I A a1 = some (r0, I0)) : Ci l D K ad yX7_ask wsX7_ask 2 49 [.ref (ad 318), .int a1] (I, G, A, L) (fun (r : Int32) (u : Mem) => r = r0 ∧ u = (I0, G, A, L)) := by
  intro sz
  refine Met.ofW (cc := cX7_ask) (maxL := 2) (ret := (some .int)) (by decide) rfl ?_
  intro p e s m args below meth c s₁ Bd hml hv0
  obtain ⟨rfl, hsz, hP, hK⟩ := hv0
  have hx := Bd.exec
  have hb := Bd.bytes
  have hr := Bd.returns
  have hts := atoms_spec (ws := wsX7_ask) Bd.pre
  have hown : s.vm.findClass RX7 = some m.cls := findClass_of_methodNamed Bd.named
  have hlocks := Bd.notSynchronized
  have hi7 : ∀ w ∈ u_ws RX7 TX7 79, w ∈ wsX7_ask := fun w h => List.mem_cons_of_mem _ (List.mem_append_right _ h)
  subst hsz
  have hap := vF_ap hap0 s.heap.size
  have hS : va_S (vF ad s.heap.size) s.heap s.heap [] := va_S.rf
  have hP : va_P D vwCl (VW K ad I G A L) s.heap := hP
  have hl := lv_entry ([.ref (ad 318), .int a1]) (n := 2) (Nat.le_of_ble_eq_true rfl)
  rw [lg_entry_eq]
  generalize (lg_sl ([.ref (ad 318), .int a1]) ++ List.replicate (2 - (lg_sl ([.ref (ad 318), .int a1])).length) Slot.unset).toArray = ls at hl ⊢
  have hl : lv_has ls 2 [(0, .ref (ad 318)), (1, .int a1)] := hl
  rw [f_X7_ask] at h
  refine lv_aload_n hx hb dX7_ask_0 rfl (lv_at hl 0 rfl) ?_
  refine lv_iconst (v := 0) hx hb dX7_ask_1 (by decide) ?_
  refine vpI (v := 0) (ty := .int) hx hb hts hi7 tyX7 tyX7_ok nmX7 hown hK hP hap hS (318) (by decide) (show kd 318 = 7 by decide) (C := RX7) (T := TX7) (N := 79) rfl 0 (by decide) (by decide) (by decide) (by decide) (hts (.fieldLink RX7 201 "CrateHelpersModel" "thrown" "I") (by decide +kernel)) (fun _ h9 => h9) rfl (by decide +kernel) rfl rfl dX7_ask_2 (fun H locs hP hS => ?_)
  obtain ⟨I1, eI1, h⟩ := bd_e h
  rw [← eI1] at hP
  have hP : va_P D vwCl (VW K ad I1 G A L) H := hP
  refine lv_aload_n hx hb dX7_ask_5 rfl (lv_at hl 0 rfl) ?_
  refine lv_iload_n hx hb dX7_ask_6 rfl (lv_at hl 1 rfl) ?_
  obtain ⟨r2, hc3, h⟩ := Option.bind_eq_some_iff.mp h
  refine ecV (As := [.int a1]) (rest := []) ⟨hx, hb, hml, hown, hts⟩ (e_X7_isProblem l D K ad hap0 a1 I1 G A L r2 hc3) (cwV 1 hts gX7_ask_X7_isProblem rfl rfl rfl (by decide +kernel) ⟨Nat.le_of_ble_eq_true rfl, Nat.le_of_ble_eq_true rfl⟩) hK hP hS (by decide) (show kd 318 = 7 by decide) (by decide) rfl rfl rfl hl.1 (Nat.le_of_ble_eq_true rfl) (Nat.le_of_ble_eq_true rfl) (Nat.le_of_ble_eq_true rfl) dX7_ask_7 (fun H locs hP hS => ?_) rfl
  have hP : va_P D vwCl (VW K ad I1 G A L) H := hP
  refine lv_if_ne (tgt := 15) hx hb dX7_ask_10 (by decide) (fun c_4 => ?_) (fun c_4 => ?_)
  · have h := iN c_4 h
    refine lv_aload_n hx hb dX7_ask_15 rfl (lv_at hl 0 rfl) ?_
    refine lv_iload_n hx hb dX7_ask_16 rfl (lv_at hl 1 rfl) ?_
    refine vpI (v := a1) (ty := .int) hx hb hts hi7 tyX7 tyX7_ok nmX7 hown hK hP hap hS (318) (by decide) (show kd 318 = 7 by decide) (C := RX7) (T := TX7) (N := 79) rfl 57 (by decide) (by decide) (by decide) (by decide) (hts (.fieldLink RX7 147 "CrateHelpersModel" "asked" "I") (by decide +kernel)) (fun _ h9 => h9) rfl (by decide +kernel) rfl rfl dX7_ask_17 (fun H locs hP hS => ?_)
    obtain ⟨I5, eI5, h⟩ := bd_e h
    rw [← eI5] at hP
    have hP : va_P D vwCl (VW K ad I5 G A L) H := hP
    refine lv_aload_n hx hb dX7_ask_20 rfl (lv_at hl 0 rfl) ?_
    refine lv_aload_n hx hb dX7_ask_21 rfl (lv_at hl 0 rfl) ?_
    refine vgC hx hb hts hi7 hown hK hP (318) (by decide) (show kd 318 = 7 by decide) (C := RX7) (T := TX7) (N := 79) rfl 13 (by decide) (by decide) (by decide) (by decide) (329) rfl (hts (.fieldLink RX7 40 "CrateHelpersModel" "changed" "[I") (by decide +kernel)) (fun _ h9 => h9) dX7_ask_22 ?_
    refine lv_iload_n hx hb dX7_ask_25 rfl (lv_at hl 1 rfl) ?_
    obtain ⟨hn6, h⟩ := gk h
    refine xiald hx hb hK hP (329) (by decide) (show kd 329 = 8 by decide) (by rw [show ln 329 = 5 by decide]; exact hn6) dX7_ask_26 ?_
    refine vpI (v := (A 329 a1.toNatClampNeg)) (ty := .int) hx hb hts hi7 tyX7 tyX7_ok nmX7 hown hK hP hap hS (318) (by decide) (show kd 318 = 7 by decide) (C := RX7) (T := TX7) (N := 79) rfl 58 (by decide) (by decide) (by decide) (by decide) (hts (.fieldLink RX7 339 "CrateHelpersModel" "askedChange" "I") (by decide +kernel)) (fun _ h9 => h9) rfl (by decide +kernel) rfl rfl dX7_ask_27 (fun H locs hP hS => ?_)
    obtain ⟨I7, eI7, h⟩ := bd_e h
    rw [← eI7] at hP
    have hP : va_P D vwCl (VW K ad I7 G A L) H := hP
    refine lv_aload_n hx hb dX7_ask_30 rfl (lv_at hl 0 rfl) ?_
    refine lv_iconst (v := 0) hx hb dX7_ask_31 (by decide) ?_
    refine vpI (v := 0) (ty := .int) hx hb hts hi7 tyX7 tyX7_ok nmX7 hown hK hP hap hS (318) (by decide) (show kd 318 = 7 by decide) (C := RX7) (T := TX7) (N := 79) rfl 59 (by decide) (by decide) (by decide) (by decide) (hts (.fieldLink RX7 342 "CrateHelpersModel" "askedDepth" "I") (by decide +kernel)) (fun _ h9 => h9) rfl (by decide +kernel) rfl rfl dX7_ask_32 (fun H locs hP hS => ?_)
    obtain ⟨I8, eI8, h⟩ := bd_e h
    rw [← eI8] at hP
    have hP : va_P D vwCl (VW K ad I8 G A L) H := hP
    refine lv_aload_n hx hb dX7_ask_35 rfl (lv_at hl 0 rfl) ?_
    refine vgC hx hb hts hi7 hown hK hP (318) (by decide) (show kd 318 = 7 by decide) (C := RX7) (T := TX7) (N := 79) rfl 3 (by decide) (by decide) (by decide) (by decide) (319) rfl (hts (.fieldLink RX7 7 "CrateHelpersModel" "variables" "[I") (by decide +kernel)) (fun _ h9 => h9) dX7_ask_36 ?_
    refine lv_iload_n hx hb dX7_ask_39 rfl (lv_at hl 1 rfl) ?_
    refine xiald hx hb hK hP (319) (by decide) (show kd 319 = 8 by decide) (by rw [show ln 319 = 5 by decide]; exact hn6) dX7_ask_40 ?_
    exact W.iret (v := (A 319 a1.toNatClampNeg)) hx hb hr (fun t9 ht9 hW9 => ⟨⟨(A 319 a1.toNatClampNeg), (I8, G, A, L), rfl, by cases h; exact ⟨rfl, rfl⟩, by rw [ht9]; exact hP, va_K.moved hW9.alike hK⟩, hS.F ht9⟩) hS.2.2 dX7_ask_41
  · have h := ip c_4 h
    refine lv_iconst (v := (-1)) hx hb dX7_ask_13 (by decide) ?_
    exact W.iret (v := (-1)) hx hb hr (fun t9 ht9 hW9 => ⟨⟨(-1), (I1, G, A, L), rfl, by cases h; exact ⟨rfl, rfl⟩, by rw [ht9]; exact hP, va_K.moved hW9.alike hK⟩, hS.F ht9⟩) hS.2.2 dX7_ask_14
set_option maxHeartbeats 4000000 in
set_option maxRecDepth 100000 in
theorem e_X7_isFalling (l : Launch) (D : va_G) (K : Nat → ClassId) (ad : Nat → Nat) (hap0 : apart ad (fun _ => True)) (a1 : Int32) (I : Nat → Nat → Int32) (G : Nat → Nat → Nat) (A : Nat → Nat → Int32) (L : Nat → Nat → Int64) (r0 : Int32) (h : f_X7_isFalling A a1 = some r0) : Ci l D K ad yX7_isFalling wsX7_isFalling 0 0 [.ref (ad 318), .int a1] (I, G, A, L) (fun (r : Int32) (u : Mem) => r = r0 ∧ u = (I, G, A, L)) := by
  intro sz
  refine Met.ofW (cc := cX7_isFalling) (maxL := 5) (ret := (some .boolean)) (by decide) rfl ?_
  intro p e s m args below meth c s₁ Bd hml hv0
  obtain ⟨rfl, hsz, hP, hK⟩ := hv0
  have hx := Bd.exec
  have hb := Bd.bytes
  have hr := Bd.returns
  have hts := atoms_spec (ws := wsX7_isFalling) Bd.pre
  have hown : s.vm.findClass RX7 = some m.cls := findClass_of_methodNamed Bd.named
  have hlocks := Bd.notSynchronized
  have hi7 : ∀ w ∈ u_ws RX7 TX7 79, w ∈ wsX7_isFalling := fun w h => List.mem_cons_of_mem _ (List.mem_append_right _ h)
  subst hsz
  have hap := vF_ap hap0 s.heap.size
  have hS : va_S (vF ad s.heap.size) s.heap s.heap [] := va_S.rf
  have hP : va_P D vwCl (VW K ad I G A L) s.heap := hP
  have hl := lv_entry ([.ref (ad 318), .int a1]) (n := 5) (Nat.le_of_ble_eq_true rfl)
  rw [lg_entry_eq]
  generalize (lg_sl ([.ref (ad 318), .int a1]) ++ List.replicate (5 - (lg_sl ([.ref (ad 318), .int a1])).length) Slot.unset).toArray = ls at hl ⊢
  have hl : lv_has ls 5 [(0, .ref (ad 318)), (1, .int a1)] := hl
  rw [f_X7_isFalling] at h
  refine lv_iconst (v := 1) hx hb dX7_isFalling_0 (by decide) ?_
  refine lv_istore_n (lv' := [(2, .int 1), (0, .ref (ad 318)), (1, .int a1)]) hx hb dX7_isFalling_1 rfl hl (by decide) rfl (fun ls hl => ?_)
  obtain ⟨k3, ek3, h⟩ := bd_e h
  have kk3 : ∀ (_ : Unit), k3 () = some r0 → ∀ (H : Heap) (locs : List Loc), va_P D vwCl (VW K ad I G A L) H → va_S (vF ad s.heap.size) s.heap H locs → ∀ (ls : Array Slot), lv_has ls 5 [] → W p l e ({ frames := 0, cells := 0, slots := 0, locals := 0 }) s m ([.ref (ad 318), .int a1] : List Value).toArray below meth c H locs 0 0 (MQ below (va_Qi (fun (r : Int32) (u : Mem) => r = r0 ∧ u = (I, G, A, L)) (vB D K ad) (vF ad s.heap.size)) ([.ref (ad 318), .int a1] : List Value).toArray s 0 0 (vF ad s.heap.size)) (F0 m 75 ls []) := by
    intro _ h H locs hP hS ls hl
    subst ek3
    refine lv_iconst (v := 1) hx hb dX7_isFalling_75 (by decide) ?_
    exact W.zret (v := 1) hx hb hr (by decide) (fun t9 ht9 hW9 => ⟨⟨1, (I, G, A, L), rfl, by cases h; exact ⟨rfl, rfl⟩, by rw [ht9]; exact hP, va_K.moved hW9.alike hK⟩, hS.F ht9⟩) hS.2.2 dX7_isFalling_76
  obtain ⟨k4, ek4, h⟩ := bd_e h
  have kk4 : ∀ (_ : Unit), k4 () = some r0 → ∀ (H : Heap) (locs : List Loc), va_P D vwCl (VW K ad I G A L) H → va_S (vF ad s.heap.size) s.heap H locs → ∀ (ls : Array Slot), lv_has ls 5 [] → W p l e ({ frames := 0, cells := 0, slots := 0, locals := 0 }) s m ([.ref (ad 318), .int a1] : List Value).toArray below meth c H locs 0 0 (MQ below (va_Qi (fun (r : Int32) (u : Mem) => r = r0 ∧ u = (I, G, A, L)) (vB D K ad) (vF ad s.heap.size)) ([.ref (ad 318), .int a1] : List Value).toArray s 0 0 (vF ad s.heap.size)) (F0 m 83 ls []) := by
    intro _ h H locs hP hS ls hl
    subst ek4
    refine lv_iconst (v := 0) hx hb dX7_isFalling_83 (by decide) ?_
    exact W.zret (v := 0) hx hb hr (by decide) (fun t9 ht9 hW9 => ⟨⟨0, (I, G, A, L), rfl, by cases h; exact ⟨rfl, rfl⟩, by rw [ht9]; exact hP, va_K.moved hW9.alike hK⟩, hS.F ht9⟩) hS.2.2 dX7_isFalling_84
  have lp1 : ∀ (n : Nat) (v2 : Int32), f_X7_isFalling_L2 a1 A k3 k4 n v2 = some r0 → ∀ (H : Heap) (locs : List Loc), va_P D vwCl (VW K ad I G A L) H → va_S (vF ad s.heap.size) s.heap H locs → ∀ (ls : Array Slot), lv_has ls 5 [(2, .int v2), (0, .ref (ad 318)), (1, .int a1)] → W p l e ({ frames := 0, cells := 0, slots := 0, locals := 0 }) s m ([.ref (ad 318), .int a1] : List Value).toArray below meth c H locs 0 0 (MQ below (va_Qi (fun (r : Int32) (u : Mem) => r = r0 ∧ u = (I, G, A, L)) (vB D K ad) (vF ad s.heap.size)) ([.ref (ad 318), .int a1] : List Value).toArray s 0 0 (vF ad s.heap.size)) (F0 m 2 ls []) := by
    intro n
    induction n with
    | zero => intro v2 h; exact absurd h (by rw [f_X7_isFalling_L2]; exact nofun)
    | succ n ih1 =>
      intro v2 h H locs hP hS ls hl
      rw [f_X7_isFalling_L2] at h
      refine lv_iload_n hx hb dX7_isFalling_2 rfl (lv_at hl 0 rfl) ?_
      refine lv_aload_n hx hb dX7_isFalling_3 rfl (lv_at hl 1 rfl) ?_
      refine vgC hx hb hts hi7 hown hK hP (318) (by decide) (show kd 318 = 7 by decide) (C := RX7) (T := TX7) (N := 79) rfl 10 (by decide) (by decide) (by decide) (by decide) (326) rfl (hts (.fieldLink RX7 31 "CrateHelpersModel" "parts" "[I") (by decide +kernel)) (fun _ h9 => h9) dX7_isFalling_4 ?_
      refine lv_iload_n hx hb dX7_isFalling_7 rfl (lv_at hl 2 rfl) ?_
      obtain ⟨hn5, h⟩ := gk h
      refine xiald hx hb hK hP (326) (by decide) (show kd 326 = 8 by decide) (by rw [show ln 326 = 40 by decide]; exact hn5) dX7_isFalling_8 ?_
      refine lv_icmp_ge (tgt := 83) hx hb dX7_isFalling_9 (by decide) (fun c_6 => ?_) (fun c_6 => ?_)
      · have h := iN (Int32.not_lt.mpr c_6) h
        exact kk4 () h _ _ hP hS ls (lv_sub hl [] rfl)
      · have h := ip (Int32.not_le.mp c_6) h
        refine lv_aload_n hx hb dX7_isFalling_12 rfl (lv_at hl 1 rfl) ?_
        refine vgC hx hb hts hi7 hown hK hP (318) (by decide) (show kd 318 = 7 by decide) (C := RX7) (T := TX7) (N := 79) rfl 63 (by decide) (by decide) (by decide) (by decide) (364) rfl (hts (.fieldLink RX7 159 "CrateHelpersModel" "now" "[I") (by decide +kernel)) (fun _ h9 => h9) dX7_isFalling_13 ?_
        refine lv_aload_n hx hb dX7_isFalling_16 rfl (lv_at hl 1 rfl) ?_
        refine vgC hx hb hts hi7 hown hK hP (318) (by decide) (show kd 318 = 7 by decide) (C := RX7) (T := TX7) (N := 79) rfl 11 (by decide) (by decide) (by decide) (by decide) (327) rfl (hts (.fieldLink RX7 34 "CrateHelpersModel" "partOf" "[I") (by decide +kernel)) (fun _ h9 => h9) dX7_isFalling_17 ?_
        refine lv_bipush (v := 6) hx hb dX7_isFalling_20 (by decide) ?_
        refine lv_iload_n hx hb dX7_isFalling_22 rfl (lv_at hl 2 rfl) ?_
        refine lv_imul hx hb dX7_isFalling_23 ?_
        refine lv_iload_n hx hb dX7_isFalling_24 rfl (lv_at hl 0 rfl) ?_
        refine lv_iadd hx hb dX7_isFalling_25 ?_
        refine lv_iconst (v := 1) hx hb dX7_isFalling_26 (by decide) ?_
        refine lv_isub hx hb dX7_isFalling_27 ?_
        obtain ⟨hn7, h⟩ := gk h
        refine xiald hx hb hK hP (327) (by decide) (show kd 327 = 8 by decide) (by rw [show ln 327 = 240 by decide]; exact hn7) dX7_isFalling_28 ?_
        obtain ⟨hn8, h⟩ := gk h
        refine xiald hx hb hK hP (364) (by decide) (show kd 364 = 8 by decide) (by rw [show ln 364 = 6 by decide]; exact hn8) dX7_isFalling_29 ?_
        refine lv_istore_n (lv' := [(3, .int (A 364 ((A 327 ((((6 * a1) + v2) - 1).toNatClampNeg)).toNatClampNeg))), (2, .int v2), (0, .ref (ad 318)), (1, .int a1)]) hx hb dX7_isFalling_30 rfl hl (by decide) rfl (fun ls hl => ?_)
        refine lv_aload_n hx hb dX7_isFalling_31 rfl (lv_at hl 2 rfl) ?_
        refine vgC hx hb hts hi7 hown hK hP (318) (by decide) (show kd 318 = 7 by decide) (C := RX7) (T := TX7) (N := 79) rfl 63 (by decide) (by decide) (by decide) (by decide) (364) rfl (hts (.fieldLink RX7 159 "CrateHelpersModel" "now" "[I") (by decide +kernel)) (fun _ h9 => h9) dX7_isFalling_32 ?_
        refine lv_aload_n hx hb dX7_isFalling_35 rfl (lv_at hl 2 rfl) ?_
        refine vgC hx hb hts hi7 hown hK hP (318) (by decide) (show kd 318 = 7 by decide) (C := RX7) (T := TX7) (N := 79) rfl 11 (by decide) (by decide) (by decide) (by decide) (327) rfl (hts (.fieldLink RX7 34 "CrateHelpersModel" "partOf" "[I") (by decide +kernel)) (fun _ h9 => h9) dX7_isFalling_36 ?_
        refine lv_bipush (v := 6) hx hb dX7_isFalling_39 (by decide) ?_
        refine lv_iload_n hx hb dX7_isFalling_41 rfl (lv_at hl 3 rfl) ?_
        refine lv_imul hx hb dX7_isFalling_42 ?_
        refine lv_iload_n hx hb dX7_isFalling_43 rfl (lv_at hl 1 rfl) ?_
        refine lv_iadd hx hb dX7_isFalling_44 ?_
        obtain ⟨hn9, h⟩ := gk h
        refine xiald hx hb hK hP (327) (by decide) (show kd 327 = 8 by decide) (by rw [show ln 327 = 240 by decide]; exact hn9) dX7_isFalling_45 ?_
        obtain ⟨hn10, h⟩ := gk h
        refine xiald hx hb hK hP (364) (by decide) (show kd 364 = 8 by decide) (by rw [show ln 364 = 6 by decide]; exact hn10) dX7_isFalling_46 ?_
        refine lv_istore (lv' := [(4, .int (A 364 ((A 327 (((6 * a1) + v2).toNatClampNeg)).toNatClampNeg))), (3, .int (A 364 ((A 327 ((((6 * a1) + v2) - 1).toNatClampNeg)).toNatClampNeg))), (2, .int v2), (0, .ref (ad 318)), (1, .int a1)]) hx hb dX7_isFalling_47 hl (by decide) rfl (fun ls hl => ?_)
        refine lv_iload_n hx hb dX7_isFalling_49 rfl (lv_at hl 1 rfl) ?_
        refine lv_bipush (v := (-9)) hx hb dX7_isFalling_50 (by decide) ?_
        refine lv_icmp_eq (tgt := 77) hx hb dX7_isFalling_52 (by decide) (fun c_11 => ?_) (fun c_11 => ?_)
        · have h := ip c_11 h
          refine lv_iinc (v := (v2 + 1)) (lv' := [(2, .int (v2 + 1)), (4, .int (A 364 ((A 327 (((6 * a1) + v2).toNatClampNeg)).toNatClampNeg))), (3, .int (A 364 ((A 327 ((((6 * a1) + v2) - 1).toNatClampNeg)).toNatClampNeg))), (0, .ref (ad 318)), (1, .int a1)]) hx hb dX7_isFalling_77 hl (k := 2) rfl rfl (by decide) rfl (fun ls hl => ?_)
          refine lv_goto (tgt := 2) hx hb dX7_isFalling_80 (by decide) ?_
          exact ih1 (v2 + 1) h _ _ hP hS ls (lv_sub hl [0, 3, 4] rfl)
        · have h := iN c_11 h
          refine lv_iload hx hb dX7_isFalling_55 (lv_at hl 0 rfl) ?_
          refine lv_bipush (v := (-9)) hx hb dX7_isFalling_57 (by decide) ?_
          refine lv_icmp_eq (tgt := 77) hx hb dX7_isFalling_59 (by decide) (fun c_12 => ?_) (fun c_12 => ?_)
          · have h := ip c_12 h
            refine lv_iinc (v := (v2 + 1)) (lv' := [(2, .int (v2 + 1)), (4, .int (A 364 ((A 327 (((6 * a1) + v2).toNatClampNeg)).toNatClampNeg))), (3, .int (A 364 ((A 327 ((((6 * a1) + v2) - 1).toNatClampNeg)).toNatClampNeg))), (0, .ref (ad 318)), (1, .int a1)]) hx hb dX7_isFalling_77 hl (k := 2) rfl rfl (by decide) rfl (fun ls hl => ?_)
            refine lv_goto (tgt := 2) hx hb dX7_isFalling_80 (by decide) ?_
            exact ih1 (v2 + 1) h _ _ hP hS ls (lv_sub hl [0, 3, 4] rfl)
          · have h := iN c_12 h
            refine lv_iload hx hb dX7_isFalling_62 (lv_at hl 0 rfl) ?_
            refine lv_iload_n hx hb dX7_isFalling_64 rfl (lv_at hl 1 rfl) ?_
            refine lv_aload_n hx hb dX7_isFalling_65 rfl (lv_at hl 3 rfl) ?_
            refine vgC hx hb hts hi7 hown hK hP (318) (by decide) (show kd 318 = 7 by decide) (C := RX7) (T := TX7) (N := 79) rfl 9 (by decide) (by decide) (by decide) (by decide) (325) rfl (hts (.fieldLink RX7 28 "CrateHelpersModel" "ruleNumber" "[I") (by decide +kernel)) (fun _ h9 => h9) dX7_isFalling_66 ?_
            refine lv_iload_n hx hb dX7_isFalling_69 rfl (lv_at hl 4 rfl) ?_
            refine xiald hx hb hK hP (325) (by decide) (show kd 325 = 8 by decide) (by rw [show ln 325 = 40 by decide]; exact hn5) dX7_isFalling_70 ?_
            refine lv_iadd hx hb dX7_isFalling_71 ?_
            refine lv_icmp_ge (tgt := 77) hx hb dX7_isFalling_72 (by decide) (fun c_13 => ?_) (fun c_13 => ?_)
            · have h := iN (Int32.not_lt.mpr c_13) h
              refine lv_iinc (v := (v2 + 1)) (lv' := [(2, .int (v2 + 1)), (4, .int (A 364 ((A 327 (((6 * a1) + v2).toNatClampNeg)).toNatClampNeg))), (3, .int (A 364 ((A 327 ((((6 * a1) + v2) - 1).toNatClampNeg)).toNatClampNeg))), (0, .ref (ad 318)), (1, .int a1)]) hx hb dX7_isFalling_77 hl (k := 2) rfl rfl (by decide) rfl (fun ls hl => ?_)
              refine lv_goto (tgt := 2) hx hb dX7_isFalling_80 (by decide) ?_
              exact ih1 (v2 + 1) h _ _ hP hS ls (lv_sub hl [0, 3, 4] rfl)
            · have h := ip (Int32.not_le.mp c_13) h
              exact kk3 () h _ _ hP hS ls (lv_sub hl [] rfl)
  exact lp1 FU 1 h _ _ hP hS ls (lv_sub hl [0, 1, 2] rfl)

/-! part 51.r02 -/
set_option maxHeartbeats 4000000 in
set_option maxRecDepth 100000 in
theorem e_X7_isLoaded (l : Launch) (D : va_G) (K : Nat → ClassId) (ad : Nat → Nat) (hap0 : apart ad (fun _ => True)) (a1 : Int32) (I : Nat → Nat → Int32) (G : Nat → Nat → Nat) (A : Nat → Nat → Int32) (L : Nat → Nat → Int64) (r0 : Int32) (h : f_X7_isLoaded A a1 = some r0) : Ci l D K ad yX7_isLoaded wsX7_isLoaded 0 0 [.ref (ad 318), .int a1] (I, G, A, L) (fun (r : Int32) (u : Mem) => r = r0 ∧ u = (I, G, A, L)) := by
  intro sz
  refine Met.ofW (cc := cX7_isLoaded) (maxL := 7) (ret := (some .boolean)) (by decide) rfl ?_
  intro p e s m args below meth c s₁ Bd hml hv0
  obtain ⟨rfl, hsz, hP, hK⟩ := hv0
  have hx := Bd.exec
  have hb := Bd.bytes
  have hr := Bd.returns
  have hts := atoms_spec (ws := wsX7_isLoaded) Bd.pre
  have hown : s.vm.findClass RX7 = some m.cls := findClass_of_methodNamed Bd.named
  have hlocks := Bd.notSynchronized
  have hi7 : ∀ w ∈ u_ws RX7 TX7 79, w ∈ wsX7_isLoaded := fun w h => List.mem_cons_of_mem _ (List.mem_append_right _ h)
  subst hsz
  have hap := vF_ap hap0 s.heap.size
  have hS : va_S (vF ad s.heap.size) s.heap s.heap [] := va_S.rf
  have hP : va_P D vwCl (VW K ad I G A L) s.heap := hP
  have hl := lv_entry ([.ref (ad 318), .int a1]) (n := 7) (Nat.le_of_ble_eq_true rfl)
  rw [lg_entry_eq]
  generalize (lg_sl ([.ref (ad 318), .int a1]) ++ List.replicate (7 - (lg_sl ([.ref (ad 318), .int a1])).length) Slot.unset).toArray = ls at hl ⊢
  have hl : lv_has ls 7 [(0, .ref (ad 318)), (1, .int a1)] := hl
  rw [f_X7_isLoaded] at h
  refine lv_iconst (v := 0) hx hb dX7_isLoaded_0 (by decide) ?_
  refine lv_istore_n (lv' := [(2, .int 0), (0, .ref (ad 318)), (1, .int a1)]) hx hb dX7_isLoaded_1 rfl hl (by decide) rfl (fun ls hl => ?_)
  obtain ⟨k3, ek3, h⟩ := bd_e h
  have kk3 : ∀ (_ : Unit), k3 () = some r0 → ∀ (H : Heap) (locs : List Loc), va_P D vwCl (VW K ad I G A L) H → va_S (vF ad s.heap.size) s.heap H locs → ∀ (ls : Array Slot), lv_has ls 7 [] → W p l e ({ frames := 0, cells := 0, slots := 0, locals := 0 }) s m ([.ref (ad 318), .int a1] : List Value).toArray below meth c H locs 0 0 (MQ below (va_Qi (fun (r : Int32) (u : Mem) => r = r0 ∧ u = (I, G, A, L)) (vB D K ad) (vF ad s.heap.size)) ([.ref (ad 318), .int a1] : List Value).toArray s 0 0 (vF ad s.heap.size)) (F0 m 105 ls []) := by
    intro _ h H locs hP hS ls hl
    subst ek3
    refine lv_iconst (v := 1) hx hb dX7_isLoaded_105 (by decide) ?_
    exact W.zret (v := 1) hx hb hr (by decide) (fun t9 ht9 hW9 => ⟨⟨1, (I, G, A, L), rfl, by cases h; exact ⟨rfl, rfl⟩, by rw [ht9]; exact hP, va_K.moved hW9.alike hK⟩, hS.F ht9⟩) hS.2.2 dX7_isLoaded_106
  obtain ⟨k4, ek4, h⟩ := bd_e h
  have kk4 : ∀ (_ : Unit), k4 () = some r0 → ∀ (H : Heap) (locs : List Loc), va_P D vwCl (VW K ad I G A L) H → va_S (vF ad s.heap.size) s.heap H locs → ∀ (ls : Array Slot), lv_has ls 7 [] → W p l e ({ frames := 0, cells := 0, slots := 0, locals := 0 }) s m ([.ref (ad 318), .int a1] : List Value).toArray below meth c H locs 0 0 (MQ below (va_Qi (fun (r : Int32) (u : Mem) => r = r0 ∧ u = (I, G, A, L)) (vB D K ad) (vF ad s.heap.size)) ([.ref (ad 318), .int a1] : List Value).toArray s 0 0 (vF ad s.heap.size)) (F0 m 113 ls []) := by
    intro _ h H locs hP hS ls hl
    subst ek4
    refine lv_iconst (v := 0) hx hb dX7_isLoaded_113 (by decide) ?_
    exact W.zret (v := 0) hx hb hr (by decide) (fun t9 ht9 hW9 => ⟨⟨0, (I, G, A, L), rfl, by cases h; exact ⟨rfl, rfl⟩, by rw [ht9]; exact hP, va_K.moved hW9.alike hK⟩, hS.F ht9⟩) hS.2.2 dX7_isLoaded_114
  have lp1 : ∀ (n : Nat) (v2 : Int32), f_X7_isLoaded_L2 a1 A k3 k4 n v2 = some r0 → ∀ (H : Heap) (locs : List Loc), va_P D vwCl (VW K ad I G A L) H → va_S (vF ad s.heap.size) s.heap H locs → ∀ (ls : Array Slot), lv_has ls 7 [(2, .int v2), (0, .ref (ad 318)), (1, .int a1)] → W p l e ({ frames := 0, cells := 0, slots := 0, locals := 0 }) s m ([.ref (ad 318), .int a1] : List Value).toArray below meth c H locs 0 0 (MQ below (va_Qi (fun (r : Int32) (u : Mem) => r = r0 ∧ u = (I, G, A, L)) (vB D K ad) (vF ad s.heap.size)) ([.ref (ad 318), .int a1] : List Value).toArray s 0 0 (vF ad s.heap.size)) (F0 m 2 ls []) := by
    intro n
    induction n with
    | zero => intro v2 h; exact absurd h (by rw [f_X7_isLoaded_L2]; exact nofun)
    | succ n ih1 =>
      intro v2 h H locs hP hS ls hl
      rw [f_X7_isLoaded_L2] at h
      refine lv_iload_n hx hb dX7_isLoaded_2 rfl (lv_at hl 0 rfl) ?_
      refine lv_bipush (v := 6) hx hb dX7_isLoaded_3 (by decide) ?_
      refine lv_icmp_ge (tgt := 113) hx hb dX7_isLoaded_5 (by decide) (fun c_5 => ?_) (fun c_5 => ?_)
      · have h := iN (Int32.not_lt.mpr c_5) h
        exact kk4 () h _ _ hP hS ls (lv_sub hl [] rfl)
      · have h := ip (Int32.not_le.mp c_5) h
        refine lv_iconst (v := 0) hx hb dX7_isLoaded_8 (by decide) ?_
        refine lv_istore_n (lv' := [(3, .int 0), (2, .int v2), (0, .ref (ad 318)), (1, .int a1)]) hx hb dX7_isLoaded_9 rfl hl (by decide) rfl (fun ls hl => ?_)
        refine lv_iconst (v := 0) hx hb dX7_isLoaded_10 (by decide) ?_
        refine lv_istore (lv' := [(4, .int 0), (3, .int 0), (2, .int v2), (0, .ref (ad 318)), (1, .int a1)]) hx hb dX7_isLoaded_11 hl (by decide) rfl (fun ls hl => ?_)
        obtain ⟨k9, ek9, h⟩ := bd_e h
        have kk9 : ∀ (v10 : Int32), k9 v10 = some r0 → ∀ (H : Heap) (locs : List Loc), va_P D vwCl (VW K ad I G A L) H → va_S (vF ad s.heap.size) s.heap H locs → ∀ (ls : Array Slot), lv_has ls 7 [(0, .ref (ad 318)), (1, .int a1), (2, .int v2), (3, .int v10)] → W p l e ({ frames := 0, cells := 0, slots := 0, locals := 0 }) s m ([.ref (ad 318), .int a1] : List Value).toArray below meth c H locs 0 0 (MQ below (va_Qi (fun (r : Int32) (u : Mem) => r = r0 ∧ u = (I, G, A, L)) (vB D K ad) (vF ad s.heap.size)) ([.ref (ad 318), .int a1] : List Value).toArray s 0 0 (vF ad s.heap.size)) (F0 m 95 ls []) := by
          intro v10 h H locs hP hS ls hl
          subst ek9
          refine lv_iload_n hx hb dX7_isLoaded_95 rfl (lv_at hl 3 rfl) ?_
          refine lv_aload_n hx hb dX7_isLoaded_96 rfl (lv_at hl 0 rfl) ?_
          refine vgC hx hb hts hi7 hown hK hP (318) (by decide) (show kd 318 = 7 by decide) (C := RX7) (T := TX7) (N := 79) rfl 9 (by decide) (by decide) (by decide) (by decide) (325) rfl (hts (.fieldLink RX7 28 "CrateHelpersModel" "ruleNumber" "[I") (by decide +kernel)) (fun _ h9 => h9) dX7_isLoaded_97 ?_
          refine lv_iload_n hx hb dX7_isLoaded_100 rfl (lv_at hl 1 rfl) ?_
          obtain ⟨hn11, h⟩ := gk h
          refine xiald hx hb hK hP (325) (by decide) (show kd 325 = 8 by decide) (by rw [show ln 325 = 40 by decide]; exact hn11) dX7_isLoaded_101 ?_
          refine lv_icmp_le (tgt := 107) hx hb dX7_isLoaded_102 (by decide) (fun c_12 => ?_) (fun c_12 => ?_)
          · have h := iN (Int32.not_lt.mpr c_12) h
            refine lv_iinc (v := (v2 + 1)) (lv' := [(2, .int (v2 + 1)), (0, .ref (ad 318)), (1, .int a1), (3, .int v10)]) hx hb dX7_isLoaded_107 hl (k := 2) rfl rfl (by decide) rfl (fun ls hl => ?_)
            refine lv_goto (tgt := 2) hx hb dX7_isLoaded_110 (by decide) ?_
            exact ih1 (v2 + 1) h _ _ hP hS ls (lv_sub hl [0, 1, 2] rfl)
          · have h := ip (Int32.not_le.mp c_12) h
            exact kk3 () h _ _ hP hS ls (lv_sub hl [] rfl)
        have lp6 : ∀ (n : Nat) (v7 : Int32) (v8 : Int32), f_X7_isLoaded_L13 v2 a1 A k9 n v7 v8 = some r0 → ∀ (H : Heap) (locs : List Loc), va_P D vwCl (VW K ad I G A L) H → va_S (vF ad s.heap.size) s.heap H locs → ∀ (ls : Array Slot), lv_has ls 7 [(4, .int v7), (3, .int v8), (2, .int v2), (0, .ref (ad 318)), (1, .int a1)] → W p l e ({ frames := 0, cells := 0, slots := 0, locals := 0 }) s m ([.ref (ad 318), .int a1] : List Value).toArray below meth c H locs 0 0 (MQ below (va_Qi (fun (r : Int32) (u : Mem) => r = r0 ∧ u = (I, G, A, L)) (vB D K ad) (vF ad s.heap.size)) ([.ref (ad 318), .int a1] : List Value).toArray s 0 0 (vF ad s.heap.size)) (F0 m 13 ls []) := by
          intro n
          induction n with
          | zero => intro v7 v8 h; exact absurd h (by rw [f_X7_isLoaded_L13]; exact nofun)
          | succ n ih6 =>
            intro v7 v8 h H locs hP hS ls hl
            rw [f_X7_isLoaded_L13] at h
            refine lv_iload hx hb dX7_isLoaded_13 (lv_at hl 0 rfl) ?_
            refine lv_aload_n hx hb dX7_isLoaded_15 rfl (lv_at hl 3 rfl) ?_
            refine vgC hx hb hts hi7 hown hK hP (318) (by decide) (show kd 318 = 7 by decide) (C := RX7) (T := TX7) (N := 79) rfl 10 (by decide) (by decide) (by decide) (by decide) (326) rfl (hts (.fieldLink RX7 31 "CrateHelpersModel" "parts" "[I") (by decide +kernel)) (fun _ h9 => h9) dX7_isLoaded_16 ?_
            refine lv_iload_n hx hb dX7_isLoaded_19 rfl (lv_at hl 4 rfl) ?_
            obtain ⟨hn13, h⟩ := gk h
            refine xiald hx hb hK hP (326) (by decide) (show kd 326 = 8 by decide) (by rw [show ln 326 = 40 by decide]; exact hn13) dX7_isLoaded_20 ?_
            refine lv_icmp_ge (tgt := 95) hx hb dX7_isLoaded_21 (by decide) (fun c_14 => ?_) (fun c_14 => ?_)
            · have h := iN (Int32.not_lt.mpr c_14) h
              exact kk9 v8 h _ _ hP hS ls (lv_sub hl [3, 4, 2, 1] rfl)
            · have h := ip (Int32.not_le.mp c_14) h
              refine lv_aload_n hx hb dX7_isLoaded_24 rfl (lv_at hl 3 rfl) ?_
              refine vgC hx hb hts hi7 hown hK hP (318) (by decide) (show kd 318 = 7 by decide) (C := RX7) (T := TX7) (N := 79) rfl 12 (by decide) (by decide) (by decide) (by decide) (328) rfl (hts (.fieldLink RX7 37 "CrateHelpersModel" "weight" "[I") (by decide +kernel)) (fun _ h9 => h9) dX7_isLoaded_25 ?_
              refine lv_bipush (v := 6) hx hb dX7_isLoaded_28 (by decide) ?_
              refine lv_iload_n hx hb dX7_isLoaded_30 rfl (lv_at hl 4 rfl) ?_
              refine lv_imul hx hb dX7_isLoaded_31 ?_
              refine lv_iload hx hb dX7_isLoaded_32 (lv_at hl 0 rfl) ?_
              refine lv_iadd hx hb dX7_isLoaded_34 ?_
              obtain ⟨hn15, h⟩ := gk h
              refine xiald hx hb hK hP (328) (by decide) (show kd 328 = 8 by decide) (by rw [show ln 328 = 240 by decide]; exact hn15) dX7_isLoaded_35 ?_
              refine lv_istore (lv' := [(5, .int (A 328 (((6 * a1) + v7).toNatClampNeg))), (4, .int v7), (3, .int v8), (2, .int v2), (0, .ref (ad 318)), (1, .int a1)]) hx hb dX7_isLoaded_36 hl (by decide) rfl (fun ls hl => ?_)
              refine lv_aload_n hx hb dX7_isLoaded_38 rfl (lv_at hl 4 rfl) ?_
              refine vgC hx hb hts hi7 hown hK hP (318) (by decide) (show kd 318 = 7 by decide) (C := RX7) (T := TX7) (N := 79) rfl 63 (by decide) (by decide) (by decide) (by decide) (364) rfl (hts (.fieldLink RX7 159 "CrateHelpersModel" "now" "[I") (by decide +kernel)) (fun _ h9 => h9) dX7_isLoaded_39 ?_
              refine lv_aload_n hx hb dX7_isLoaded_42 rfl (lv_at hl 4 rfl) ?_
              refine vgC hx hb hts hi7 hown hK hP (318) (by decide) (show kd 318 = 7 by decide) (C := RX7) (T := TX7) (N := 79) rfl 11 (by decide) (by decide) (by decide) (by decide) (327) rfl (hts (.fieldLink RX7 34 "CrateHelpersModel" "partOf" "[I") (by decide +kernel)) (fun _ h9 => h9) dX7_isLoaded_43 ?_
              refine lv_bipush (v := 6) hx hb dX7_isLoaded_46 (by decide) ?_
              refine lv_iload_n hx hb dX7_isLoaded_48 rfl (lv_at hl 5 rfl) ?_
              refine lv_imul hx hb dX7_isLoaded_49 ?_
              refine lv_iload hx hb dX7_isLoaded_50 (lv_at hl 1 rfl) ?_
              refine lv_iadd hx hb dX7_isLoaded_52 ?_
              refine xiald hx hb hK hP (327) (by decide) (show kd 327 = 8 by decide) (by rw [show ln 327 = 240 by decide]; exact hn15) dX7_isLoaded_53 ?_
              obtain ⟨hn16, h⟩ := gk h
              refine xiald hx hb hK hP (364) (by decide) (show kd 364 = 8 by decide) (by rw [show ln 364 = 6 by decide]; exact hn16) dX7_isLoaded_54 ?_
              refine lv_istore (lv' := [(6, .int (A 364 ((A 327 (((6 * a1) + v7).toNatClampNeg)).toNatClampNeg))), (5, .int (A 328 (((6 * a1) + v7).toNatClampNeg))), (4, .int v7), (3, .int v8), (2, .int v2), (0, .ref (ad 318)), (1, .int a1)]) hx hb dX7_isLoaded_55 hl (by decide) rfl (fun ls hl => ?_)
              refine lv_iload_n hx hb dX7_isLoaded_57 rfl (lv_at hl 3 rfl) ?_
              refine lv_iload hx hb dX7_isLoaded_58 (lv_at hl 0 rfl) ?_
              refine lv_iload_n hx hb dX7_isLoaded_60 rfl (lv_at hl 4 rfl) ?_
              refine lv_icmp_ne (tgt := 69) hx hb dX7_isLoaded_61 (by decide) (fun c_17 => ?_) (fun c_17 => ?_)
              · have h := iN c_17 h
                refine lv_iload hx hb dX7_isLoaded_69 (lv_at hl 0 rfl) ?_
                refine lv_bipush (v := (-9)) hx hb dX7_isLoaded_71 (by decide) ?_
                refine lv_icmp_ne (tgt := 86) hx hb dX7_isLoaded_73 (by decide) (fun c_18 => ?_) (fun c_18 => ?_)
                · have h := iN c_18 h
                  refine lv_iconst (v := 0) hx hb dX7_isLoaded_86 (by decide) ?_
                  refine lv_iadd hx hb dX7_isLoaded_87 ?_
                  refine lv_istore_n (lv' := [(3, .int (v8 + 0)), (6, .int (A 364 ((A 327 (((6 * a1) + v7).toNatClampNeg)).toNatClampNeg))), (5, .int (A 328 (((6 * a1) + v7).toNatClampNeg))), (4, .int v7), (2, .int v2), (0, .ref (ad 318)), (1, .int a1)]) hx hb dX7_isLoaded_88 rfl hl (by decide) rfl (fun ls hl => ?_)
                  refine lv_iinc (v := (v7 + 1)) (lv' := [(4, .int (v7 + 1)), (3, .int (v8 + 0)), (6, .int (A 364 ((A 327 (((6 * a1) + v7).toNatClampNeg)).toNatClampNeg))), (5, .int (A 328 (((6 * a1) + v7).toNatClampNeg))), (2, .int v2), (0, .ref (ad 318)), (1, .int a1)]) hx hb dX7_isLoaded_89 hl (k := 3) rfl rfl (by decide) rfl (fun ls hl => ?_)
                  refine lv_goto (tgt := 13) hx hb dX7_isLoaded_92 (by decide) ?_
                  exact ih6 (v7 + 1) (v8 + 0) h _ _ hP hS ls (lv_sub hl [0, 1, 4, 5, 6] rfl)
                · have h := ip c_18 h
                  refine lv_iload hx hb dX7_isLoaded_76 (lv_at hl 1 rfl) ?_
                  refine lv_if_ge (tgt := 86) hx hb dX7_isLoaded_78 (by decide) (fun c_19 => ?_) (fun c_19 => ?_)
                  · have h := iN (Int32.not_lt.mpr c_19) h
                    refine lv_iconst (v := 0) hx hb dX7_isLoaded_86 (by decide) ?_
                    refine lv_iadd hx hb dX7_isLoaded_87 ?_
                    refine lv_istore_n (lv' := [(3, .int (v8 + 0)), (6, .int (A 364 ((A 327 (((6 * a1) + v7).toNatClampNeg)).toNatClampNeg))), (5, .int (A 328 (((6 * a1) + v7).toNatClampNeg))), (4, .int v7), (2, .int v2), (0, .ref (ad 318)), (1, .int a1)]) hx hb dX7_isLoaded_88 rfl hl (by decide) rfl (fun ls hl => ?_)
                    refine lv_iinc (v := (v7 + 1)) (lv' := [(4, .int (v7 + 1)), (3, .int (v8 + 0)), (6, .int (A 364 ((A 327 (((6 * a1) + v7).toNatClampNeg)).toNatClampNeg))), (5, .int (A 328 (((6 * a1) + v7).toNatClampNeg))), (2, .int v2), (0, .ref (ad 318)), (1, .int a1)]) hx hb dX7_isLoaded_89 hl (k := 3) rfl rfl (by decide) rfl (fun ls hl => ?_)
                    refine lv_goto (tgt := 13) hx hb dX7_isLoaded_92 (by decide) ?_
                    exact ih6 (v7 + 1) (v8 + 0) h _ _ hP hS ls (lv_sub hl [0, 1, 4, 5, 6] rfl)
                  · have h := ip (Int32.not_le.mp c_19) h
                    refine lv_iload hx hb dX7_isLoaded_81 (lv_at hl 1 rfl) ?_
                    refine lv_goto (tgt := 87) hx hb dX7_isLoaded_83 (by decide) ?_
                    refine lv_iadd hx hb dX7_isLoaded_87 ?_
                    refine lv_istore_n (lv' := [(3, .int (v8 + (A 328 (((6 * a1) + v7).toNatClampNeg)))), (6, .int (A 364 ((A 327 (((6 * a1) + v7).toNatClampNeg)).toNatClampNeg))), (5, .int (A 328 (((6 * a1) + v7).toNatClampNeg))), (4, .int v7), (2, .int v2), (0, .ref (ad 318)), (1, .int a1)]) hx hb dX7_isLoaded_88 rfl hl (by decide) rfl (fun ls hl => ?_)
                    refine lv_iinc (v := (v7 + 1)) (lv' := [(4, .int (v7 + 1)), (3, .int (v8 + (A 328 (((6 * a1) + v7).toNatClampNeg)))), (6, .int (A 364 ((A 327 (((6 * a1) + v7).toNatClampNeg)).toNatClampNeg))), (5, .int (A 328 (((6 * a1) + v7).toNatClampNeg))), (2, .int v2), (0, .ref (ad 318)), (1, .int a1)]) hx hb dX7_isLoaded_89 hl (k := 3) rfl rfl (by decide) rfl (fun ls hl => ?_)
                    refine lv_goto (tgt := 13) hx hb dX7_isLoaded_92 (by decide) ?_
                    exact ih6 (v7 + 1) (v8 + (A 328 (((6 * a1) + v7).toNatClampNeg))) h _ _ hP hS ls (lv_sub hl [0, 1, 4, 5, 6] rfl)
              · have h := ip c_17 h
                refine lv_iload hx hb dX7_isLoaded_64 (lv_at hl 1 rfl) ?_
                refine lv_goto (tgt := 87) hx hb dX7_isLoaded_66 (by decide) ?_
                refine lv_iadd hx hb dX7_isLoaded_87 ?_
                refine lv_istore_n (lv' := [(3, .int (v8 + (A 328 (((6 * a1) + v7).toNatClampNeg)))), (6, .int (A 364 ((A 327 (((6 * a1) + v7).toNatClampNeg)).toNatClampNeg))), (5, .int (A 328 (((6 * a1) + v7).toNatClampNeg))), (4, .int v7), (2, .int v2), (0, .ref (ad 318)), (1, .int a1)]) hx hb dX7_isLoaded_88 rfl hl (by decide) rfl (fun ls hl => ?_)
                refine lv_iinc (v := (v7 + 1)) (lv' := [(4, .int (v7 + 1)), (3, .int (v8 + (A 328 (((6 * a1) + v7).toNatClampNeg)))), (6, .int (A 364 ((A 327 (((6 * a1) + v7).toNatClampNeg)).toNatClampNeg))), (5, .int (A 328 (((6 * a1) + v7).toNatClampNeg))), (2, .int v2), (0, .ref (ad 318)), (1, .int a1)]) hx hb dX7_isLoaded_89 hl (k := 3) rfl rfl (by decide) rfl (fun ls hl => ?_)
                refine lv_goto (tgt := 13) hx hb dX7_isLoaded_92 (by decide) ?_
                exact ih6 (v7 + 1) (v8 + (A 328 (((6 * a1) + v7).toNatClampNeg))) h _ _ hP hS ls (lv_sub hl [0, 1, 4, 5, 6] rfl)
        exact lp6 FU 0 0 h _ _ hP hS ls (lv_sub hl [0, 1, 2, 3, 4] rfl)
  exact lp1 FU 0 h _ _ hP hS ls (lv_sub hl [0, 1, 2] rfl)
set_option maxHeartbeats 4000000 in
set_option maxRecDepth 100000 in
theorem e_X7_isNear (l : Launch) (D : va_G) (K : Nat → ClassId) (ad : Nat → Nat) (hap0 : apart ad (fun _ => True)) (a1 : Int32) (a2 : Int32) (I : Nat → Nat → Int32) (G : Nat → Nat → Nat) (A : Nat → Nat → Int32) (L : Nat → Nat → Int64) (r0 : Int32) (h : f_X7_isNear A a1 a2 = some r0) : Ci l D K ad yX7_isNear wsX7_isNear 0 0 [.ref (ad 318), .int a1, .int a2] (I, G, A, L) (fun (r : Int32) (u : Mem) => r = r0 ∧ u = (I, G, A, L)) := by
  intro sz
  refine Met.ofW (cc := cX7_isNear) (maxL := 8) (ret := (some .boolean)) (by decide) rfl ?_
  intro p e s m args below meth c s₁ Bd hml hv0
  obtain ⟨rfl, hsz, hP, hK⟩ := hv0
  have hx := Bd.exec
  have hb := Bd.bytes
  have hr := Bd.returns
  have hts := atoms_spec (ws := wsX7_isNear) Bd.pre
  have hown : s.vm.findClass RX7 = some m.cls := findClass_of_methodNamed Bd.named
  have hlocks := Bd.notSynchronized
  have hi7 : ∀ w ∈ u_ws RX7 TX7 79, w ∈ wsX7_isNear := fun w h => List.mem_cons_of_mem _ (List.mem_append_right _ h)
  subst hsz
  have hap := vF_ap hap0 s.heap.size
  have hS : va_S (vF ad s.heap.size) s.heap s.heap [] := va_S.rf
  have hP : va_P D vwCl (VW K ad I G A L) s.heap := hP
  have hl := lv_entry ([.ref (ad 318), .int a1, .int a2]) (n := 8) (Nat.le_of_ble_eq_true rfl)
  rw [lg_entry_eq]
  generalize (lg_sl ([.ref (ad 318), .int a1, .int a2]) ++ List.replicate (8 - (lg_sl ([.ref (ad 318), .int a1, .int a2])).length) Slot.unset).toArray = ls at hl ⊢
  have hl : lv_has ls 8 [(0, .ref (ad 318)), (1, .int a1), (2, .int a2)] := hl
  rw [f_X7_isNear] at h
  refine lv_iconst (v := 0) hx hb dX7_isNear_0 (by decide) ?_
  refine lv_istore_n (lv' := [(3, .int 0), (0, .ref (ad 318)), (1, .int a1), (2, .int a2)]) hx hb dX7_isNear_1 rfl hl (by decide) rfl (fun ls hl => ?_)
  obtain ⟨k3, ek3, h⟩ := bd_e h
  have kk3 : ∀ (_ : Unit), k3 () = some r0 → ∀ (H : Heap) (locs : List Loc), va_P D vwCl (VW K ad I G A L) H → va_S (vF ad s.heap.size) s.heap H locs → ∀ (ls : Array Slot), lv_has ls 8 [] → W p l e ({ frames := 0, cells := 0, slots := 0, locals := 0 }) s m ([.ref (ad 318), .int a1, .int a2] : List Value).toArray below meth c H locs 0 0 (MQ below (va_Qi (fun (r : Int32) (u : Mem) => r = r0 ∧ u = (I, G, A, L)) (vB D K ad) (vF ad s.heap.size)) ([.ref (ad 318), .int a1, .int a2] : List Value).toArray s 0 0 (vF ad s.heap.size)) (F0 m 114 ls []) := by
    intro _ h H locs hP hS ls hl
    subst ek3
    refine lv_iconst (v := 1) hx hb dX7_isNear_114 (by decide) ?_
    exact W.zret (v := 1) hx hb hr (by decide) (fun t9 ht9 hW9 => ⟨⟨1, (I, G, A, L), rfl, by cases h; exact ⟨rfl, rfl⟩, by rw [ht9]; exact hP, va_K.moved hW9.alike hK⟩, hS.F ht9⟩) hS.2.2 dX7_isNear_115
  obtain ⟨k4, ek4, h⟩ := bd_e h
  have kk4 : ∀ (_ : Unit), k4 () = some r0 → ∀ (H : Heap) (locs : List Loc), va_P D vwCl (VW K ad I G A L) H → va_S (vF ad s.heap.size) s.heap H locs → ∀ (ls : Array Slot), lv_has ls 8 [] → W p l e ({ frames := 0, cells := 0, slots := 0, locals := 0 }) s m ([.ref (ad 318), .int a1, .int a2] : List Value).toArray below meth c H locs 0 0 (MQ below (va_Qi (fun (r : Int32) (u : Mem) => r = r0 ∧ u = (I, G, A, L)) (vB D K ad) (vF ad s.heap.size)) ([.ref (ad 318), .int a1, .int a2] : List Value).toArray s 0 0 (vF ad s.heap.size)) (F0 m 128 ls []) := by
    intro _ h H locs hP hS ls hl
    subst ek4
    refine lv_iconst (v := 0) hx hb dX7_isNear_128 (by decide) ?_
    exact W.zret (v := 0) hx hb hr (by decide) (fun t9 ht9 hW9 => ⟨⟨0, (I, G, A, L), rfl, by cases h; exact ⟨rfl, rfl⟩, by rw [ht9]; exact hP, va_K.moved hW9.alike hK⟩, hS.F ht9⟩) hS.2.2 dX7_isNear_129
  have lp1 : ∀ (n : Nat) (v2 : Int32), f_X7_isNear_L2 a1 a2 A k3 k4 n v2 = some r0 → ∀ (H : Heap) (locs : List Loc), va_P D vwCl (VW K ad I G A L) H → va_S (vF ad s.heap.size) s.heap H locs → ∀ (ls : Array Slot), lv_has ls 8 [(3, .int v2), (0, .ref (ad 318)), (1, .int a1), (2, .int a2)] → W p l e ({ frames := 0, cells := 0, slots := 0, locals := 0 }) s m ([.ref (ad 318), .int a1, .int a2] : List Value).toArray below meth c H locs 0 0 (MQ below (va_Qi (fun (r : Int32) (u : Mem) => r = r0 ∧ u = (I, G, A, L)) (vB D K ad) (vF ad s.heap.size)) ([.ref (ad 318), .int a1, .int a2] : List Value).toArray s 0 0 (vF ad s.heap.size)) (F0 m 2 ls []) := by
    intro n
    induction n with
    | zero => intro v2 h; exact absurd h (by rw [f_X7_isNear_L2]; exact nofun)
    | succ n ih1 =>
      intro v2 h H locs hP hS ls hl
      rw [f_X7_isNear_L2] at h
      refine lv_iload_n hx hb dX7_isNear_2 rfl (lv_at hl 0 rfl) ?_
      refine lv_aload_n hx hb dX7_isNear_3 rfl (lv_at hl 1 rfl) ?_
      refine vgC hx hb hts hi7 hown hK hP (318) (by decide) (show kd 318 = 7 by decide) (C := RX7) (T := TX7) (N := 79) rfl 10 (by decide) (by decide) (by decide) (by decide) (326) rfl (hts (.fieldLink RX7 31 "CrateHelpersModel" "parts" "[I") (by decide +kernel)) (fun _ h9 => h9) dX7_isNear_4 ?_
      refine lv_iload_n hx hb dX7_isNear_7 rfl (lv_at hl 2 rfl) ?_
      obtain ⟨hn5, h⟩ := gk h
      refine xiald hx hb hK hP (326) (by decide) (show kd 326 = 8 by decide) (by rw [show ln 326 = 40 by decide]; exact hn5) dX7_isNear_8 ?_
      refine lv_icmp_ge (tgt := 128) hx hb dX7_isNear_9 (by decide) (fun c_6 => ?_) (fun c_6 => ?_)
      · have h := iN (Int32.not_lt.mpr c_6) h
        exact kk4 () h _ _ hP hS ls (lv_sub hl [] rfl)
      · have h := ip (Int32.not_le.mp c_6) h
        refine lv_iconst (v := 0) hx hb dX7_isNear_12 (by decide) ?_
        refine lv_istore (lv' := [(4, .int 0), (3, .int v2), (0, .ref (ad 318)), (1, .int a1), (2, .int a2)]) hx hb dX7_isNear_13 hl (by decide) rfl (fun ls hl => ?_)
        obtain ⟨k9, ek9, h⟩ := bd_e h
        have kk9 : ∀ (_ : Unit), k9 () = some r0 → ∀ (H : Heap) (locs : List Loc), va_P D vwCl (VW K ad I G A L) H → va_S (vF ad s.heap.size) s.heap H locs → ∀ (ls : Array Slot), lv_has ls 8 [] → W p l e ({ frames := 0, cells := 0, slots := 0, locals := 0 }) s m ([.ref (ad 318), .int a1, .int a2] : List Value).toArray below meth c H locs 0 0 (MQ below (va_Qi (fun (r : Int32) (u : Mem) => r = r0 ∧ u = (I, G, A, L)) (vB D K ad) (vF ad s.heap.size)) ([.ref (ad 318), .int a1, .int a2] : List Value).toArray s 0 0 (vF ad s.heap.size)) (F0 m 114 ls []) := by
          intro _ h H locs hP hS ls hl
          subst ek9
          exact kk3 () h _ _ hP hS ls (lv_sub hl [] rfl)
        obtain ⟨k10, ek10, h⟩ := bd_e h
        have kk10 : ∀ (_ : Unit), k10 () = some r0 → ∀ (H : Heap) (locs : List Loc), va_P D vwCl (VW K ad I G A L) H → va_S (vF ad s.heap.size) s.heap H locs → ∀ (ls : Array Slot), lv_has ls 8 [(0, .ref (ad 318)), (1, .int a1), (2, .int a2), (3, .int v2)] → W p l e ({ frames := 0, cells := 0, slots := 0, locals := 0 }) s m ([.ref (ad 318), .int a1, .int a2] : List Value).toArray below meth c H locs 0 0 (MQ below (va_Qi (fun (r : Int32) (u : Mem) => r = r0 ∧ u = (I, G, A, L)) (vB D K ad) (vF ad s.heap.size)) ([.ref (ad 318), .int a1, .int a2] : List Value).toArray s 0 0 (vF ad s.heap.size)) (F0 m 122 ls []) := by
          intro _ h H locs hP hS ls hl
          subst ek10
          refine lv_iinc (v := (v2 + 1)) (lv' := [(3, .int (v2 + 1)), (0, .ref (ad 318)), (1, .int a1), (2, .int a2)]) hx hb dX7_isNear_122 hl (k := 3) rfl rfl (by decide) rfl (fun ls hl => ?_)
          refine lv_goto (tgt := 2) hx hb dX7_isNear_125 (by decide) ?_
          exact ih1 (v2 + 1) h _ _ hP hS ls (lv_sub hl [0, 1, 2, 3] rfl)
        have lp7 : ∀ (n : Nat) (v8 : Int32), f_X7_isNear_L15 v2 a1 a2 A k9 k10 n v8 = some r0 → ∀ (H : Heap) (locs : List Loc), va_P D vwCl (VW K ad I G A L) H → va_S (vF ad s.heap.size) s.heap H locs → ∀ (ls : Array Slot), lv_has ls 8 [(4, .int v8), (3, .int v2), (0, .ref (ad 318)), (1, .int a1), (2, .int a2)] → W p l e ({ frames := 0, cells := 0, slots := 0, locals := 0 }) s m ([.ref (ad 318), .int a1, .int a2] : List Value).toArray below meth c H locs 0 0 (MQ below (va_Qi (fun (r : Int32) (u : Mem) => r = r0 ∧ u = (I, G, A, L)) (vB D K ad) (vF ad s.heap.size)) ([.ref (ad 318), .int a1, .int a2] : List Value).toArray s 0 0 (vF ad s.heap.size)) (F0 m 15 ls []) := by
          intro n
          induction n with
          | zero => intro v8 h; exact absurd h (by rw [f_X7_isNear_L15]; exact nofun)
          | succ n ih7 =>
            intro v8 h H locs hP hS ls hl
            rw [f_X7_isNear_L15] at h
            refine lv_iload hx hb dX7_isNear_15 (lv_at hl 0 rfl) ?_
            refine lv_iload_n hx hb dX7_isNear_17 rfl (lv_at hl 1 rfl) ?_
            refine lv_icmp_ge (tgt := 122) hx hb dX7_isNear_18 (by decide) (fun c_11 => ?_) (fun c_11 => ?_)
            · have h := iN (Int32.not_lt.mpr c_11) h
              exact kk10 () h _ _ hP hS ls (lv_sub hl [2, 3, 4, 1] rfl)
            · have h := ip (Int32.not_le.mp c_11) h
              refine lv_aload_n hx hb dX7_isNear_21 rfl (lv_at hl 2 rfl) ?_
              refine vgC hx hb hts hi7 hown hK hP (318) (by decide) (show kd 318 = 7 by decide) (C := RX7) (T := TX7) (N := 79) rfl 63 (by decide) (by decide) (by decide) (by decide) (364) rfl (hts (.fieldLink RX7 159 "CrateHelpersModel" "now" "[I") (by decide +kernel)) (fun _ h9 => h9) dX7_isNear_22 ?_
              refine lv_aload_n hx hb dX7_isNear_25 rfl (lv_at hl 2 rfl) ?_
              refine vgC hx hb hts hi7 hown hK hP (318) (by decide) (show kd 318 = 7 by decide) (C := RX7) (T := TX7) (N := 79) rfl 11 (by decide) (by decide) (by decide) (by decide) (327) rfl (hts (.fieldLink RX7 34 "CrateHelpersModel" "partOf" "[I") (by decide +kernel)) (fun _ h9 => h9) dX7_isNear_26 ?_
              refine lv_bipush (v := 6) hx hb dX7_isNear_29 (by decide) ?_
              refine lv_iload_n hx hb dX7_isNear_31 rfl (lv_at hl 3 rfl) ?_
              refine lv_imul hx hb dX7_isNear_32 ?_
              refine lv_iload_n hx hb dX7_isNear_33 rfl (lv_at hl 1 rfl) ?_
              refine lv_iadd hx hb dX7_isNear_34 ?_
              obtain ⟨hn12, h⟩ := gk h
              refine xiald hx hb hK hP (327) (by decide) (show kd 327 = 8 by decide) (by rw [show ln 327 = 240 by decide]; exact hn12) dX7_isNear_35 ?_
              obtain ⟨hn13, h⟩ := gk h
              refine xiald hx hb hK hP (364) (by decide) (show kd 364 = 8 by decide) (by rw [show ln 364 = 6 by decide]; exact hn13) dX7_isNear_36 ?_
              refine lv_istore (lv' := [(5, .int (A 364 ((A 327 (((6 * a1) + v2).toNatClampNeg)).toNatClampNeg))), (4, .int v8), (3, .int v2), (0, .ref (ad 318)), (1, .int a1), (2, .int a2)]) hx hb dX7_isNear_37 hl (by decide) rfl (fun ls hl => ?_)
              refine lv_aload_n hx hb dX7_isNear_39 rfl (lv_at hl 3 rfl) ?_
              refine vgC hx hb hts hi7 hown hK hP (318) (by decide) (show kd 318 = 7 by decide) (C := RX7) (T := TX7) (N := 79) rfl 63 (by decide) (by decide) (by decide) (by decide) (364) rfl (hts (.fieldLink RX7 159 "CrateHelpersModel" "now" "[I") (by decide +kernel)) (fun _ h9 => h9) dX7_isNear_40 ?_
              refine lv_aload_n hx hb dX7_isNear_43 rfl (lv_at hl 3 rfl) ?_
              refine vgC hx hb hts hi7 hown hK hP (318) (by decide) (show kd 318 = 7 by decide) (C := RX7) (T := TX7) (N := 79) rfl 11 (by decide) (by decide) (by decide) (by decide) (327) rfl (hts (.fieldLink RX7 34 "CrateHelpersModel" "partOf" "[I") (by decide +kernel)) (fun _ h9 => h9) dX7_isNear_44 ?_
              refine lv_bipush (v := 6) hx hb dX7_isNear_47 (by decide) ?_
              refine lv_iload_n hx hb dX7_isNear_49 rfl (lv_at hl 4 rfl) ?_
              refine lv_imul hx hb dX7_isNear_50 ?_
              refine lv_iload hx hb dX7_isNear_51 (lv_at hl 1 rfl) ?_
              refine lv_iadd hx hb dX7_isNear_53 ?_
              obtain ⟨hn14, h⟩ := gk h
              refine xiald hx hb hK hP (327) (by decide) (show kd 327 = 8 by decide) (by rw [show ln 327 = 240 by decide]; exact hn14) dX7_isNear_54 ?_
              obtain ⟨hn15, h⟩ := gk h
              refine xiald hx hb hK hP (364) (by decide) (show kd 364 = 8 by decide) (by rw [show ln 364 = 6 by decide]; exact hn15) dX7_isNear_55 ?_
              refine lv_istore (lv' := [(6, .int (A 364 ((A 327 (((6 * a1) + v8).toNatClampNeg)).toNatClampNeg))), (5, .int (A 364 ((A 327 (((6 * a1) + v2).toNatClampNeg)).toNatClampNeg))), (4, .int v8), (3, .int v2), (0, .ref (ad 318)), (1, .int a1), (2, .int a2)]) hx hb dX7_isNear_56 hl (by decide) rfl (fun ls hl => ?_)
              refine lv_iload hx hb dX7_isNear_58 (lv_at hl 1 rfl) ?_
              refine lv_iload hx hb dX7_isNear_60 (lv_at hl 0 rfl) ?_
              obtain ⟨j17, ej17, h⟩ := bd_e h
              have kj17 : ∀ (z16 : Int32), j17 z16 = some r0 → ∀ (H : Heap) (locs : List Loc), va_P D vwCl (VW K ad I G A L) H → va_S (vF ad s.heap.size) s.heap H locs → ∀ (ls : Array Slot), lv_has ls 8 [(6, .int (A 364 ((A 327 (((6 * a1) + v8).toNatClampNeg)).toNatClampNeg))), (5, .int (A 364 ((A 327 (((6 * a1) + v2).toNatClampNeg)).toNatClampNeg))), (4, .int v8), (3, .int v2), (0, .ref (ad 318)), (1, .int a1), (2, .int a2)] → W p l e ({ frames := 0, cells := 0, slots := 0, locals := 0 }) s m ([.ref (ad 318), .int a1, .int a2] : List Value).toArray below meth c H locs 0 0 (MQ below (va_Qi (fun (r : Int32) (u : Mem) => r = r0 ∧ u = (I, G, A, L)) (vB D K ad) (vF ad s.heap.size)) ([.ref (ad 318), .int a1, .int a2] : List Value).toArray s 0 0 (vF ad s.heap.size)) (F0 m 78 ls [.int z16]) := by
                intro z16 h H locs hP hS ls hl
                subst ej17
                refine lv_istore (lv' := [(7, .int z16), (6, .int (A 364 ((A 327 (((6 * a1) + v8).toNatClampNeg)).toNatClampNeg))), (5, .int (A 364 ((A 327 (((6 * a1) + v2).toNatClampNeg)).toNatClampNeg))), (4, .int v8), (3, .int v2), (0, .ref (ad 318)), (1, .int a1), (2, .int a2)]) hx hb dX7_isNear_78 hl (by decide) rfl (fun ls hl => ?_)
                refine lv_iload hx hb dX7_isNear_80 (lv_at hl 2 rfl) ?_
                refine lv_bipush (v := (-9)) hx hb dX7_isNear_82 (by decide) ?_
                refine lv_icmp_eq (tgt := 116) hx hb dX7_isNear_84 (by decide) (fun c_18 => ?_) (fun c_18 => ?_)
                · have h := ip c_18 h
                  refine lv_iinc (v := (v8 + 1)) (lv' := [(4, .int (v8 + 1)), (7, .int z16), (6, .int (A 364 ((A 327 (((6 * a1) + v8).toNatClampNeg)).toNatClampNeg))), (5, .int (A 364 ((A 327 (((6 * a1) + v2).toNatClampNeg)).toNatClampNeg))), (3, .int v2), (0, .ref (ad 318)), (1, .int a1), (2, .int a2)]) hx hb dX7_isNear_116 hl (k := 3) rfl rfl (by decide) rfl (fun ls hl => ?_)
                  refine lv_goto (tgt := 15) hx hb dX7_isNear_119 (by decide) ?_
                  exact ih7 (v8 + 1) h _ _ hP hS ls (lv_sub hl [0, 4, 5, 6, 7] rfl)
                · have h := iN c_18 h
                  refine lv_iload hx hb dX7_isNear_87 (lv_at hl 1 rfl) ?_
                  refine lv_bipush (v := (-9)) hx hb dX7_isNear_89 (by decide) ?_
                  refine lv_icmp_eq (tgt := 116) hx hb dX7_isNear_91 (by decide) (fun c_19 => ?_) (fun c_19 => ?_)
                  · have h := ip c_19 h
                    refine lv_iinc (v := (v8 + 1)) (lv' := [(4, .int (v8 + 1)), (7, .int z16), (6, .int (A 364 ((A 327 (((6 * a1) + v8).toNatClampNeg)).toNatClampNeg))), (5, .int (A 364 ((A 327 (((6 * a1) + v2).toNatClampNeg)).toNatClampNeg))), (3, .int v2), (0, .ref (ad 318)), (1, .int a1), (2, .int a2)]) hx hb dX7_isNear_116 hl (k := 3) rfl rfl (by decide) rfl (fun ls hl => ?_)
                    refine lv_goto (tgt := 15) hx hb dX7_isNear_119 (by decide) ?_
                    exact ih7 (v8 + 1) h _ _ hP hS ls (lv_sub hl [0, 4, 5, 6, 7] rfl)
                  · have h := iN c_19 h
                    refine lv_iload hx hb dX7_isNear_94 (lv_at hl 0 rfl) ?_
                    refine lv_if_eq (tgt := 114) hx hb dX7_isNear_96 (by decide) (fun c_20 => ?_) (fun c_20 => ?_)
                    · have h := ip c_20 h
                      exact kk9 () h _ _ hP hS ls (lv_sub hl [] rfl)
                    · have h := iN c_20 h
                      refine lv_iload_n hx hb dX7_isNear_99 rfl (lv_at hl 7 rfl) ?_
                      refine lv_if_eq (tgt := 116) hx hb dX7_isNear_100 (by decide) (fun c_21 => ?_) (fun c_21 => ?_)
                      · have h := ip c_21 h
                        refine lv_iinc (v := (v8 + 1)) (lv' := [(4, .int (v8 + 1)), (7, .int z16), (6, .int (A 364 ((A 327 (((6 * a1) + v8).toNatClampNeg)).toNatClampNeg))), (5, .int (A 364 ((A 327 (((6 * a1) + v2).toNatClampNeg)).toNatClampNeg))), (3, .int v2), (0, .ref (ad 318)), (1, .int a1), (2, .int a2)]) hx hb dX7_isNear_116 hl (k := 3) rfl rfl (by decide) rfl (fun ls hl => ?_)
                        refine lv_goto (tgt := 15) hx hb dX7_isNear_119 (by decide) ?_
                        exact ih7 (v8 + 1) h _ _ hP hS ls (lv_sub hl [0, 4, 5, 6, 7] rfl)
                      · have h := iN c_21 h
                        refine lv_iload hx hb dX7_isNear_103 (lv_at hl 0 rfl) ?_
                        refine lv_aload_n hx hb dX7_isNear_105 rfl (lv_at hl 5 rfl) ?_
                        refine vgC hx hb hts hi7 hown hK hP (318) (by decide) (show kd 318 = 7 by decide) (C := RX7) (T := TX7) (N := 79) rfl 9 (by decide) (by decide) (by decide) (by decide) (325) rfl (hts (.fieldLink RX7 28 "CrateHelpersModel" "ruleNumber" "[I") (by decide +kernel)) (fun _ h9 => h9) dX7_isNear_106 ?_
                        refine lv_iload_n hx hb dX7_isNear_109 rfl (lv_at hl 6 rfl) ?_
                        refine xiald hx hb hK hP (325) (by decide) (show kd 325 = 8 by decide) (by rw [show ln 325 = 40 by decide]; exact hn5) dX7_isNear_110 ?_
                        refine lv_icmp_ge (tgt := 116) hx hb dX7_isNear_111 (by decide) (fun c_22 => ?_) (fun c_22 => ?_)
                        · have h := iN (Int32.not_lt.mpr c_22) h
                          refine lv_iinc (v := (v8 + 1)) (lv' := [(4, .int (v8 + 1)), (7, .int z16), (6, .int (A 364 ((A 327 (((6 * a1) + v8).toNatClampNeg)).toNatClampNeg))), (5, .int (A 364 ((A 327 (((6 * a1) + v2).toNatClampNeg)).toNatClampNeg))), (3, .int v2), (0, .ref (ad 318)), (1, .int a1), (2, .int a2)]) hx hb dX7_isNear_116 hl (k := 3) rfl rfl (by decide) rfl (fun ls hl => ?_)
                          refine lv_goto (tgt := 15) hx hb dX7_isNear_119 (by decide) ?_
                          exact ih7 (v8 + 1) h _ _ hP hS ls (lv_sub hl [0, 4, 5, 6, 7] rfl)
                        · have h := ip (Int32.not_le.mp c_22) h
                          exact kk9 () h _ _ hP hS ls (lv_sub hl [] rfl)
              refine lv_icmp_ge (tgt := 73) hx hb dX7_isNear_62 (by decide) (fun c_23 => ?_) (fun c_23 => ?_)
              · have h := iN (Int32.not_lt.mpr c_23) h
                refine lv_iload hx hb dX7_isNear_73 (lv_at hl 1 rfl) ?_
                refine lv_iload hx hb dX7_isNear_75 (lv_at hl 0 rfl) ?_
                refine lv_isub hx hb dX7_isNear_77 ?_
                exact kj17 ((A 364 ((A 327 (((6 * a1) + v2).toNatClampNeg)).toNatClampNeg)) - (A 364 ((A 327 (((6 * a1) + v8).toNatClampNeg)).toNatClampNeg))) h _ _ hP hS ls (lv_sub hl [0, 1, 2, 3, 4, 5, 6] rfl)
              · have h := ip (Int32.not_le.mp c_23) h
                refine lv_iload hx hb dX7_isNear_65 (lv_at hl 0 rfl) ?_
                refine lv_iload hx hb dX7_isNear_67 (lv_at hl 1 rfl) ?_
                refine lv_isub hx hb dX7_isNear_69 ?_
                refine lv_goto (tgt := 78) hx hb dX7_isNear_70 (by decide) ?_
                exact kj17 ((A 364 ((A 327 (((6 * a1) + v8).toNatClampNeg)).toNatClampNeg)) - (A 364 ((A 327 (((6 * a1) + v2).toNatClampNeg)).toNatClampNeg))) h _ _ hP hS ls (lv_sub hl [0, 1, 2, 3, 4, 5, 6] rfl)
        exact lp7 FU 0 h _ _ hP hS ls (lv_sub hl [0, 1, 2, 3, 4] rfl)
  exact lp1 FU 0 h _ _ hP hS ls (lv_sub hl [0, 1, 2, 3] rfl)
set_option maxHeartbeats 4000000 in
set_option maxRecDepth 100000 in
theorem e_X7_sumOf (l : Launch) (D : va_G) (K : Nat → ClassId) (ad : Nat → Nat) (hap0 : apart ad (fun _ => True)) (a1 : Int32) (a2 : Int32) (a3 : Int32) (I : Nat → Nat → Int32) (G : Nat → Nat → Nat) (A : Nat → Nat → Int32) (L : Nat → Nat → Int64) (r0 : Int32) (h : f_X7_sumOf A a1 a2 a3 = some r0) : Ci l D K ad yX7_sumOf wsX7_sumOf 0 0 [.ref (ad 318), .int a1, .int a2, .int a3] (I, G, A, L) (fun (r : Int32) (u : Mem) => r = r0 ∧ u = (I, G, A, L)) := by
  intro sz
  refine Met.ofW (cc := cX7_sumOf) (maxL := 9) (ret := (some .int)) (by decide) rfl ?_
  intro p e s m args below meth c s₁ Bd hml hv0
  obtain ⟨rfl, hsz, hP, hK⟩ := hv0
  have hx := Bd.exec
  have hb := Bd.bytes
  have hr := Bd.returns
  have hts := atoms_spec (ws := wsX7_sumOf) Bd.pre
  have hown : s.vm.findClass RX7 = some m.cls := findClass_of_methodNamed Bd.named
  have hlocks := Bd.notSynchronized
  have hi7 : ∀ w ∈ u_ws RX7 TX7 79, w ∈ wsX7_sumOf := fun w h => List.mem_cons_of_mem _ (List.mem_append_right _ h)
  subst hsz
  have hap := vF_ap hap0 s.heap.size
  have hS : va_S (vF ad s.heap.size) s.heap s.heap [] := va_S.rf
  have hP : va_P D vwCl (VW K ad I G A L) s.heap := hP
  have hl := lv_entry ([.ref (ad 318), .int a1, .int a2, .int a3]) (n := 9) (Nat.le_of_ble_eq_true rfl)
  rw [lg_entry_eq]
  generalize (lg_sl ([.ref (ad 318), .int a1, .int a2, .int a3]) ++ List.replicate (9 - (lg_sl ([.ref (ad 318), .int a1, .int a2, .int a3])).length) Slot.unset).toArray = ls at hl ⊢
  have hl : lv_has ls 9 [(0, .ref (ad 318)), (1, .int a1), (2, .int a2), (3, .int a3)] := hl
  rw [f_X7_sumOf] at h
  refine lv_iconst (v := 0) hx hb dX7_sumOf_0 (by decide) ?_
  refine lv_istore (lv' := [(4, .int 0), (0, .ref (ad 318)), (1, .int a1), (2, .int a2), (3, .int a3)]) hx hb dX7_sumOf_1 hl (by decide) rfl (fun ls hl => ?_)
  refine lv_iconst (v := 0) hx hb dX7_sumOf_3 (by decide) ?_
  refine lv_istore (lv' := [(5, .int 0), (4, .int 0), (0, .ref (ad 318)), (1, .int a1), (2, .int a2), (3, .int a3)]) hx hb dX7_sumOf_4 hl (by decide) rfl (fun ls hl => ?_)
  obtain ⟨k4, ek4, h⟩ := bd_e h
  have kk4 : ∀ (v5 : Int32), k4 v5 = some r0 → ∀ (H : Heap) (locs : List Loc), va_P D vwCl (VW K ad I G A L) H → va_S (vF ad s.heap.size) s.heap H locs → ∀ (ls : Array Slot), lv_has ls 9 [(4, .int v5)] → W p l e ({ frames := 0, cells := 0, slots := 0, locals := 0 }) s m ([.ref (ad 318), .int a1, .int a2, .int a3] : List Value).toArray below meth c H locs 0 0 (MQ below (va_Qi (fun (r : Int32) (u : Mem) => r = r0 ∧ u = (I, G, A, L)) (vB D K ad) (vF ad s.heap.size)) ([.ref (ad 318), .int a1, .int a2, .int a3] : List Value).toArray s 0 0 (vF ad s.heap.size)) (F0 m 125 ls []) := by
    intro v5 h H locs hP hS ls hl
    subst ek4
    refine lv_iload hx hb dX7_sumOf_125 (lv_at hl 0 rfl) ?_
    exact W.iret (v := v5) hx hb hr (fun t9 ht9 hW9 => ⟨⟨v5, (I, G, A, L), rfl, by cases h; exact ⟨rfl, rfl⟩, by rw [ht9]; exact hP, va_K.moved hW9.alike hK⟩, hS.F ht9⟩) hS.2.2 dX7_sumOf_127
  have lp1 : ∀ (n : Nat) (v2 : Int32) (v3 : Int32), f_X7_sumOf_L6 a1 a2 a3 A k4 n v2 v3 = some r0 → ∀ (H : Heap) (locs : List Loc), va_P D vwCl (VW K ad I G A L) H → va_S (vF ad s.heap.size) s.heap H locs → ∀ (ls : Array Slot), lv_has ls 9 [(5, .int v2), (4, .int v3), (0, .ref (ad 318)), (1, .int a1), (2, .int a2), (3, .int a3)] → W p l e ({ frames := 0, cells := 0, slots := 0, locals := 0 }) s m ([.ref (ad 318), .int a1, .int a2, .int a3] : List Value).toArray below meth c H locs 0 0 (MQ below (va_Qi (fun (r : Int32) (u : Mem) => r = r0 ∧ u = (I, G, A, L)) (vB D K ad) (vF ad s.heap.size)) ([.ref (ad 318), .int a1, .int a2, .int a3] : List Value).toArray s 0 0 (vF ad s.heap.size)) (F0 m 6 ls []) := by
    intro n
    induction n with
    | zero => intro v2 v3 h; exact absurd h (by rw [f_X7_sumOf_L6]; exact nofun)
    | succ n ih1 =>
      intro v2 v3 h H locs hP hS ls hl
      rw [f_X7_sumOf_L6] at h
      refine lv_iload hx hb dX7_sumOf_6 (lv_at hl 0 rfl) ?_
      refine lv_aload_n hx hb dX7_sumOf_8 rfl (lv_at hl 2 rfl) ?_
      refine vgC hx hb hts hi7 hown hK hP (318) (by decide) (show kd 318 = 7 by decide) (C := RX7) (T := TX7) (N := 79) rfl 10 (by decide) (by decide) (by decide) (by decide) (326) rfl (hts (.fieldLink RX7 31 "CrateHelpersModel" "parts" "[I") (by decide +kernel)) (fun _ h9 => h9) dX7_sumOf_9 ?_
      refine lv_iload_n hx hb dX7_sumOf_12 rfl (lv_at hl 4 rfl) ?_
      obtain ⟨hn6, h⟩ := gk h
      refine xiald hx hb hK hP (326) (by decide) (show kd 326 = 8 by decide) (by rw [show ln 326 = 40 by decide]; exact hn6) dX7_sumOf_13 ?_
      refine lv_icmp_ge (tgt := 125) hx hb dX7_sumOf_14 (by decide) (fun c_7 => ?_) (fun c_7 => ?_)
      · have h := iN (Int32.not_lt.mpr c_7) h
        exact kk4 v3 h _ _ hP hS ls (lv_sub hl [1] rfl)
      · have h := ip (Int32.not_le.mp c_7) h
        refine lv_aload_n hx hb dX7_sumOf_17 rfl (lv_at hl 2 rfl) ?_
        refine vgC hx hb hts hi7 hown hK hP (318) (by decide) (show kd 318 = 7 by decide) (C := RX7) (T := TX7) (N := 79) rfl 12 (by decide) (by decide) (by decide) (by decide) (328) rfl (hts (.fieldLink RX7 37 "CrateHelpersModel" "weight" "[I") (by decide +kernel)) (fun _ h9 => h9) dX7_sumOf_18 ?_
        refine lv_bipush (v := 6) hx hb dX7_sumOf_21 (by decide) ?_
        refine lv_iload_n hx hb dX7_sumOf_23 rfl (lv_at hl 4 rfl) ?_
        refine lv_imul hx hb dX7_sumOf_24 ?_
        refine lv_iload hx hb dX7_sumOf_25 (lv_at hl 0 rfl) ?_
        refine lv_iadd hx hb dX7_sumOf_27 ?_
        obtain ⟨hn8, h⟩ := gk h
        refine xiald hx hb hK hP (328) (by decide) (show kd 328 = 8 by decide) (by rw [show ln 328 = 240 by decide]; exact hn8) dX7_sumOf_28 ?_
        refine lv_istore (lv' := [(6, .int (A 328 (((6 * a2) + v2).toNatClampNeg))), (5, .int v2), (4, .int v3), (0, .ref (ad 318)), (1, .int a1), (2, .int a2), (3, .int a3)]) hx hb dX7_sumOf_29 hl (by decide) rfl (fun ls hl => ?_)
        refine lv_aload_n hx hb dX7_sumOf_31 rfl (lv_at hl 3 rfl) ?_
        refine vgC hx hb hts hi7 hown hK hP (318) (by decide) (show kd 318 = 7 by decide) (C := RX7) (T := TX7) (N := 79) rfl 63 (by decide) (by decide) (by decide) (by decide) (364) rfl (hts (.fieldLink RX7 159 "CrateHelpersModel" "now" "[I") (by decide +kernel)) (fun _ h9 => h9) dX7_sumOf_32 ?_
        refine lv_aload_n hx hb dX7_sumOf_35 rfl (lv_at hl 3 rfl) ?_
        refine vgC hx hb hts hi7 hown hK hP (318) (by decide) (show kd 318 = 7 by decide) (C := RX7) (T := TX7) (N := 79) rfl 11 (by decide) (by decide) (by decide) (by decide) (327) rfl (hts (.fieldLink RX7 34 "CrateHelpersModel" "partOf" "[I") (by decide +kernel)) (fun _ h9 => h9) dX7_sumOf_36 ?_
        refine lv_bipush (v := 6) hx hb dX7_sumOf_39 (by decide) ?_
        refine lv_iload_n hx hb dX7_sumOf_41 rfl (lv_at hl 5 rfl) ?_
        refine lv_imul hx hb dX7_sumOf_42 ?_
        refine lv_iload hx hb dX7_sumOf_43 (lv_at hl 1 rfl) ?_
        refine lv_iadd hx hb dX7_sumOf_45 ?_
        refine xiald hx hb hK hP (327) (by decide) (show kd 327 = 8 by decide) (by rw [show ln 327 = 240 by decide]; exact hn8) dX7_sumOf_46 ?_
        obtain ⟨hn9, h⟩ := gk h
        refine xiald hx hb hK hP (364) (by decide) (show kd 364 = 8 by decide) (by rw [show ln 364 = 6 by decide]; exact hn9) dX7_sumOf_47 ?_
        refine lv_istore (lv' := [(7, .int (A 364 ((A 327 (((6 * a2) + v2).toNatClampNeg)).toNatClampNeg))), (6, .int (A 328 (((6 * a2) + v2).toNatClampNeg))), (5, .int v2), (4, .int v3), (0, .ref (ad 318)), (1, .int a1), (2, .int a2), (3, .int a3)]) hx hb dX7_sumOf_48 hl (by decide) rfl (fun ls hl => ?_)
        refine lv_aload_n hx hb dX7_sumOf_50 rfl (lv_at hl 4 rfl) ?_
        refine vgC hx hb hts hi7 hown hK hP (318) (by decide) (show kd 318 = 7 by decide) (C := RX7) (T := TX7) (N := 79) rfl 5 (by decide) (by decide) (by decide) (by decide) (321) rfl (hts (.fieldLink RX7 16 "CrateHelpersModel" "values" "[I") (by decide +kernel)) (fun _ h9 => h9) dX7_sumOf_51 ?_
        refine lv_bipush (v := 6) hx hb dX7_sumOf_54 (by decide) ?_
        refine lv_iload_n hx hb dX7_sumOf_56 rfl (lv_at hl 5 rfl) ?_
        refine lv_imul hx hb dX7_sumOf_57 ?_
        refine lv_aload_n hx hb dX7_sumOf_58 rfl (lv_at hl 4 rfl) ?_
        refine vgC hx hb hts hi7 hown hK hP (318) (by decide) (show kd 318 = 7 by decide) (C := RX7) (T := TX7) (N := 79) rfl 11 (by decide) (by decide) (by decide) (by decide) (327) rfl (hts (.fieldLink RX7 34 "CrateHelpersModel" "partOf" "[I") (by decide +kernel)) (fun _ h9 => h9) dX7_sumOf_59 ?_
        refine lv_bipush (v := 6) hx hb dX7_sumOf_62 (by decide) ?_
        refine lv_iload_n hx hb dX7_sumOf_64 rfl (lv_at hl 6 rfl) ?_
        refine lv_imul hx hb dX7_sumOf_65 ?_
        refine lv_iload hx hb dX7_sumOf_66 (lv_at hl 2 rfl) ?_
        refine lv_iadd hx hb dX7_sumOf_68 ?_
        refine xiald hx hb hK hP (327) (by decide) (show kd 327 = 8 by decide) (by rw [show ln 327 = 240 by decide]; exact hn8) dX7_sumOf_69 ?_
        refine lv_iadd hx hb dX7_sumOf_70 ?_
        obtain ⟨hn10, h⟩ := gk h
        refine xiald hx hb hK hP (321) (by decide) (show kd 321 = 8 by decide) (by rw [show ln 321 = 30 by decide]; exact hn10) dX7_sumOf_71 ?_
        refine lv_iconst (v := 1) hx hb dX7_sumOf_72 (by decide) ?_
        refine lv_isub hx hb dX7_sumOf_73 ?_
        refine lv_istore (lv' := [(8, .int ((A 321 (((6 * a1) + (A 327 (((6 * a2) + v2).toNatClampNeg))).toNatClampNeg)) - 1)), (7, .int (A 364 ((A 327 (((6 * a2) + v2).toNatClampNeg)).toNatClampNeg))), (6, .int (A 328 (((6 * a2) + v2).toNatClampNeg))), (5, .int v2), (4, .int v3), (0, .ref (ad 318)), (1, .int a1), (2, .int a2), (3, .int a3)]) hx hb dX7_sumOf_74 hl (by decide) rfl (fun ls hl => ?_)
        refine lv_iload hx hb dX7_sumOf_76 (lv_at hl 4 rfl) ?_
        refine lv_iload hx hb dX7_sumOf_78 (lv_at hl 1 rfl) ?_
        refine lv_bipush (v := (-9)) hx hb dX7_sumOf_80 (by decide) ?_
        refine lv_icmp_eq (tgt := 93) hx hb dX7_sumOf_82 (by decide) (fun c_11 => ?_) (fun c_11 => ?_)
        · have h := ip c_11 h
          refine lv_iload hx hb dX7_sumOf_93 (lv_at hl 2 rfl) ?_
          refine lv_if_ge (tgt := 102) hx hb dX7_sumOf_95 (by decide) (fun c_12 => ?_) (fun c_12 => ?_)
          · have h := iN (Int32.not_lt.mpr c_12) h
            refine lv_iconst (v := 0) hx hb dX7_sumOf_102 (by decide) ?_
            refine lv_iload_n hx hb dX7_sumOf_103 rfl (lv_at hl 8 rfl) ?_
            refine lv_icmp_ne (tgt := 115) hx hb dX7_sumOf_104 (by decide) (fun c_13 => ?_) (fun c_13 => ?_)
            · have h := iN c_13 h
              refine lv_iconst (v := 0) hx hb dX7_sumOf_115 (by decide) ?_
              refine lv_iadd hx hb dX7_sumOf_116 ?_
              refine lv_istore (lv' := [(4, .int (v3 + 0)), (8, .int ((A 321 (((6 * a1) + (A 327 (((6 * a2) + v2).toNatClampNeg))).toNatClampNeg)) - 1)), (7, .int (A 364 ((A 327 (((6 * a2) + v2).toNatClampNeg)).toNatClampNeg))), (6, .int (A 328 (((6 * a2) + v2).toNatClampNeg))), (5, .int v2), (0, .ref (ad 318)), (1, .int a1), (2, .int a2), (3, .int a3)]) hx hb dX7_sumOf_117 hl (by decide) rfl (fun ls hl => ?_)
              refine lv_iinc (v := (v2 + 1)) (lv' := [(5, .int (v2 + 1)), (4, .int (v3 + 0)), (8, .int ((A 321 (((6 * a1) + (A 327 (((6 * a2) + v2).toNatClampNeg))).toNatClampNeg)) - 1)), (7, .int (A 364 ((A 327 (((6 * a2) + v2).toNatClampNeg)).toNatClampNeg))), (6, .int (A 328 (((6 * a2) + v2).toNatClampNeg))), (0, .ref (ad 318)), (1, .int a1), (2, .int a2), (3, .int a3)]) hx hb dX7_sumOf_119 hl (k := 4) rfl rfl (by decide) rfl (fun ls hl => ?_)
              refine lv_goto (tgt := 6) hx hb dX7_sumOf_122 (by decide) ?_
              exact ih1 (v2 + 1) (v3 + 0) h _ _ hP hS ls (lv_sub hl [0, 1, 5, 6, 7, 8] rfl)
            · have h := ip c_13 h
              refine lv_iload hx hb dX7_sumOf_107 (lv_at hl 2 rfl) ?_
              refine lv_iload hx hb dX7_sumOf_109 (lv_at hl 0 rfl) ?_
              refine lv_imul hx hb dX7_sumOf_111 ?_
              refine lv_goto (tgt := 116) hx hb dX7_sumOf_112 (by decide) ?_
              refine lv_iadd hx hb dX7_sumOf_116 ?_
              refine lv_istore (lv' := [(4, .int (v3 + ((A 328 (((6 * a2) + v2).toNatClampNeg)) * ((A 321 (((6 * a1) + (A 327 (((6 * a2) + v2).toNatClampNeg))).toNatClampNeg)) - 1)))), (8, .int ((A 321 (((6 * a1) + (A 327 (((6 * a2) + v2).toNatClampNeg))).toNatClampNeg)) - 1)), (7, .int (A 364 ((A 327 (((6 * a2) + v2).toNatClampNeg)).toNatClampNeg))), (6, .int (A 328 (((6 * a2) + v2).toNatClampNeg))), (5, .int v2), (0, .ref (ad 318)), (1, .int a1), (2, .int a2), (3, .int a3)]) hx hb dX7_sumOf_117 hl (by decide) rfl (fun ls hl => ?_)
              refine lv_iinc (v := (v2 + 1)) (lv' := [(5, .int (v2 + 1)), (4, .int (v3 + ((A 328 (((6 * a2) + v2).toNatClampNeg)) * ((A 321 (((6 * a1) + (A 327 (((6 * a2) + v2).toNatClampNeg))).toNatClampNeg)) - 1)))), (8, .int ((A 321 (((6 * a1) + (A 327 (((6 * a2) + v2).toNatClampNeg))).toNatClampNeg)) - 1)), (7, .int (A 364 ((A 327 (((6 * a2) + v2).toNatClampNeg)).toNatClampNeg))), (6, .int (A 328 (((6 * a2) + v2).toNatClampNeg))), (0, .ref (ad 318)), (1, .int a1), (2, .int a2), (3, .int a3)]) hx hb dX7_sumOf_119 hl (k := 4) rfl rfl (by decide) rfl (fun ls hl => ?_)
              refine lv_goto (tgt := 6) hx hb dX7_sumOf_122 (by decide) ?_
              exact ih1 (v2 + 1) (v3 + ((A 328 (((6 * a2) + v2).toNatClampNeg)) * ((A 321 (((6 * a1) + (A 327 (((6 * a2) + v2).toNatClampNeg))).toNatClampNeg)) - 1))) h _ _ hP hS ls (lv_sub hl [0, 1, 5, 6, 7, 8] rfl)
          · have h := ip (Int32.not_le.mp c_12) h
            refine lv_iconst (v := 1) hx hb dX7_sumOf_98 (by decide) ?_
            refine lv_goto (tgt := 103) hx hb dX7_sumOf_99 (by decide) ?_
            refine lv_iload_n hx hb dX7_sumOf_103 rfl (lv_at hl 8 rfl) ?_
            refine lv_icmp_ne (tgt := 115) hx hb dX7_sumOf_104 (by decide) (fun c_14 => ?_) (fun c_14 => ?_)
            · have h := iN c_14 h
              refine lv_iconst (v := 0) hx hb dX7_sumOf_115 (by decide) ?_
              refine lv_iadd hx hb dX7_sumOf_116 ?_
              refine lv_istore (lv' := [(4, .int (v3 + 0)), (8, .int ((A 321 (((6 * a1) + (A 327 (((6 * a2) + v2).toNatClampNeg))).toNatClampNeg)) - 1)), (7, .int (A 364 ((A 327 (((6 * a2) + v2).toNatClampNeg)).toNatClampNeg))), (6, .int (A 328 (((6 * a2) + v2).toNatClampNeg))), (5, .int v2), (0, .ref (ad 318)), (1, .int a1), (2, .int a2), (3, .int a3)]) hx hb dX7_sumOf_117 hl (by decide) rfl (fun ls hl => ?_)
              refine lv_iinc (v := (v2 + 1)) (lv' := [(5, .int (v2 + 1)), (4, .int (v3 + 0)), (8, .int ((A 321 (((6 * a1) + (A 327 (((6 * a2) + v2).toNatClampNeg))).toNatClampNeg)) - 1)), (7, .int (A 364 ((A 327 (((6 * a2) + v2).toNatClampNeg)).toNatClampNeg))), (6, .int (A 328 (((6 * a2) + v2).toNatClampNeg))), (0, .ref (ad 318)), (1, .int a1), (2, .int a2), (3, .int a3)]) hx hb dX7_sumOf_119 hl (k := 4) rfl rfl (by decide) rfl (fun ls hl => ?_)
              refine lv_goto (tgt := 6) hx hb dX7_sumOf_122 (by decide) ?_
              exact ih1 (v2 + 1) (v3 + 0) h _ _ hP hS ls (lv_sub hl [0, 1, 5, 6, 7, 8] rfl)
            · have h := ip c_14 h
              refine lv_iload hx hb dX7_sumOf_107 (lv_at hl 2 rfl) ?_
              refine lv_iload hx hb dX7_sumOf_109 (lv_at hl 0 rfl) ?_
              refine lv_imul hx hb dX7_sumOf_111 ?_
              refine lv_goto (tgt := 116) hx hb dX7_sumOf_112 (by decide) ?_
              refine lv_iadd hx hb dX7_sumOf_116 ?_
              refine lv_istore (lv' := [(4, .int (v3 + ((A 328 (((6 * a2) + v2).toNatClampNeg)) * ((A 321 (((6 * a1) + (A 327 (((6 * a2) + v2).toNatClampNeg))).toNatClampNeg)) - 1)))), (8, .int ((A 321 (((6 * a1) + (A 327 (((6 * a2) + v2).toNatClampNeg))).toNatClampNeg)) - 1)), (7, .int (A 364 ((A 327 (((6 * a2) + v2).toNatClampNeg)).toNatClampNeg))), (6, .int (A 328 (((6 * a2) + v2).toNatClampNeg))), (5, .int v2), (0, .ref (ad 318)), (1, .int a1), (2, .int a2), (3, .int a3)]) hx hb dX7_sumOf_117 hl (by decide) rfl (fun ls hl => ?_)
              refine lv_iinc (v := (v2 + 1)) (lv' := [(5, .int (v2 + 1)), (4, .int (v3 + ((A 328 (((6 * a2) + v2).toNatClampNeg)) * ((A 321 (((6 * a1) + (A 327 (((6 * a2) + v2).toNatClampNeg))).toNatClampNeg)) - 1)))), (8, .int ((A 321 (((6 * a1) + (A 327 (((6 * a2) + v2).toNatClampNeg))).toNatClampNeg)) - 1)), (7, .int (A 364 ((A 327 (((6 * a2) + v2).toNatClampNeg)).toNatClampNeg))), (6, .int (A 328 (((6 * a2) + v2).toNatClampNeg))), (0, .ref (ad 318)), (1, .int a1), (2, .int a2), (3, .int a3)]) hx hb dX7_sumOf_119 hl (k := 4) rfl rfl (by decide) rfl (fun ls hl => ?_)
              refine lv_goto (tgt := 6) hx hb dX7_sumOf_122 (by decide) ?_
              exact ih1 (v2 + 1) (v3 + ((A 328 (((6 * a2) + v2).toNatClampNeg)) * ((A 321 (((6 * a1) + (A 327 (((6 * a2) + v2).toNatClampNeg))).toNatClampNeg)) - 1))) h _ _ hP hS ls (lv_sub hl [0, 1, 5, 6, 7, 8] rfl)
        · have h := iN c_11 h
          refine lv_iload hx hb dX7_sumOf_85 (lv_at hl 2 rfl) ?_
          refine lv_iload hx hb dX7_sumOf_87 (lv_at hl 1 rfl) ?_
          refine lv_imul hx hb dX7_sumOf_89 ?_
          refine lv_goto (tgt := 116) hx hb dX7_sumOf_90 (by decide) ?_
          refine lv_iadd hx hb dX7_sumOf_116 ?_
          refine lv_istore (lv' := [(4, .int (v3 + ((A 328 (((6 * a2) + v2).toNatClampNeg)) * (A 364 ((A 327 (((6 * a2) + v2).toNatClampNeg)).toNatClampNeg))))), (8, .int ((A 321 (((6 * a1) + (A 327 (((6 * a2) + v2).toNatClampNeg))).toNatClampNeg)) - 1)), (7, .int (A 364 ((A 327 (((6 * a2) + v2).toNatClampNeg)).toNatClampNeg))), (6, .int (A 328 (((6 * a2) + v2).toNatClampNeg))), (5, .int v2), (0, .ref (ad 318)), (1, .int a1), (2, .int a2), (3, .int a3)]) hx hb dX7_sumOf_117 hl (by decide) rfl (fun ls hl => ?_)
          refine lv_iinc (v := (v2 + 1)) (lv' := [(5, .int (v2 + 1)), (4, .int (v3 + ((A 328 (((6 * a2) + v2).toNatClampNeg)) * (A 364 ((A 327 (((6 * a2) + v2).toNatClampNeg)).toNatClampNeg))))), (8, .int ((A 321 (((6 * a1) + (A 327 (((6 * a2) + v2).toNatClampNeg))).toNatClampNeg)) - 1)), (7, .int (A 364 ((A 327 (((6 * a2) + v2).toNatClampNeg)).toNatClampNeg))), (6, .int (A 328 (((6 * a2) + v2).toNatClampNeg))), (0, .ref (ad 318)), (1, .int a1), (2, .int a2), (3, .int a3)]) hx hb dX7_sumOf_119 hl (k := 4) rfl rfl (by decide) rfl (fun ls hl => ?_)
          refine lv_goto (tgt := 6) hx hb dX7_sumOf_122 (by decide) ?_
          exact ih1 (v2 + 1) (v3 + ((A 328 (((6 * a2) + v2).toNatClampNeg)) * (A 364 ((A 327 (((6 * a2) + v2).toNatClampNeg)).toNatClampNeg)))) h _ _ hP hS ls (lv_sub hl [0, 1, 5, 6, 7, 8] rfl)
  exact lp1 FU 0 0 h _ _ hP hS ls (lv_sub hl [0, 1, 2, 3, 4, 5] rfl)
set_option maxHeartbeats 4000000 in
set_option maxRecDepth 100000 in
theorem e_X7_isBroken (l : Launch) (D : va_G) (K : Nat → ClassId) (ad : Nat → Nat) (hap0 : apart ad (fun _ => True)) (a1 : Int32) (a2 : Int32) (I : Nat → Nat → Int32) (G : Nat → Nat → Nat) (A : Nat → Nat → Int32) (L : Nat → Nat → Int64) (r0 : Int32) (h : f_X7_isBroken A a1 a2 = some r0) : Ci l D K ad yX7_isBroken wsX7_isBroken 1 31 [.ref (ad 318), .int a1, .int a2] (I, G, A, L) (fun (r : Int32) (u : Mem) => r = r0 ∧ u = (I, G, A, L)) := by
  intro sz
  refine Met.ofW (cc := cX7_isBroken) (maxL := 8) (ret := (some .boolean)) (by decide) rfl ?_
  intro p e s m args below meth c s₁ Bd hml hv0
  obtain ⟨rfl, hsz, hP, hK⟩ := hv0
  have hx := Bd.exec
  have hb := Bd.bytes
  have hr := Bd.returns
  have hts := atoms_spec (ws := wsX7_isBroken) Bd.pre
  have hown : s.vm.findClass RX7 = some m.cls := findClass_of_methodNamed Bd.named
  have hlocks := Bd.notSynchronized
  have hi7 : ∀ w ∈ u_ws RX7 TX7 79, w ∈ wsX7_isBroken := fun w h => List.mem_cons_of_mem _ (List.mem_append_right _ h)
  subst hsz
  have hap := vF_ap hap0 s.heap.size
  have hS : va_S (vF ad s.heap.size) s.heap s.heap [] := va_S.rf
  have hP : va_P D vwCl (VW K ad I G A L) s.heap := hP
  have hl := lv_entry ([.ref (ad 318), .int a1, .int a2]) (n := 8) (Nat.le_of_ble_eq_true rfl)
  rw [lg_entry_eq]
  generalize (lg_sl ([.ref (ad 318), .int a1, .int a2]) ++ List.replicate (8 - (lg_sl ([.ref (ad 318), .int a1, .int a2])).length) Slot.unset).toArray = ls at hl ⊢
  have hl : lv_has ls 8 [(0, .ref (ad 318)), (1, .int a1), (2, .int a2)] := hl
  rw [f_X7_isBroken] at h
  refine lv_bipush (v := 8) hx hb dX7_isBroken_0 (by decide) ?_
  refine lv_iload_n hx hb dX7_isBroken_2 rfl (lv_at hl 1 rfl) ?_
  refine lv_imul hx hb dX7_isBroken_3 ?_
  refine lv_iload_n hx hb dX7_isBroken_4 rfl (lv_at hl 2 rfl) ?_
  refine lv_iadd hx hb dX7_isBroken_5 ?_
  refine lv_istore_n (lv' := [(3, .int ((8 * a1) + a2)), (0, .ref (ad 318)), (1, .int a1), (2, .int a2)]) hx hb dX7_isBroken_6 rfl hl (by decide) rfl (fun ls hl => ?_)
  refine lv_aload_n hx hb dX7_isBroken_7 rfl (lv_at hl 1 rfl) ?_
  refine vgC hx hb hts hi7 hown hK hP (318) (by decide) (show kd 318 = 7 by decide) (C := RX7) (T := TX7) (N := 79) rfl 9 (by decide) (by decide) (by decide) (by decide) (325) rfl (hts (.fieldLink RX7 28 "CrateHelpersModel" "ruleNumber" "[I") (by decide +kernel)) (fun _ h9 => h9) dX7_isBroken_8 ?_
  refine lv_iload_n hx hb dX7_isBroken_11 rfl (lv_at hl 0 rfl) ?_
  obtain ⟨hn1, h⟩ := gk h
  refine xiald hx hb hK hP (325) (by decide) (show kd 325 = 8 by decide) (by rw [show ln 325 = 40 by decide]; exact hn1) dX7_isBroken_12 ?_
  refine lv_istore (lv' := [(4, .int (A 325 (((8 * a1) + a2).toNatClampNeg))), (3, .int ((8 * a1) + a2)), (0, .ref (ad 318)), (1, .int a1), (2, .int a2)]) hx hb dX7_isBroken_13 hl (by decide) rfl (fun ls hl => ?_)
  refine lv_aload_n hx hb dX7_isBroken_15 rfl (lv_at hl 2 rfl) ?_
  refine vgC hx hb hts hi7 hown hK hP (318) (by decide) (show kd 318 = 7 by decide) (C := RX7) (T := TX7) (N := 79) rfl 8 (by decide) (by decide) (by decide) (by decide) (324) rfl (hts (.fieldLink RX7 25 "CrateHelpersModel" "ruleKind" "[I") (by decide +kernel)) (fun _ h9 => h9) dX7_isBroken_16 ?_
  refine lv_iload_n hx hb dX7_isBroken_19 rfl (lv_at hl 1 rfl) ?_
  refine xiald hx hb hK hP (324) (by decide) (show kd 324 = 8 by decide) (by rw [show ln 324 = 40 by decide]; exact hn1) dX7_isBroken_20 ?_
  rcases sw_6 (A 324 (((8 * a1) + a2).toNatClampNeg)) with hs2 | hs2 | hs2 | hs2 | hs2 | hs2 | hs2 | hs2
  · have h := ip hs2 h
    refine W_top hs2 ?_
    refine lv_tableIn (off := 43) (tgt := 64) hx hb dX7_isBroken_21 (by decide) (by decide) (by decide) (by decide) ?_
    refine lv_aload_n hx hb dX7_isBroken_64 rfl (lv_at hl 2 rfl) ?_
    refine lv_iload_n hx hb dX7_isBroken_65 rfl (lv_at hl 1 rfl) ?_
    obtain ⟨r3, hc4, h⟩ := Option.bind_eq_some_iff.mp h
    refine ecV (As := [.int ((8 * a1) + a2)]) (rest := []) ⟨hx, hb, hml, hown, hts⟩ (e_X7_isLoaded l D K ad hap0 ((8 * a1) + a2) I G A L r3 hc4) (cwV 1 hts gX7_isBroken_X7_isLoaded rfl rfl rfl (by decide +kernel) ⟨Nat.le_of_ble_eq_true rfl, Nat.le_of_ble_eq_true rfl⟩) hK hP hS (by decide) (show kd 318 = 7 by decide) (by decide) rfl rfl rfl hl.1 (Nat.le_of_ble_eq_true rfl) (Nat.le_of_ble_eq_true rfl) (Nat.le_of_ble_eq_true rfl) dX7_isBroken_66 (fun H locs hP hS => ?_) rfl
    have hP : va_P D vwCl (VW K ad I G A L) H := hP
    obtain ⟨hz5, h⟩ := gk h
    exact W.zret (v := r3) hx hb hr (nar01 hz5) (fun t9 ht9 hW9 => ⟨⟨r3, (I, G, A, L), rfl, by cases h; exact ⟨rfl, rfl⟩, by rw [ht9]; exact hP, va_K.moved hW9.alike hK⟩, hS.F ht9⟩) hS.2.2 dX7_isBroken_69
  · have h := iN (by rw [hs2]; decide) h
    have h := ip hs2 h
    refine W_top hs2 ?_
    refine lv_tableIn (off := 49) (tgt := 70) hx hb dX7_isBroken_21 (by decide) (by decide) (by decide) (by decide) ?_
    refine lv_aload_n hx hb dX7_isBroken_70 rfl (lv_at hl 2 rfl) ?_
    refine lv_iload_n hx hb dX7_isBroken_71 rfl (lv_at hl 3 rfl) ?_
    refine lv_iload_n hx hb dX7_isBroken_72 rfl (lv_at hl 1 rfl) ?_
    refine lv_iconst (v := 1) hx hb dX7_isBroken_73 (by decide) ?_
    obtain ⟨r6, hc7, h⟩ := Option.bind_eq_some_iff.mp h
    refine ecV (As := [.int a1, .int ((8 * a1) + a2), .int 1]) (rest := []) ⟨hx, hb, hml, hown, hts⟩ (e_X7_sumOf l D K ad hap0 a1 ((8 * a1) + a2) 1 I G A L r6 hc7) (cwV 3 hts gX7_isBroken_X7_sumOf rfl rfl rfl (by decide +kernel) ⟨Nat.le_of_ble_eq_true rfl, Nat.le_of_ble_eq_true rfl⟩) hK hP hS (by decide) (show kd 318 = 7 by decide) (by decide) rfl rfl rfl hl.1 (Nat.le_of_ble_eq_true rfl) (Nat.le_of_ble_eq_true rfl) (Nat.le_of_ble_eq_true rfl) dX7_isBroken_74 (fun H locs hP hS => ?_) rfl
    have hP : va_P D vwCl (VW K ad I G A L) H := hP
    refine lv_iload hx hb dX7_isBroken_77 (lv_at hl 0 rfl) ?_
    refine lv_icmp_le (tgt := 86) hx hb dX7_isBroken_79 (by decide) (fun c_8 => ?_) (fun c_8 => ?_)
    · have h := iN (Int32.not_lt.mpr c_8) h
      refine lv_iconst (v := 0) hx hb dX7_isBroken_86 (by decide) ?_
      exact W.zret (v := 0) hx hb hr (by decide) (fun t9 ht9 hW9 => ⟨⟨0, (I, G, A, L), rfl, by cases h; exact ⟨rfl, rfl⟩, by rw [ht9]; exact hP, va_K.moved hW9.alike hK⟩, hS.F ht9⟩) hS.2.2 dX7_isBroken_87
    · have h := ip (Int32.not_le.mp c_8) h
      refine lv_iconst (v := 1) hx hb dX7_isBroken_82 (by decide) ?_
      refine lv_goto (tgt := 87) hx hb dX7_isBroken_83 (by decide) ?_
      exact W.zret (v := 1) hx hb hr (by decide) (fun t9 ht9 hW9 => ⟨⟨1, (I, G, A, L), rfl, by cases h; exact ⟨rfl, rfl⟩, by rw [ht9]; exact hP, va_K.moved hW9.alike hK⟩, hS.F ht9⟩) hS.2.2 dX7_isBroken_87
  · have h := iN (by rw [hs2]; decide) h
    have h := iN (by rw [hs2]; decide) h
    have h := ip hs2 h
    refine W_top hs2 ?_
    refine lv_tableIn (off := 67) (tgt := 88) hx hb dX7_isBroken_21 (by decide) (by decide) (by decide) (by decide) ?_
    refine lv_aload_n hx hb dX7_isBroken_88 rfl (lv_at hl 2 rfl) ?_
    refine lv_iload_n hx hb dX7_isBroken_89 rfl (lv_at hl 3 rfl) ?_
    refine lv_iload_n hx hb dX7_isBroken_90 rfl (lv_at hl 1 rfl) ?_
    refine lv_iconst (v := 0) hx hb dX7_isBroken_91 (by decide) ?_
    obtain ⟨r9, hc10, h⟩ := Option.bind_eq_some_iff.mp h
    refine ecV (As := [.int a1, .int ((8 * a1) + a2), .int 0]) (rest := []) ⟨hx, hb, hml, hown, hts⟩ (e_X7_sumOf l D K ad hap0 a1 ((8 * a1) + a2) 0 I G A L r9 hc10) (cwV 3 hts gX7_isBroken_X7_sumOf rfl rfl rfl (by decide +kernel) ⟨Nat.le_of_ble_eq_true rfl, Nat.le_of_ble_eq_true rfl⟩) hK hP hS (by decide) (show kd 318 = 7 by decide) (by decide) rfl rfl rfl hl.1 (Nat.le_of_ble_eq_true rfl) (Nat.le_of_ble_eq_true rfl) (Nat.le_of_ble_eq_true rfl) dX7_isBroken_92 (fun H locs hP hS => ?_) rfl
    have hP : va_P D vwCl (VW K ad I G A L) H := hP
    refine lv_iload hx hb dX7_isBroken_95 (lv_at hl 0 rfl) ?_
    refine lv_icmp_ge (tgt := 104) hx hb dX7_isBroken_97 (by decide) (fun c_11 => ?_) (fun c_11 => ?_)
    · have h := iN (Int32.not_lt.mpr c_11) h
      refine lv_iconst (v := 0) hx hb dX7_isBroken_104 (by decide) ?_
      exact W.zret (v := 0) hx hb hr (by decide) (fun t9 ht9 hW9 => ⟨⟨0, (I, G, A, L), rfl, by cases h; exact ⟨rfl, rfl⟩, by rw [ht9]; exact hP, va_K.moved hW9.alike hK⟩, hS.F ht9⟩) hS.2.2 dX7_isBroken_105
    · have h := ip (Int32.not_le.mp c_11) h
      refine lv_iconst (v := 1) hx hb dX7_isBroken_100 (by decide) ?_
      refine lv_goto (tgt := 105) hx hb dX7_isBroken_101 (by decide) ?_
      exact W.zret (v := 1) hx hb hr (by decide) (fun t9 ht9 hW9 => ⟨⟨1, (I, G, A, L), rfl, by cases h; exact ⟨rfl, rfl⟩, by rw [ht9]; exact hP, va_K.moved hW9.alike hK⟩, hS.F ht9⟩) hS.2.2 dX7_isBroken_105
  · have h := iN (by rw [hs2]; decide) h
    have h := iN (by rw [hs2]; decide) h
    have h := iN (by rw [hs2]; decide) h
    have h := ip hs2 h
    refine W_top hs2 ?_
    refine lv_tableIn (off := 85) (tgt := 106) hx hb dX7_isBroken_21 (by decide) (by decide) (by decide) (by decide) ?_
    refine lv_aload_n hx hb dX7_isBroken_106 rfl (lv_at hl 2 rfl) ?_
    refine lv_iload_n hx hb dX7_isBroken_107 rfl (lv_at hl 3 rfl) ?_
    refine lv_iload_n hx hb dX7_isBroken_108 rfl (lv_at hl 1 rfl) ?_
    refine lv_iconst (v := 1) hx hb dX7_isBroken_109 (by decide) ?_
    obtain ⟨r12, hc13, h⟩ := Option.bind_eq_some_iff.mp h
    refine ecV (As := [.int a1, .int ((8 * a1) + a2), .int 1]) (rest := []) ⟨hx, hb, hml, hown, hts⟩ (e_X7_sumOf l D K ad hap0 a1 ((8 * a1) + a2) 1 I G A L r12 hc13) (cwV 3 hts gX7_isBroken_X7_sumOf rfl rfl rfl (by decide +kernel) ⟨Nat.le_of_ble_eq_true rfl, Nat.le_of_ble_eq_true rfl⟩) hK hP hS (by decide) (show kd 318 = 7 by decide) (by decide) rfl rfl rfl hl.1 (Nat.le_of_ble_eq_true rfl) (Nat.le_of_ble_eq_true rfl) (Nat.le_of_ble_eq_true rfl) dX7_isBroken_110 (fun H locs hP hS => ?_) rfl
    have hP : va_P D vwCl (VW K ad I G A L) H := hP
    refine lv_iload hx hb dX7_isBroken_113 (lv_at hl 0 rfl) ?_
    refine lv_icmp_gt (tgt := 130) hx hb dX7_isBroken_115 (by decide) (fun c_14 => ?_) (fun c_14 => ?_)
    · have h := ip c_14 h
      refine lv_iconst (v := 1) hx hb dX7_isBroken_130 (by decide) ?_
      refine lv_goto (tgt := 135) hx hb dX7_isBroken_131 (by decide) ?_
      exact W.zret (v := 1) hx hb hr (by decide) (fun t9 ht9 hW9 => ⟨⟨1, (I, G, A, L), rfl, by cases h; exact ⟨rfl, rfl⟩, by rw [ht9]; exact hP, va_K.moved hW9.alike hK⟩, hS.F ht9⟩) hS.2.2 dX7_isBroken_135
    · have h := iN c_14 h
      refine lv_aload_n hx hb dX7_isBroken_118 rfl (lv_at hl 2 rfl) ?_
      refine lv_iload_n hx hb dX7_isBroken_119 rfl (lv_at hl 3 rfl) ?_
      refine lv_iload_n hx hb dX7_isBroken_120 rfl (lv_at hl 1 rfl) ?_
      refine lv_iconst (v := 0) hx hb dX7_isBroken_121 (by decide) ?_
      obtain ⟨r15, hc16, h⟩ := Option.bind_eq_some_iff.mp h
      refine ecV (As := [.int a1, .int ((8 * a1) + a2), .int 0]) (rest := []) ⟨hx, hb, hml, hown, hts⟩ (e_X7_sumOf l D K ad hap0 a1 ((8 * a1) + a2) 0 I G A L r15 hc16) (cwV 3 hts gX7_isBroken_X7_sumOf rfl rfl rfl (by decide +kernel) ⟨Nat.le_of_ble_eq_true rfl, Nat.le_of_ble_eq_true rfl⟩) hK hP hS (by decide) (show kd 318 = 7 by decide) (by decide) rfl rfl rfl hl.1 (Nat.le_of_ble_eq_true rfl) (Nat.le_of_ble_eq_true rfl) (Nat.le_of_ble_eq_true rfl) dX7_isBroken_122 (fun H locs hP hS => ?_) rfl
      have hP : va_P D vwCl (VW K ad I G A L) H := hP
      refine lv_iload hx hb dX7_isBroken_125 (lv_at hl 0 rfl) ?_
      refine lv_icmp_ge (tgt := 134) hx hb dX7_isBroken_127 (by decide) (fun c_17 => ?_) (fun c_17 => ?_)
      · have h := iN (Int32.not_lt.mpr c_17) h
        refine lv_iconst (v := 0) hx hb dX7_isBroken_134 (by decide) ?_
        exact W.zret (v := 0) hx hb hr (by decide) (fun t9 ht9 hW9 => ⟨⟨0, (I, G, A, L), rfl, by cases h; exact ⟨rfl, rfl⟩, by rw [ht9]; exact hP, va_K.moved hW9.alike hK⟩, hS.F ht9⟩) hS.2.2 dX7_isBroken_135
      · have h := ip (Int32.not_le.mp c_17) h
        refine lv_iconst (v := 1) hx hb dX7_isBroken_130 (by decide) ?_
        refine lv_goto (tgt := 135) hx hb dX7_isBroken_131 (by decide) ?_
        exact W.zret (v := 1) hx hb hr (by decide) (fun t9 ht9 hW9 => ⟨⟨1, (I, G, A, L), rfl, by cases h; exact ⟨rfl, rfl⟩, by rw [ht9]; exact hP, va_K.moved hW9.alike hK⟩, hS.F ht9⟩) hS.2.2 dX7_isBroken_135
  · have h := iN (by rw [hs2]; decide) h
    have h := iN (by rw [hs2]; decide) h
    have h := iN (by rw [hs2]; decide) h
    have h := iN (by rw [hs2]; decide) h
    have h := ip hs2 h
    refine W_top hs2 ?_
    refine lv_tableIn (off := 115) (tgt := 136) hx hb dX7_isBroken_21 (by decide) (by decide) (by decide) (by decide) ?_
    refine lv_aload_n hx hb dX7_isBroken_136 rfl (lv_at hl 2 rfl) ?_
    refine lv_iload_n hx hb dX7_isBroken_137 rfl (lv_at hl 1 rfl) ?_
    refine lv_iconst (v := 0) hx hb dX7_isBroken_138 (by decide) ?_
    obtain ⟨r18, hc19, h⟩ := Option.bind_eq_some_iff.mp h
    refine ecV (As := [.int ((8 * a1) + a2), .int 0]) (rest := []) ⟨hx, hb, hml, hown, hts⟩ (e_X7_isNear l D K ad hap0 ((8 * a1) + a2) 0 I G A L r18 hc19) (cwV 2 hts gX7_isBroken_X7_isNear rfl rfl rfl (by decide +kernel) ⟨Nat.le_of_ble_eq_true rfl, Nat.le_of_ble_eq_true rfl⟩) hK hP hS (by decide) (show kd 318 = 7 by decide) (by decide) rfl rfl rfl hl.1 (Nat.le_of_ble_eq_true rfl) (Nat.le_of_ble_eq_true rfl) (Nat.le_of_ble_eq_true rfl) dX7_isBroken_139 (fun H locs hP hS => ?_) rfl
    have hP : va_P D vwCl (VW K ad I G A L) H := hP
    obtain ⟨hz20, h⟩ := gk h
    exact W.zret (v := r18) hx hb hr (nar01 hz20) (fun t9 ht9 hW9 => ⟨⟨r18, (I, G, A, L), rfl, by cases h; exact ⟨rfl, rfl⟩, by rw [ht9]; exact hP, va_K.moved hW9.alike hK⟩, hS.F ht9⟩) hS.2.2 dX7_isBroken_142
  · have h := iN (by rw [hs2]; decide) h
    have h := iN (by rw [hs2]; decide) h
    have h := iN (by rw [hs2]; decide) h
    have h := iN (by rw [hs2]; decide) h
    have h := iN (by rw [hs2]; decide) h
    have h := ip hs2 h
    refine W_top hs2 ?_
    refine lv_tableIn (off := 122) (tgt := 143) hx hb dX7_isBroken_21 (by decide) (by decide) (by decide) (by decide) ?_
    refine lv_aload_n hx hb dX7_isBroken_143 rfl (lv_at hl 2 rfl) ?_
    refine lv_iload_n hx hb dX7_isBroken_144 rfl (lv_at hl 1 rfl) ?_
    refine lv_iconst (v := 1) hx hb dX7_isBroken_145 (by decide) ?_
    obtain ⟨r21, hc22, h⟩ := Option.bind_eq_some_iff.mp h
    refine ecV (As := [.int ((8 * a1) + a2), .int 1]) (rest := []) ⟨hx, hb, hml, hown, hts⟩ (e_X7_isNear l D K ad hap0 ((8 * a1) + a2) 1 I G A L r21 hc22) (cwV 2 hts gX7_isBroken_X7_isNear rfl rfl rfl (by decide +kernel) ⟨Nat.le_of_ble_eq_true rfl, Nat.le_of_ble_eq_true rfl⟩) hK hP hS (by decide) (show kd 318 = 7 by decide) (by decide) rfl rfl rfl hl.1 (Nat.le_of_ble_eq_true rfl) (Nat.le_of_ble_eq_true rfl) (Nat.le_of_ble_eq_true rfl) dX7_isBroken_146 (fun H locs hP hS => ?_) rfl
    have hP : va_P D vwCl (VW K ad I G A L) H := hP
    obtain ⟨hz23, h⟩ := gk h
    exact W.zret (v := r21) hx hb hr (nar01 hz23) (fun t9 ht9 hW9 => ⟨⟨r21, (I, G, A, L), rfl, by cases h; exact ⟨rfl, rfl⟩, by rw [ht9]; exact hP, va_K.moved hW9.alike hK⟩, hS.F ht9⟩) hS.2.2 dX7_isBroken_149
  · have h := iN (by rw [hs2]; decide) h
    have h := iN (by rw [hs2]; decide) h
    have h := iN (by rw [hs2]; decide) h
    have h := iN (by rw [hs2]; decide) h
    have h := iN (by rw [hs2]; decide) h
    have h := iN (by rw [hs2]; decide) h
    have h := ip hs2 h
    refine W_top hs2 ?_
    refine lv_tableIn (off := 129) (tgt := 150) hx hb dX7_isBroken_21 (by decide) (by decide) (by decide) (by decide) ?_
    refine lv_aload_n hx hb dX7_isBroken_150 rfl (lv_at hl 2 rfl) ?_
    refine lv_iload_n hx hb dX7_isBroken_151 rfl (lv_at hl 1 rfl) ?_
    obtain ⟨r24, hc25, h⟩ := Option.bind_eq_some_iff.mp h
    refine ecV (As := [.int ((8 * a1) + a2)]) (rest := []) ⟨hx, hb, hml, hown, hts⟩ (e_X7_isFalling l D K ad hap0 ((8 * a1) + a2) I G A L r24 hc25) (cwV 1 hts gX7_isBroken_X7_isFalling rfl rfl rfl (by decide +kernel) ⟨Nat.le_of_ble_eq_true rfl, Nat.le_of_ble_eq_true rfl⟩) hK hP hS (by decide) (show kd 318 = 7 by decide) (by decide) rfl rfl rfl hl.1 (Nat.le_of_ble_eq_true rfl) (Nat.le_of_ble_eq_true rfl) (Nat.le_of_ble_eq_true rfl) dX7_isBroken_152 (fun H locs hP hS => ?_) rfl
    have hP : va_P D vwCl (VW K ad I G A L) H := hP
    obtain ⟨hz26, h⟩ := gk h
    exact W.zret (v := r24) hx hb hr (nar01 hz26) (fun t9 ht9 hW9 => ⟨⟨r24, (I, G, A, L), rfl, by cases h; exact ⟨rfl, rfl⟩, by rw [ht9]; exact hP, va_K.moved hW9.alike hK⟩, hS.F ht9⟩) hS.2.2 dX7_isBroken_155
  · have h := iN (fun q => by rw [q] at hs2; exact absurd hs2 (by decide)) h
    have h := iN (fun q => by rw [q] at hs2; exact absurd hs2 (by decide)) h
    have h := iN (fun q => by rw [q] at hs2; exact absurd hs2 (by decide)) h
    have h := iN (fun q => by rw [q] at hs2; exact absurd hs2 (by decide)) h
    have h := iN (fun q => by rw [q] at hs2; exact absurd hs2 (by decide)) h
    have h := iN (fun q => by rw [q] at hs2; exact absurd hs2 (by decide)) h
    have h := iN (fun q => by rw [q] at hs2; exact absurd hs2 (by decide)) h
    refine lv_tableOut (tgt := 156) hx hb dX7_isBroken_21 hs2 (by decide) ?_
    refine lv_iconst (v := 0) hx hb dX7_isBroken_156 (by decide) ?_
    refine lv_istore (lv' := [(5, .int 0), (4, .int (A 325 (((8 * a1) + a2).toNatClampNeg))), (3, .int ((8 * a1) + a2)), (0, .ref (ad 318)), (1, .int a1), (2, .int a2)]) hx hb dX7_isBroken_157 hl (by decide) rfl (fun ls hl => ?_)
    refine lv_iconst (v := 0) hx hb dX7_isBroken_159 (by decide) ?_
    refine lv_istore (lv' := [(6, .int 0), (5, .int 0), (4, .int (A 325 (((8 * a1) + a2).toNatClampNeg))), (3, .int ((8 * a1) + a2)), (0, .ref (ad 318)), (1, .int a1), (2, .int a2)]) hx hb dX7_isBroken_160 hl (by decide) rfl (fun ls hl => ?_)
    obtain ⟨k32, ek32, h⟩ := bd_e h
    have kk32 : ∀ (v33 : Int32) (v34 : Int32), k32 v33 v34 = some r0 → ∀ (H : Heap) (locs : List Loc), va_P D vwCl (VW K ad I G A L) H → va_S (vF ad s.heap.size) s.heap H locs → ∀ (ls : Array Slot), lv_has ls 8 [(4, .int v33), (5, .int v34)] → W p l e ({ frames := 1, cells := 0, slots := 0, locals := 31 }) s m ([.ref (ad 318), .int a1, .int a2] : List Value).toArray below meth c H locs 0 0 (MQ below (va_Qi (fun (r : Int32) (u : Mem) => r = r0 ∧ u = (I, G, A, L)) (vB D K ad) (vF ad s.heap.size)) ([.ref (ad 318), .int a1, .int a2] : List Value).toArray s 0 0 (vF ad s.heap.size)) (F0 m 232 ls []) := by
      intro v33 v34 h H locs hP hS ls hl
      subst ek32
      refine lv_iload hx hb dX7_isBroken_232 (lv_at hl 1 rfl) ?_
      refine lv_iload hx hb dX7_isBroken_234 (lv_at hl 0 rfl) ?_
      refine lv_icmp_ge (tgt := 243) hx hb dX7_isBroken_236 (by decide) (fun c_35 => ?_) (fun c_35 => ?_)
      · have h := iN (Int32.not_lt.mpr c_35) h
        refine lv_iconst (v := 0) hx hb dX7_isBroken_243 (by decide) ?_
        exact W.zret (v := 0) hx hb hr (by decide) (fun t9 ht9 hW9 => ⟨⟨0, (I, G, A, L), rfl, by cases h; exact ⟨rfl, rfl⟩, by rw [ht9]; exact hP, va_K.moved hW9.alike hK⟩, hS.F ht9⟩) hS.2.2 dX7_isBroken_244
      · have h := ip (Int32.not_le.mp c_35) h
        refine lv_iconst (v := 1) hx hb dX7_isBroken_239 (by decide) ?_
        refine lv_goto (tgt := 244) hx hb dX7_isBroken_240 (by decide) ?_
        exact W.zret (v := 1) hx hb hr (by decide) (fun t9 ht9 hW9 => ⟨⟨1, (I, G, A, L), rfl, by cases h; exact ⟨rfl, rfl⟩, by rw [ht9]; exact hP, va_K.moved hW9.alike hK⟩, hS.F ht9⟩) hS.2.2 dX7_isBroken_244
    have lp27 : ∀ (n : Nat) (v28 : Int32) (v29 : Int32) (v30 : Int32) (v31 : Int32), f_X7_isBroken_L162 A k32 n v28 v29 v30 v31 = some r0 → ∀ (H : Heap) (locs : List Loc), va_P D vwCl (VW K ad I G A L) H → va_S (vF ad s.heap.size) s.heap H locs → ∀ (ls : Array Slot), lv_has ls 8 [(6, .int v28), (5, .int v29), (4, .int v30), (3, .int v31), (0, .ref (ad 318))] → W p l e ({ frames := 1, cells := 0, slots := 0, locals := 31 }) s m ([.ref (ad 318), .int a1, .int a2] : List Value).toArray below meth c H locs 0 0 (MQ below (va_Qi (fun (r : Int32) (u : Mem) => r = r0 ∧ u = (I, G, A, L)) (vB D K ad) (vF ad s.heap.size)) ([.ref (ad 318), .int a1, .int a2] : List Value).toArray s 0 0 (vF ad s.heap.size)) (F0 m 162 ls []) := by
      intro n
      induction n with
      | zero => intro v28 v29 v30 v31 h; exact absurd h (by rw [f_X7_isBroken_L162]; exact nofun)
      | succ n ih27 =>
        intro v28 v29 v30 v31 h H locs hP hS ls hl
        rw [f_X7_isBroken_L162] at h
        refine lv_iload hx hb dX7_isBroken_162 (lv_at hl 0 rfl) ?_
        refine lv_aload_n hx hb dX7_isBroken_164 rfl (lv_at hl 4 rfl) ?_
        refine vgC hx hb hts hi7 hown hK hP (318) (by decide) (show kd 318 = 7 by decide) (C := RX7) (T := TX7) (N := 79) rfl 10 (by decide) (by decide) (by decide) (by decide) (326) rfl (hts (.fieldLink RX7 31 "CrateHelpersModel" "parts" "[I") (by decide +kernel)) (fun _ h9 => h9) dX7_isBroken_165 ?_
        refine lv_iload_n hx hb dX7_isBroken_168 rfl (lv_at hl 3 rfl) ?_
        obtain ⟨hn36, h⟩ := gk h
        refine xiald hx hb hK hP (326) (by decide) (show kd 326 = 8 by decide) (by rw [show ln 326 = 40 by decide]; exact hn36) dX7_isBroken_169 ?_
        refine lv_icmp_ge (tgt := 232) hx hb dX7_isBroken_170 (by decide) (fun c_37 => ?_) (fun c_37 => ?_)
        · have h := iN (Int32.not_lt.mpr c_37) h
          exact kk32 v30 v29 h _ _ hP hS ls (lv_sub hl [2, 1] rfl)
        · have h := ip (Int32.not_le.mp c_37) h
          refine lv_aload_n hx hb dX7_isBroken_173 rfl (lv_at hl 4 rfl) ?_
          refine vgC hx hb hts hi7 hown hK hP (318) (by decide) (show kd 318 = 7 by decide) (C := RX7) (T := TX7) (N := 79) rfl 63 (by decide) (by decide) (by decide) (by decide) (364) rfl (hts (.fieldLink RX7 159 "CrateHelpersModel" "now" "[I") (by decide +kernel)) (fun _ h9 => h9) dX7_isBroken_174 ?_
          refine lv_aload_n hx hb dX7_isBroken_177 rfl (lv_at hl 4 rfl) ?_
          refine vgC hx hb hts hi7 hown hK hP (318) (by decide) (show kd 318 = 7 by decide) (C := RX7) (T := TX7) (N := 79) rfl 11 (by decide) (by decide) (by decide) (by decide) (327) rfl (hts (.fieldLink RX7 34 "CrateHelpersModel" "partOf" "[I") (by decide +kernel)) (fun _ h9 => h9) dX7_isBroken_178 ?_
          refine lv_bipush (v := 6) hx hb dX7_isBroken_181 (by decide) ?_
          refine lv_iload_n hx hb dX7_isBroken_183 rfl (lv_at hl 3 rfl) ?_
          refine lv_imul hx hb dX7_isBroken_184 ?_
          refine lv_iload hx hb dX7_isBroken_185 (lv_at hl 0 rfl) ?_
          refine lv_iadd hx hb dX7_isBroken_187 ?_
          obtain ⟨hn38, h⟩ := gk h
          refine xiald hx hb hK hP (327) (by decide) (show kd 327 = 8 by decide) (by rw [show ln 327 = 240 by decide]; exact hn38) dX7_isBroken_188 ?_
          obtain ⟨hn39, h⟩ := gk h
          refine xiald hx hb hK hP (364) (by decide) (show kd 364 = 8 by decide) (by rw [show ln 364 = 6 by decide]; exact hn39) dX7_isBroken_189 ?_
          refine lv_istore (lv' := [(7, .int (A 364 ((A 327 (((6 * v31) + v28).toNatClampNeg)).toNatClampNeg))), (6, .int v28), (5, .int v29), (4, .int v30), (3, .int v31), (0, .ref (ad 318))]) hx hb dX7_isBroken_190 hl (by decide) rfl (fun ls hl => ?_)
          refine lv_iload hx hb dX7_isBroken_192 (lv_at hl 2 rfl) ?_
          refine lv_iload hx hb dX7_isBroken_194 (lv_at hl 0 rfl) ?_
          refine lv_bipush (v := (-9)) hx hb dX7_isBroken_196 (by decide) ?_
          refine lv_icmp_eq (tgt := 218) hx hb dX7_isBroken_198 (by decide) (fun c_40 => ?_) (fun c_40 => ?_)
          · have h := ip c_40 h
            refine lv_iconst (v := 1) hx hb dX7_isBroken_218 (by decide) ?_
            refine lv_goto (tgt := 223) hx hb dX7_isBroken_219 (by decide) ?_
            refine lv_iadd hx hb dX7_isBroken_223 ?_
            refine lv_istore (lv' := [(5, .int (v29 + 1)), (7, .int (A 364 ((A 327 (((6 * v31) + v28).toNatClampNeg)).toNatClampNeg))), (6, .int v28), (4, .int v30), (3, .int v31), (0, .ref (ad 318))]) hx hb dX7_isBroken_224 hl (by decide) rfl (fun ls hl => ?_)
            refine lv_iinc (v := (v28 + 1)) (lv' := [(6, .int (v28 + 1)), (5, .int (v29 + 1)), (7, .int (A 364 ((A 327 (((6 * v31) + v28).toNatClampNeg)).toNatClampNeg))), (4, .int v30), (3, .int v31), (0, .ref (ad 318))]) hx hb dX7_isBroken_226 hl (k := 2) rfl rfl (by decide) rfl (fun ls hl => ?_)
            refine lv_goto (tgt := 162) hx hb dX7_isBroken_229 (by decide) ?_
            exact ih27 (v28 + 1) (v29 + 1) v30 v31 h _ _ hP hS ls (lv_sub hl [0, 1, 3, 4, 5] rfl)
          · have h := iN c_40 h
            refine lv_iload hx hb dX7_isBroken_201 (lv_at hl 0 rfl) ?_
            refine lv_aload_n hx hb dX7_isBroken_203 rfl (lv_at hl 5 rfl) ?_
            refine vgC hx hb hts hi7 hown hK hP (318) (by decide) (show kd 318 = 7 by decide) (C := RX7) (T := TX7) (N := 79) rfl 12 (by decide) (by decide) (by decide) (by decide) (328) rfl (hts (.fieldLink RX7 37 "CrateHelpersModel" "weight" "[I") (by decide +kernel)) (fun _ h9 => h9) dX7_isBroken_204 ?_
            refine lv_bipush (v := 6) hx hb dX7_isBroken_207 (by decide) ?_
            refine lv_iload_n hx hb dX7_isBroken_209 rfl (lv_at hl 4 rfl) ?_
            refine lv_imul hx hb dX7_isBroken_210 ?_
            refine lv_iload hx hb dX7_isBroken_211 (lv_at hl 1 rfl) ?_
            refine lv_iadd hx hb dX7_isBroken_213 ?_
            refine xiald hx hb hK hP (328) (by decide) (show kd 328 = 8 by decide) (by rw [show ln 328 = 240 by decide]; exact hn38) dX7_isBroken_214 ?_
            refine lv_icmp_ne (tgt := 222) hx hb dX7_isBroken_215 (by decide) (fun c_41 => ?_) (fun c_41 => ?_)
            · have h := iN c_41 h
              refine lv_iconst (v := 0) hx hb dX7_isBroken_222 (by decide) ?_
              refine lv_iadd hx hb dX7_isBroken_223 ?_
              refine lv_istore (lv' := [(5, .int (v29 + 0)), (7, .int (A 364 ((A 327 (((6 * v31) + v28).toNatClampNeg)).toNatClampNeg))), (6, .int v28), (4, .int v30), (3, .int v31), (0, .ref (ad 318))]) hx hb dX7_isBroken_224 hl (by decide) rfl (fun ls hl => ?_)
              refine lv_iinc (v := (v28 + 1)) (lv' := [(6, .int (v28 + 1)), (5, .int (v29 + 0)), (7, .int (A 364 ((A 327 (((6 * v31) + v28).toNatClampNeg)).toNatClampNeg))), (4, .int v30), (3, .int v31), (0, .ref (ad 318))]) hx hb dX7_isBroken_226 hl (k := 2) rfl rfl (by decide) rfl (fun ls hl => ?_)
              refine lv_goto (tgt := 162) hx hb dX7_isBroken_229 (by decide) ?_
              exact ih27 (v28 + 1) (v29 + 0) v30 v31 h _ _ hP hS ls (lv_sub hl [0, 1, 3, 4, 5] rfl)
            · have h := ip c_41 h
              refine lv_iconst (v := 1) hx hb dX7_isBroken_218 (by decide) ?_
              refine lv_goto (tgt := 223) hx hb dX7_isBroken_219 (by decide) ?_
              refine lv_iadd hx hb dX7_isBroken_223 ?_
              refine lv_istore (lv' := [(5, .int (v29 + 1)), (7, .int (A 364 ((A 327 (((6 * v31) + v28).toNatClampNeg)).toNatClampNeg))), (6, .int v28), (4, .int v30), (3, .int v31), (0, .ref (ad 318))]) hx hb dX7_isBroken_224 hl (by decide) rfl (fun ls hl => ?_)
              refine lv_iinc (v := (v28 + 1)) (lv' := [(6, .int (v28 + 1)), (5, .int (v29 + 1)), (7, .int (A 364 ((A 327 (((6 * v31) + v28).toNatClampNeg)).toNatClampNeg))), (4, .int v30), (3, .int v31), (0, .ref (ad 318))]) hx hb dX7_isBroken_226 hl (k := 2) rfl rfl (by decide) rfl (fun ls hl => ?_)
              refine lv_goto (tgt := 162) hx hb dX7_isBroken_229 (by decide) ?_
              exact ih27 (v28 + 1) (v29 + 1) v30 v31 h _ _ hP hS ls (lv_sub hl [0, 1, 3, 4, 5] rfl)
    exact lp27 FU 0 0 (A 325 (((8 * a1) + a2).toNatClampNeg)) ((8 * a1) + a2) h _ _ hP hS ls (lv_sub hl [0, 1, 2, 3, 4] rfl)
set_option maxHeartbeats 4000000 in
set_option maxRecDepth 100000 in
theorem e_X7_brokenBy (l : Launch) (D : va_G) (K : Nat → ClassId) (ad : Nat → Nat) (hap0 : apart ad (fun _ => True)) (a1 : Int32) (I : Nat → Nat → Int32) (G : Nat → Nat → Nat) (A : Nat → Nat → Int32) (L : Nat → Nat → Int64) (r0 : Int32) (h : f_X7_brokenBy A a1 = some r0) : Ci l D K ad yX7_brokenBy wsX7_brokenBy 2 61 [.ref (ad 318), .int a1] (I, G, A, L) (fun (r : Int32) (u : Mem) => r = r0 ∧ u = (I, G, A, L)) := by
  intro sz
  refine Met.ofW (cc := cX7_brokenBy) (maxL := 3) (ret := (some .int)) (by decide) rfl ?_
  intro p e s m args below meth c s₁ Bd hml hv0
  obtain ⟨rfl, hsz, hP, hK⟩ := hv0
  have hx := Bd.exec
  have hb := Bd.bytes
  have hr := Bd.returns
  have hts := atoms_spec (ws := wsX7_brokenBy) Bd.pre
  have hown : s.vm.findClass RX7 = some m.cls := findClass_of_methodNamed Bd.named
  have hlocks := Bd.notSynchronized
  have hi7 : ∀ w ∈ u_ws RX7 TX7 79, w ∈ wsX7_brokenBy := fun w h => List.mem_cons_of_mem _ (List.mem_append_right _ h)
  subst hsz
  have hap := vF_ap hap0 s.heap.size
  have hS : va_S (vF ad s.heap.size) s.heap s.heap [] := va_S.rf
  have hP : va_P D vwCl (VW K ad I G A L) s.heap := hP
  have hl := lv_entry ([.ref (ad 318), .int a1]) (n := 3) (Nat.le_of_ble_eq_true rfl)
  rw [lg_entry_eq]
  generalize (lg_sl ([.ref (ad 318), .int a1]) ++ List.replicate (3 - (lg_sl ([.ref (ad 318), .int a1])).length) Slot.unset).toArray = ls at hl ⊢
  have hl : lv_has ls 3 [(0, .ref (ad 318)), (1, .int a1)] := hl
  rw [f_X7_brokenBy] at h
  refine lv_iconst (v := 0) hx hb dX7_brokenBy_0 (by decide) ?_
  refine lv_istore_n (lv' := [(2, .int 0), (0, .ref (ad 318)), (1, .int a1)]) hx hb dX7_brokenBy_1 rfl hl (by decide) rfl (fun ls hl => ?_)
  obtain ⟨k3, ek3, h⟩ := bd_e h
  have kk3 : ∀ (v4 : Int32), k3 v4 = some r0 → ∀ (H : Heap) (locs : List Loc), va_P D vwCl (VW K ad I G A L) H → va_S (vF ad s.heap.size) s.heap H locs → ∀ (ls : Array Slot), lv_has ls 3 [(2, .int v4)] → W p l e ({ frames := 2, cells := 0, slots := 0, locals := 61 }) s m ([.ref (ad 318), .int a1] : List Value).toArray below meth c H locs 0 0 (MQ below (va_Qi (fun (r : Int32) (u : Mem) => r = r0 ∧ u = (I, G, A, L)) (vB D K ad) (vF ad s.heap.size)) ([.ref (ad 318), .int a1] : List Value).toArray s 0 0 (vF ad s.heap.size)) (F0 m 21 ls []) := by
    intro v4 h H locs hP hS ls hl
    subst ek3
    refine lv_iload_n hx hb dX7_brokenBy_21 rfl (lv_at hl 0 rfl) ?_
    exact W.iret (v := v4) hx hb hr (fun t9 ht9 hW9 => ⟨⟨v4, (I, G, A, L), rfl, by cases h; exact ⟨rfl, rfl⟩, by rw [ht9]; exact hP, va_K.moved hW9.alike hK⟩, hS.F ht9⟩) hS.2.2 dX7_brokenBy_22
  obtain ⟨k5, ek5, h⟩ := bd_e h
  have kk5 : ∀ (_ : Unit), k5 () = some r0 → ∀ (H : Heap) (locs : List Loc), va_P D vwCl (VW K ad I G A L) H → va_S (vF ad s.heap.size) s.heap H locs → ∀ (ls : Array Slot), lv_has ls 3 [] → W p l e ({ frames := 2, cells := 0, slots := 0, locals := 61 }) s m ([.ref (ad 318), .int a1] : List Value).toArray below meth c H locs 0 0 (MQ below (va_Qi (fun (r : Int32) (u : Mem) => r = r0 ∧ u = (I, G, A, L)) (vB D K ad) (vF ad s.heap.size)) ([.ref (ad 318), .int a1] : List Value).toArray s 0 0 (vF ad s.heap.size)) (F0 m 29 ls []) := by
    intro _ h H locs hP hS ls hl
    subst ek5
    refine lv_bipush (v := (-9)) hx hb dX7_brokenBy_29 (by decide) ?_
    exact W.iret (v := (-9)) hx hb hr (fun t9 ht9 hW9 => ⟨⟨(-9), (I, G, A, L), rfl, by cases h; exact ⟨rfl, rfl⟩, by rw [ht9]; exact hP, va_K.moved hW9.alike hK⟩, hS.F ht9⟩) hS.2.2 dX7_brokenBy_31
  have lp1 : ∀ (n : Nat) (v2 : Int32), f_X7_brokenBy_L2 a1 A k3 k5 n v2 = some r0 → ∀ (H : Heap) (locs : List Loc), va_P D vwCl (VW K ad I G A L) H → va_S (vF ad s.heap.size) s.heap H locs → ∀ (ls : Array Slot), lv_has ls 3 [(2, .int v2), (0, .ref (ad 318)), (1, .int a1)] → W p l e ({ frames := 2, cells := 0, slots := 0, locals := 61 }) s m ([.ref (ad 318), .int a1] : List Value).toArray below meth c H locs 0 0 (MQ below (va_Qi (fun (r : Int32) (u : Mem) => r = r0 ∧ u = (I, G, A, L)) (vB D K ad) (vF ad s.heap.size)) ([.ref (ad 318), .int a1] : List Value).toArray s 0 0 (vF ad s.heap.size)) (F0 m 2 ls []) := by
    intro n
    induction n with
    | zero => intro v2 h; exact absurd h (by rw [f_X7_brokenBy_L2]; exact nofun)
    | succ n ih1 =>
      intro v2 h H locs hP hS ls hl
      rw [f_X7_brokenBy_L2] at h
      refine lv_iload_n hx hb dX7_brokenBy_2 rfl (lv_at hl 0 rfl) ?_
      refine lv_aload_n hx hb dX7_brokenBy_3 rfl (lv_at hl 1 rfl) ?_
      refine vgC hx hb hts hi7 hown hK hP (318) (by decide) (show kd 318 = 7 by decide) (C := RX7) (T := TX7) (N := 79) rfl 4 (by decide) (by decide) (by decide) (by decide) (320) rfl (hts (.fieldLink RX7 13 "CrateHelpersModel" "rules" "[I") (by decide +kernel)) (fun _ h9 => h9) dX7_brokenBy_4 ?_
      refine lv_iload_n hx hb dX7_brokenBy_7 rfl (lv_at hl 2 rfl) ?_
      obtain ⟨hn6, h⟩ := gk h
      refine xiald hx hb hK hP (320) (by decide) (show kd 320 = 8 by decide) (by rw [show ln 320 = 5 by decide]; exact hn6) dX7_brokenBy_8 ?_
      refine lv_icmp_ge (tgt := 29) hx hb dX7_brokenBy_9 (by decide) (fun c_7 => ?_) (fun c_7 => ?_)
      · have h := iN (Int32.not_lt.mpr c_7) h
        exact kk5 () h _ _ hP hS ls (lv_sub hl [] rfl)
      · have h := ip (Int32.not_le.mp c_7) h
        refine lv_aload_n hx hb dX7_brokenBy_12 rfl (lv_at hl 1 rfl) ?_
        refine lv_iload_n hx hb dX7_brokenBy_13 rfl (lv_at hl 2 rfl) ?_
        refine lv_iload_n hx hb dX7_brokenBy_14 rfl (lv_at hl 0 rfl) ?_
        obtain ⟨r8, hc9, h⟩ := Option.bind_eq_some_iff.mp h
        refine ecV (As := [.int a1, .int v2]) (rest := []) ⟨hx, hb, hml, hown, hts⟩ (e_X7_isBroken l D K ad hap0 a1 v2 I G A L r8 hc9) (cwV 2 hts gX7_brokenBy_X7_isBroken rfl rfl rfl (by decide +kernel) ⟨Nat.le_of_ble_eq_true rfl, Nat.le_of_ble_eq_true rfl⟩) hK hP hS (by decide) (show kd 318 = 7 by decide) (by decide) rfl rfl rfl hl.1 (Nat.le_of_ble_eq_true rfl) (Nat.le_of_ble_eq_true rfl) (Nat.le_of_ble_eq_true rfl) dX7_brokenBy_15 (fun H locs hP hS => ?_) rfl
        have hP : va_P D vwCl (VW K ad I G A L) H := hP
        refine lv_if_eq (tgt := 23) hx hb dX7_brokenBy_18 (by decide) (fun c_10 => ?_) (fun c_10 => ?_)
        · have h := ip c_10 h
          refine lv_iinc (v := (v2 + 1)) (lv' := [(2, .int (v2 + 1)), (0, .ref (ad 318)), (1, .int a1)]) hx hb dX7_brokenBy_23 hl (k := 0) rfl rfl (by decide) rfl (fun ls hl => ?_)
          refine lv_goto (tgt := 2) hx hb dX7_brokenBy_26 (by decide) ?_
          exact ih1 (v2 + 1) h _ _ hP hS ls (lv_sub hl [0, 1, 2] rfl)
        · have h := iN c_10 h
          exact kk3 v2 h _ _ hP hS ls (lv_sub hl [0] rfl)
  exact lp1 FU 0 h _ _ hP hS ls (lv_sub hl [0, 1, 2] rfl)
