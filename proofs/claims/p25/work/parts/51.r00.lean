set_option maxHeartbeats 4000000 in
set_option maxRecDepth 100000 in
theorem e_X7_in (l : Launch) (D : va_G) (K : Nat → ClassId) (ad : Nat → Nat) (hap0 : apart ad (fun _ => True)) (a0 : Int32) (a1 : Int32) (a2 : Int32) (I : Nat → Nat → Int32) (G : Nat → Nat → Nat) (A : Nat → Nat → Int32) (L : Nat → Nat → Int64) (r0 : Int32) (h : f_X7_in a0 a1 a2 = some r0) : Ci l D K ad yX7_in wsX7_in 0 0 [.int a0, .int a1, .int a2] (I, G, A, L) (fun (r : Int32) (u : Mem) => r = r0 ∧ u = (I, G, A, L)) := by
  intro sz
  refine Met.ofW (cc := cX7_in) (maxL := 3) (ret := (some .boolean)) (by decide) rfl ?_
  intro p e s m args below meth c s₁ Bd hml hv0
  obtain ⟨rfl, hsz, hP, hK⟩ := hv0
  have hx := Bd.exec
  have hb := Bd.bytes
  have hr := Bd.returns
  have hts := atoms_spec (ws := wsX7_in) Bd.pre
  have hown : s.vm.findClass RX7 = some m.cls := findClass_of_methodNamed Bd.named
  have hlocks := Bd.notSynchronized
  subst hsz
  have hap := vF_ap hap0 s.heap.size
  have hS : va_S (vF ad s.heap.size) s.heap s.heap [] := va_S.rf
  have hP : va_P D vwCl (VW K ad I G A L) s.heap := hP
  have hl := lv_entry ([.int a0, .int a1, .int a2]) (n := 3) (Nat.le_of_ble_eq_true rfl)
  rw [lg_entry_eq]
  generalize (lg_sl ([.int a0, .int a1, .int a2]) ++ List.replicate (3 - (lg_sl ([.int a0, .int a1, .int a2])).length) Slot.unset).toArray = ls at hl ⊢
  have hl : lv_has ls 3 [(0, .int a0), (1, .int a1), (2, .int a2)] := hl
  rw [f_X7_in] at h
  refine lv_iload_n hx hb dX7_in_0 rfl (lv_at hl 0 rfl) ?_
  refine lv_iload_n hx hb dX7_in_1 rfl (lv_at hl 1 rfl) ?_
  refine lv_icmp_lt (tgt := 14) hx hb dX7_in_2 (by decide) (fun c_1 => ?_) (fun c_1 => ?_)
  · have h := ip c_1 h
    refine lv_iconst (v := 0) hx hb dX7_in_14 (by decide) ?_
    exact W.zret (v := 0) hx hb hr (by decide) (fun t9 ht9 hW9 => ⟨⟨0, (I, G, A, L), rfl, by cases h; exact ⟨rfl, rfl⟩, by rw [ht9]; exact hP, va_K.moved hW9.alike hK⟩, hS.F ht9⟩) hS.2.2 dX7_in_15
  · have h := iN c_1 h
    refine lv_iload_n hx hb dX7_in_5 rfl (lv_at hl 0 rfl) ?_
    refine lv_iload_n hx hb dX7_in_6 rfl (lv_at hl 2 rfl) ?_
    refine lv_icmp_gt (tgt := 14) hx hb dX7_in_7 (by decide) (fun c_2 => ?_) (fun c_2 => ?_)
    · have h := ip c_2 h
      refine lv_iconst (v := 0) hx hb dX7_in_14 (by decide) ?_
      exact W.zret (v := 0) hx hb hr (by decide) (fun t9 ht9 hW9 => ⟨⟨0, (I, G, A, L), rfl, by cases h; exact ⟨rfl, rfl⟩, by rw [ht9]; exact hP, va_K.moved hW9.alike hK⟩, hS.F ht9⟩) hS.2.2 dX7_in_15
    · have h := iN c_2 h
      refine lv_iconst (v := 1) hx hb dX7_in_10 (by decide) ?_
      refine lv_goto (tgt := 15) hx hb dX7_in_11 (by decide) ?_
      exact W.zret (v := 1) hx hb hr (by decide) (fun t9 ht9 hW9 => ⟨⟨1, (I, G, A, L), rfl, by cases h; exact ⟨rfl, rfl⟩, by rw [ht9]; exact hP, va_K.moved hW9.alike hK⟩, hS.F ht9⟩) hS.2.2 dX7_in_15
set_option maxHeartbeats 4000000 in
set_option maxRecDepth 100000 in
theorem e_X7_isProblem (l : Launch) (D : va_G) (K : Nat → ClassId) (ad : Nat → Nat) (hap0 : apart ad (fun _ => True)) (a1 : Int32) (I : Nat → Nat → Int32) (G : Nat → Nat → Nat) (A : Nat → Nat → Int32) (L : Nat → Nat → Int64) (r0 : Int32) (h : f_X7_isProblem I a1 = some r0) : Ci l D K ad yX7_isProblem wsX7_isProblem 1 25 [.ref (ad 318), .int a1] (I, G, A, L) (fun (r : Int32) (u : Mem) => r = r0 ∧ u = (I, G, A, L)) := by
  intro sz
  refine Met.ofW (cc := cX7_isProblem) (maxL := 2) (ret := (some .boolean)) (by decide) rfl ?_
  intro p e s m args below meth c s₁ Bd hml hv0
  obtain ⟨rfl, hsz, hP, hK⟩ := hv0
  have hx := Bd.exec
  have hb := Bd.bytes
  have hr := Bd.returns
  have hts := atoms_spec (ws := wsX7_isProblem) Bd.pre
  have hown : s.vm.findClass RX7 = some m.cls := findClass_of_methodNamed Bd.named
  have hlocks := Bd.notSynchronized
  have hi7 : ∀ w ∈ u_ws RX7 TX7 79, w ∈ wsX7_isProblem := fun w h => List.mem_cons_of_mem _ (List.mem_append_right _ h)
  subst hsz
  have hap := vF_ap hap0 s.heap.size
  have hS : va_S (vF ad s.heap.size) s.heap s.heap [] := va_S.rf
  have hP : va_P D vwCl (VW K ad I G A L) s.heap := hP
  have hl := lv_entry ([.ref (ad 318), .int a1]) (n := 2) (Nat.le_of_ble_eq_true rfl)
  rw [lg_entry_eq]
  generalize (lg_sl ([.ref (ad 318), .int a1]) ++ List.replicate (2 - (lg_sl ([.ref (ad 318), .int a1])).length) Slot.unset).toArray = ls at hl ⊢
  have hl : lv_has ls 2 [(0, .ref (ad 318)), (1, .int a1)] := hl
  rw [f_X7_isProblem] at h
  refine lv_iload_n hx hb dX7_isProblem_0 rfl (lv_at hl 1 rfl) ?_
  refine lv_iconst (v := 0) hx hb dX7_isProblem_1 (by decide) ?_
  refine lv_aload_n hx hb dX7_isProblem_2 rfl (lv_at hl 0 rfl) ?_
  refine vgI hx hb hts hi7 hown hK hP (318) (by decide) (show kd 318 = 7 by decide) (C := RX7) (T := TX7) (N := 79) rfl 2 (by decide) (by decide) (by decide) (by decide) (hts (.fieldLink RX7 204 "CrateHelpersModel" "problems" "I") (by decide +kernel)) (fun _ h9 => h9) dX7_isProblem_3 ?_
  refine lv_iconst (v := 1) hx hb dX7_isProblem_6 (by decide) ?_
  refine lv_isub hx hb dX7_isProblem_7 ?_
  obtain ⟨r1, hc2, h⟩ := Option.bind_eq_some_iff.mp h
  refine ecS (As := [.int a1, .int 0, .int ((I 318 2) - 1)]) (rest := []) ⟨hx, hb, hml, hown, hts⟩ (e_X7_in l D K ad hap0 a1 0 ((I 318 2) - 1) I G A L r1 hc2) (va_cwS 3 hts gX7_isProblem_X7_in rfl rfl rfl (by decide +kernel) ⟨Nat.le_of_ble_eq_true rfl, Nat.le_of_ble_eq_true rfl⟩) hK hP hS rfl hl.1 (Nat.le_of_ble_eq_true rfl) (Nat.le_of_ble_eq_true rfl) (Nat.le_of_ble_eq_true rfl) dX7_isProblem_8 (fun H locs hP hS => ?_) rfl
  have hP : va_P D vwCl (VW K ad I G A L) H := hP
  obtain ⟨hz3, h⟩ := gk h
  exact W.zret (v := r1) hx hb hr (nar01 hz3) (fun t9 ht9 hW9 => ⟨⟨r1, (I, G, A, L), rfl, by cases h; exact ⟨rfl, rfl⟩, by rw [ht9]; exact hP, va_K.moved hW9.alike hK⟩, hS.F ht9⟩) hS.2.2 dX7_isProblem_11
set_option maxHeartbeats 4000000 in
set_option maxRecDepth 100000 in
theorem e_X7_isRule (l : Launch) (D : va_G) (K : Nat → ClassId) (ad : Nat → Nat) (hap0 : apart ad (fun _ => True)) (a1 : Int32) (a2 : Int32) (I : Nat → Nat → Int32) (G : Nat → Nat → Nat) (A : Nat → Nat → Int32) (L : Nat → Nat → Int64) (r0 : Int32) (h : f_X7_isRule I A a1 a2 = some r0) : Ci l D K ad yX7_isRule wsX7_isRule 2 49 [.ref (ad 318), .int a1, .int a2] (I, G, A, L) (fun (r : Int32) (u : Mem) => r = r0 ∧ u = (I, G, A, L)) := by
  intro sz
  refine Met.ofW (cc := cX7_isRule) (maxL := 3) (ret := (some .boolean)) (by decide) rfl ?_
  intro p e s m args below meth c s₁ Bd hml hv0
  obtain ⟨rfl, hsz, hP, hK⟩ := hv0
  have hx := Bd.exec
  have hb := Bd.bytes
  have hr := Bd.returns
  have hts := atoms_spec (ws := wsX7_isRule) Bd.pre
  have hown : s.vm.findClass RX7 = some m.cls := findClass_of_methodNamed Bd.named
  have hlocks := Bd.notSynchronized
  have hi7 : ∀ w ∈ u_ws RX7 TX7 79, w ∈ wsX7_isRule := fun w h => List.mem_cons_of_mem _ (List.mem_append_right _ h)
  subst hsz
  have hap := vF_ap hap0 s.heap.size
  have hS : va_S (vF ad s.heap.size) s.heap s.heap [] := va_S.rf
  have hP : va_P D vwCl (VW K ad I G A L) s.heap := hP
  have hl := lv_entry ([.ref (ad 318), .int a1, .int a2]) (n := 3) (Nat.le_of_ble_eq_true rfl)
  rw [lg_entry_eq]
  generalize (lg_sl ([.ref (ad 318), .int a1, .int a2]) ++ List.replicate (3 - (lg_sl ([.ref (ad 318), .int a1, .int a2])).length) Slot.unset).toArray = ls at hl ⊢
  have hl : lv_has ls 3 [(0, .ref (ad 318)), (1, .int a1), (2, .int a2)] := hl
  rw [f_X7_isRule] at h
  refine lv_aload_n hx hb dX7_isRule_0 rfl (lv_at hl 0 rfl) ?_
  refine lv_iload_n hx hb dX7_isRule_1 rfl (lv_at hl 1 rfl) ?_
  obtain ⟨r1, hc2, h⟩ := Option.bind_eq_some_iff.mp h
  refine ecV (As := [.int a1]) (rest := []) ⟨hx, hb, hml, hown, hts⟩ (e_X7_isProblem l D K ad hap0 a1 I G A L r1 hc2) (cwV 1 hts gX7_isRule_X7_isProblem rfl rfl rfl (by decide +kernel) ⟨Nat.le_of_ble_eq_true rfl, Nat.le_of_ble_eq_true rfl⟩) hK hP hS (by decide) (show kd 318 = 7 by decide) (by decide) rfl rfl rfl hl.1 (Nat.le_of_ble_eq_true rfl) (Nat.le_of_ble_eq_true rfl) (Nat.le_of_ble_eq_true rfl) dX7_isRule_2 (fun H locs hP hS => ?_) rfl
  have hP : va_P D vwCl (VW K ad I G A L) H := hP
  refine lv_if_eq (tgt := 28) hx hb dX7_isRule_5 (by decide) (fun c_3 => ?_) (fun c_3 => ?_)
  · have h := ip c_3 h
    refine lv_iconst (v := 0) hx hb dX7_isRule_28 (by decide) ?_
    exact W.zret (v := 0) hx hb hr (by decide) (fun t9 ht9 hW9 => ⟨⟨0, (I, G, A, L), rfl, by cases h; exact ⟨rfl, rfl⟩, by rw [ht9]; exact hP, va_K.moved hW9.alike hK⟩, hS.F ht9⟩) hS.2.2 dX7_isRule_29
  · have h := iN c_3 h
    refine lv_iload_n hx hb dX7_isRule_8 rfl (lv_at hl 2 rfl) ?_
    refine lv_iconst (v := 0) hx hb dX7_isRule_9 (by decide) ?_
    refine lv_aload_n hx hb dX7_isRule_10 rfl (lv_at hl 0 rfl) ?_
    refine vgC hx hb hts hi7 hown hK hP (318) (by decide) (show kd 318 = 7 by decide) (C := RX7) (T := TX7) (N := 79) rfl 4 (by decide) (by decide) (by decide) (by decide) (320) rfl (hts (.fieldLink RX7 13 "CrateHelpersModel" "rules" "[I") (by decide +kernel)) (fun _ h9 => h9) dX7_isRule_11 ?_
    refine lv_iload_n hx hb dX7_isRule_14 rfl (lv_at hl 1 rfl) ?_
    obtain ⟨hn4, h⟩ := gk h
    refine xiald hx hb hK hP (320) (by decide) (show kd 320 = 8 by decide) (by rw [show ln 320 = 5 by decide]; exact hn4) dX7_isRule_15 ?_
    refine lv_iconst (v := 1) hx hb dX7_isRule_16 (by decide) ?_
    refine lv_isub hx hb dX7_isRule_17 ?_
    obtain ⟨r5, hc6, h⟩ := Option.bind_eq_some_iff.mp h
    refine ecS (As := [.int a2, .int 0, .int ((A 320 a1.toNatClampNeg) - 1)]) (rest := []) ⟨hx, hb, hml, hown, hts⟩ (e_X7_in l D K ad hap0 a2 0 ((A 320 a1.toNatClampNeg) - 1) I G A L r5 hc6) (va_cwS 3 hts gX7_isRule_X7_in rfl rfl rfl (by decide +kernel) ⟨Nat.le_of_ble_eq_true rfl, Nat.le_of_ble_eq_true rfl⟩) hK hP hS rfl hl.1 (Nat.le_of_ble_eq_true rfl) (Nat.le_of_ble_eq_true rfl) (Nat.le_of_ble_eq_true rfl) dX7_isRule_18 (fun H locs hP hS => ?_) rfl
    have hP : va_P D vwCl (VW K ad I G A L) H := hP
    refine lv_if_eq (tgt := 28) hx hb dX7_isRule_21 (by decide) (fun c_7 => ?_) (fun c_7 => ?_)
    · have h := ip c_7 h
      refine lv_iconst (v := 0) hx hb dX7_isRule_28 (by decide) ?_
      exact W.zret (v := 0) hx hb hr (by decide) (fun t9 ht9 hW9 => ⟨⟨0, (I, G, A, L), rfl, by cases h; exact ⟨rfl, rfl⟩, by rw [ht9]; exact hP, va_K.moved hW9.alike hK⟩, hS.F ht9⟩) hS.2.2 dX7_isRule_29
    · have h := iN c_7 h
      refine lv_iconst (v := 1) hx hb dX7_isRule_24 (by decide) ?_
      refine lv_goto (tgt := 29) hx hb dX7_isRule_25 (by decide) ?_
      exact W.zret (v := 1) hx hb hr (by decide) (fun t9 ht9 hW9 => ⟨⟨1, (I, G, A, L), rfl, by cases h; exact ⟨rfl, rfl⟩, by rw [ht9]; exact hP, va_K.moved hW9.alike hK⟩, hS.F ht9⟩) hS.2.2 dX7_isRule_29
set_option maxHeartbeats 4000000 in
set_option maxRecDepth 100000 in
theorem e_X7_no (l : Launch) (D : va_G) (K : Nat → ClassId) (ad : Nat → Nat) (hap0 : apart ad (fun _ => True)) (a1 : Int32) (I : Nat → Nat → Int32) (G : Nat → Nat → Nat) (A : Nat → Nat → Int32) (L : Nat → Nat → Int64) (r0 : Int32) (I0 : Nat → Nat → Int32) (h : f_X7_no I a1 = some (r0, I0)) : Ci l D K ad yX7_no wsX7_no 0 0 [.ref (ad 318), .int a1] (I, G, A, L) (fun (r : Int32) (u : Mem) => r = r0 ∧ u = (I0, G, A, L)) := by
  intro sz
  refine Met.ofW (cc := cX7_no) (maxL := 2) (ret := (some .int)) (by decide) rfl ?_
  intro p e s m args below meth c s₁ Bd hml hv0
  obtain ⟨rfl, hsz, hP, hK⟩ := hv0
  have hx := Bd.exec
  have hb := Bd.bytes
  have hr := Bd.returns
  have hts := atoms_spec (ws := wsX7_no) Bd.pre
  have hown : s.vm.findClass RX7 = some m.cls := findClass_of_methodNamed Bd.named
  have hlocks := Bd.notSynchronized
  have hi7 : ∀ w ∈ u_ws RX7 TX7 79, w ∈ wsX7_no := fun w h => List.mem_cons_of_mem _ (List.mem_append_right _ h)
  subst hsz
  have hap := vF_ap hap0 s.heap.size
  have hS : va_S (vF ad s.heap.size) s.heap s.heap [] := va_S.rf
  have hP : va_P D vwCl (VW K ad I G A L) s.heap := hP
  have hl := lv_entry ([.ref (ad 318), .int a1]) (n := 2) (Nat.le_of_ble_eq_true rfl)
  rw [lg_entry_eq]
  generalize (lg_sl ([.ref (ad 318), .int a1]) ++ List.replicate (2 - (lg_sl ([.ref (ad 318), .int a1])).length) Slot.unset).toArray = ls at hl ⊢
  have hl : lv_has ls 2 [(0, .ref (ad 318)), (1, .int a1)] := hl
  rw [f_X7_no] at h
  refine lv_aload_n hx hb dX7_no_0 rfl (lv_at hl 0 rfl) ?_
  refine lv_iload_n hx hb dX7_no_1 rfl (lv_at hl 1 rfl) ?_
  refine vpI (v := a1) (ty := .int) hx hb hts hi7 tyX7 tyX7_ok nmX7 hown hK hP hap hS (318) (by decide) (show kd 318 = 7 by decide) (C := RX7) (T := TX7) (N := 79) rfl 1 (by decide) (by decide) (by decide) (by decide) (hts (.fieldLink RX7 221 "CrateHelpersModel" "status" "I") (by decide +kernel)) (fun _ h9 => h9) rfl (by decide +kernel) rfl rfl dX7_no_2 (fun H locs hP hS => ?_)
  obtain ⟨I1, eI1, h⟩ := bd_e h
  rw [← eI1] at hP
  have hP : va_P D vwCl (VW K ad I1 G A L) H := hP
  refine lv_ldc (v := (-1000000)) hx hb hown (hts (.constant RX7 224 (-1000000)) (by decide +kernel)) dX7_no_5 ?_
  exact W.iret (v := (-1000000)) hx hb hr (fun t9 ht9 hW9 => ⟨⟨(-1000000), (I1, G, A, L), rfl, by cases h; exact ⟨rfl, rfl⟩, by rw [ht9]; exact hP, va_K.moved hW9.alike hK⟩, hS.F ht9⟩) hS.2.2 dX7_no_7
set_option maxHeartbeats 4000000 in
set_option maxRecDepth 100000 in
theorem e_X7_about (l : Launch) (D : va_G) (K : Nat → ClassId) (ad : Nat → Nat) (hap0 : apart ad (fun _ => True)) (a1 : Int32) (a2 : Int32) (a3 : Int32) (I : Nat → Nat → Int32) (G : Nat → Nat → Nat) (A : Nat → Nat → Int32) (L : Nat → Nat → Int64) (r0 : Int32) (I0 : Nat → Nat → Int32) (h : f_X7_about I A a1 a2 a3 = some (r0, I0)) : Ci l D K ad yX7_about wsX7_about 3 74 [.ref (ad 318), .int a1, .int a2, .int a3] (I, G, A, L) (fun (r : Int32) (u : Mem) => r = r0 ∧ u = (I0, G, A, L)) := by
  intro sz
  refine Met.ofW (cc := cX7_about) (maxL := 4) (ret := (some .int)) (by decide) rfl ?_
  intro p e s m args below meth c s₁ Bd hml hv0
  obtain ⟨rfl, hsz, hP, hK⟩ := hv0
  have hx := Bd.exec
  have hb := Bd.bytes
  have hr := Bd.returns
  have hts := atoms_spec (ws := wsX7_about) Bd.pre
  have hown : s.vm.findClass RX7 = some m.cls := findClass_of_methodNamed Bd.named
  have hlocks := Bd.notSynchronized
  have hi7 : ∀ w ∈ u_ws RX7 TX7 79, w ∈ wsX7_about := fun w h => List.mem_cons_of_mem _ (List.mem_append_right _ h)
  subst hsz
  have hap := vF_ap hap0 s.heap.size
  have hS : va_S (vF ad s.heap.size) s.heap s.heap [] := va_S.rf
  have hP : va_P D vwCl (VW K ad I G A L) s.heap := hP
  have hl := lv_entry ([.ref (ad 318), .int a1, .int a2, .int a3]) (n := 4) (Nat.le_of_ble_eq_true rfl)
  rw [lg_entry_eq]
  generalize (lg_sl ([.ref (ad 318), .int a1, .int a2, .int a3]) ++ List.replicate (4 - (lg_sl ([.ref (ad 318), .int a1, .int a2, .int a3])).length) Slot.unset).toArray = ls at hl ⊢
  have hl : lv_has ls 4 [(0, .ref (ad 318)), (1, .int a1), (2, .int a2), (3, .int a3)] := hl
  rw [f_X7_about] at h
  refine lv_aload_n hx hb dX7_about_0 rfl (lv_at hl 0 rfl) ?_
  refine lv_iconst (v := 0) hx hb dX7_about_1 (by decide) ?_
  refine vpI (v := 0) (ty := .int) hx hb hts hi7 tyX7 tyX7_ok nmX7 hown hK hP hap hS (318) (by decide) (show kd 318 = 7 by decide) (C := RX7) (T := TX7) (N := 79) rfl 0 (by decide) (by decide) (by decide) (by decide) (hts (.fieldLink RX7 201 "CrateHelpersModel" "thrown" "I") (by decide +kernel)) (fun _ h9 => h9) rfl (by decide +kernel) rfl rfl dX7_about_2 (fun H locs hP hS => ?_)
  obtain ⟨I1, eI1, h⟩ := bd_e h
  rw [← eI1] at hP
  have hP : va_P D vwCl (VW K ad I1 G A L) H := hP
  refine lv_aload_n hx hb dX7_about_5 rfl (lv_at hl 0 rfl) ?_
  refine lv_iconst (v := 0) hx hb dX7_about_6 (by decide) ?_
  refine vpI (v := 0) (ty := .int) hx hb hts hi7 tyX7 tyX7_ok nmX7 hown hK hP hap hS (318) (by decide) (show kd 318 = 7 by decide) (C := RX7) (T := TX7) (N := 79) rfl 1 (by decide) (by decide) (by decide) (by decide) (hts (.fieldLink RX7 221 "CrateHelpersModel" "status" "I") (by decide +kernel)) (fun _ h9 => h9) rfl (by decide +kernel) rfl rfl dX7_about_7 (fun H locs hP hS => ?_)
  obtain ⟨I2, eI2, h⟩ := bd_e h
  rw [← eI2] at hP
  have hP : va_P D vwCl (VW K ad I2 G A L) H := hP
  refine lv_aload_n hx hb dX7_about_10 rfl (lv_at hl 0 rfl) ?_
  refine lv_iload_n hx hb dX7_about_11 rfl (lv_at hl 1 rfl) ?_
  obtain ⟨r3, hc4, h⟩ := Option.bind_eq_some_iff.mp h
  refine ecV (As := [.int a1]) (rest := []) ⟨hx, hb, hml, hown, hts⟩ (e_X7_isProblem l D K ad hap0 a1 I2 G A L r3 hc4) (cwV 1 hts gX7_about_X7_isProblem rfl rfl rfl (by decide +kernel) ⟨Nat.le_of_ble_eq_true rfl, Nat.le_of_ble_eq_true rfl⟩) hK hP hS (by decide) (show kd 318 = 7 by decide) (by decide) rfl rfl rfl hl.1 (Nat.le_of_ble_eq_true rfl) (Nat.le_of_ble_eq_true rfl) (Nat.le_of_ble_eq_true rfl) dX7_about_12 (fun H locs hP hS => ?_) rfl
  have hP : va_P D vwCl (VW K ad I2 G A L) H := hP
  refine lv_if_eq (tgt := 28) hx hb dX7_about_15 (by decide) (fun c_5 => ?_) (fun c_5 => ?_)
  · have h := ip c_5 h
    refine lv_aload_n hx hb dX7_about_28 rfl (lv_at hl 0 rfl) ?_
    refine lv_iconst (v := (-1)) hx hb dX7_about_29 (by decide) ?_
    obtain ⟨⟨r6, I7⟩, hc8, h⟩ := Option.bind_eq_some_iff.mp h
    refine ecV (As := [.int (-1)]) (rest := []) ⟨hx, hb, hml, hown, hts⟩ (e_X7_no l D K ad hap0 (-1) I2 G A L r6 I7 hc8) (cwV 1 hts gX7_about_X7_no rfl rfl rfl (by decide +kernel) ⟨Nat.le_of_ble_eq_true rfl, Nat.le_of_ble_eq_true rfl⟩) hK hP hS (by decide) (show kd 318 = 7 by decide) (by decide) rfl rfl rfl hl.1 (Nat.le_of_ble_eq_true rfl) (Nat.le_of_ble_eq_true rfl) (Nat.le_of_ble_eq_true rfl) dX7_about_30 (fun H locs hP hS => ?_) rfl
    have hP : va_P D vwCl (VW K ad I7 G A L) H := hP
    exact W.iret (v := r6) hx hb hr (fun t9 ht9 hW9 => ⟨⟨r6, (I7, G, A, L), rfl, by cases h; exact ⟨rfl, rfl⟩, by rw [ht9]; exact hP, va_K.moved hW9.alike hK⟩, hS.F ht9⟩) hS.2.2 dX7_about_33
  · have h := iN c_5 h
    refine lv_iload_n hx hb dX7_about_18 rfl (lv_at hl 2 rfl) ?_
    refine lv_iconst (v := 0) hx hb dX7_about_19 (by decide) ?_
    refine lv_bipush (v := 6) hx hb dX7_about_20 (by decide) ?_
    obtain ⟨r9, hc10, h⟩ := Option.bind_eq_some_iff.mp h
    refine ecS (As := [.int a2, .int 0, .int 6]) (rest := []) ⟨hx, hb, hml, hown, hts⟩ (e_X7_in l D K ad hap0 a2 0 6 I2 G A L r9 hc10) (va_cwS 3 hts gX7_about_X7_in rfl rfl rfl (by decide +kernel) ⟨Nat.le_of_ble_eq_true rfl, Nat.le_of_ble_eq_true rfl⟩) hK hP hS rfl hl.1 (Nat.le_of_ble_eq_true rfl) (Nat.le_of_ble_eq_true rfl) (Nat.le_of_ble_eq_true rfl) dX7_about_22 (fun H locs hP hS => ?_) rfl
    have hP : va_P D vwCl (VW K ad I2 G A L) H := hP
    refine lv_if_ne (tgt := 34) hx hb dX7_about_25 (by decide) (fun c_11 => ?_) (fun c_11 => ?_)
    · have h := iN c_11 h
      refine lv_iload_n hx hb dX7_about_34 rfl (lv_at hl 2 rfl) ?_
      refine lv_if_ne (tgt := 45) hx hb dX7_about_35 (by decide) (fun c_12 => ?_) (fun c_12 => ?_)
      · have h := iN c_12 h
        refine lv_iload_n hx hb dX7_about_45 rfl (lv_at hl 2 rfl) ?_
        refine lv_iconst (v := 1) hx hb dX7_about_46 (by decide) ?_
        refine lv_icmp_ne (tgt := 57) hx hb dX7_about_47 (by decide) (fun c_13 => ?_) (fun c_13 => ?_)
        · have h := iN c_13 h
          refine lv_iload_n hx hb dX7_about_57 rfl (lv_at hl 2 rfl) ?_
          refine lv_iconst (v := 5) hx hb dX7_about_58 (by decide) ?_
          refine lv_icmp_ge (tgt := 129) hx hb dX7_about_59 (by decide) (fun c_14 => ?_) (fun c_14 => ?_)
          · have h := iN (Int32.not_lt.mpr c_14) h
            refine lv_iload_n hx hb dX7_about_129 rfl (lv_at hl 3 rfl) ?_
            refine lv_iconst (v := 0) hx hb dX7_about_130 (by decide) ?_
            refine lv_aload_n hx hb dX7_about_131 rfl (lv_at hl 0 rfl) ?_
            refine vgC hx hb hts hi7 hown hK hP (318) (by decide) (show kd 318 = 7 by decide) (C := RX7) (T := TX7) (N := 79) rfl 3 (by decide) (by decide) (by decide) (by decide) (319) rfl (hts (.fieldLink RX7 7 "CrateHelpersModel" "variables" "[I") (by decide +kernel)) (fun _ h9 => h9) dX7_about_132 ?_
            refine lv_iload_n hx hb dX7_about_135 rfl (lv_at hl 1 rfl) ?_
            obtain ⟨hn15, h⟩ := gk h
            refine xiald hx hb hK hP (319) (by decide) (show kd 319 = 8 by decide) (by rw [show ln 319 = 5 by decide]; exact hn15) dX7_about_136 ?_
            refine lv_iconst (v := 1) hx hb dX7_about_137 (by decide) ?_
            refine lv_isub hx hb dX7_about_138 ?_
            obtain ⟨r16, hc17, h⟩ := Option.bind_eq_some_iff.mp h
            refine ecS (As := [.int a3, .int 0, .int ((A 319 a1.toNatClampNeg) - 1)]) (rest := []) ⟨hx, hb, hml, hown, hts⟩ (e_X7_in l D K ad hap0 a3 0 ((A 319 a1.toNatClampNeg) - 1) I2 G A L r16 hc17) (va_cwS 3 hts gX7_about_X7_in rfl rfl rfl (by decide +kernel) ⟨Nat.le_of_ble_eq_true rfl, Nat.le_of_ble_eq_true rfl⟩) hK hP hS rfl hl.1 (Nat.le_of_ble_eq_true rfl) (Nat.le_of_ble_eq_true rfl) (Nat.le_of_ble_eq_true rfl) dX7_about_139 (fun H locs hP hS => ?_) rfl
            have hP : va_P D vwCl (VW K ad I2 G A L) H := hP
            refine lv_if_ne (tgt := 153) hx hb dX7_about_142 (by decide) (fun c_18 => ?_) (fun c_18 => ?_)
            · have h := iN c_18 h
              refine lv_iload_n hx hb dX7_about_153 rfl (lv_at hl 2 rfl) ?_
              refine lv_iconst (v := 5) hx hb dX7_about_154 (by decide) ?_
              refine lv_icmp_ne (tgt := 172) hx hb dX7_about_155 (by decide) (fun c_19 => ?_) (fun c_19 => ?_)
              · have h := iN c_19 h
                refine lv_aload_n hx hb dX7_about_172 rfl (lv_at hl 0 rfl) ?_
                refine vgC hx hb hts hi7 hown hK hP (318) (by decide) (show kd 318 = 7 by decide) (C := RX7) (T := TX7) (N := 79) rfl 6 (by decide) (by decide) (by decide) (by decide) (322) rfl (hts (.fieldLink RX7 19 "CrateHelpersModel" "kinds" "[I") (by decide +kernel)) (fun _ h9 => h9) dX7_about_173 ?_
                refine lv_bipush (v := 6) hx hb dX7_about_176 (by decide) ?_
                refine lv_iload_n hx hb dX7_about_178 rfl (lv_at hl 1 rfl) ?_
                refine lv_imul hx hb dX7_about_179 ?_
                refine lv_iload_n hx hb dX7_about_180 rfl (lv_at hl 3 rfl) ?_
                refine lv_iadd hx hb dX7_about_181 ?_
                obtain ⟨hn20, h⟩ := gk h
                refine xiald hx hb hK hP (322) (by decide) (show kd 322 = 8 by decide) (by rw [show ln 322 = 30 by decide]; exact hn20) dX7_about_182 ?_
                exact W.iret (v := (A 322 (((6 * a1) + a3).toNatClampNeg))) hx hb hr (fun t9 ht9 hW9 => ⟨⟨(A 322 (((6 * a1) + a3).toNatClampNeg)), (I2, G, A, L), rfl, by cases h; exact ⟨rfl, rfl⟩, by rw [ht9]; exact hP, va_K.moved hW9.alike hK⟩, hS.F ht9⟩) hS.2.2 dX7_about_183
              · have h := ip c_19 h
                refine lv_aload_n hx hb dX7_about_158 rfl (lv_at hl 0 rfl) ?_
                refine vgC hx hb hts hi7 hown hK hP (318) (by decide) (show kd 318 = 7 by decide) (C := RX7) (T := TX7) (N := 79) rfl 5 (by decide) (by decide) (by decide) (by decide) (321) rfl (hts (.fieldLink RX7 16 "CrateHelpersModel" "values" "[I") (by decide +kernel)) (fun _ h9 => h9) dX7_about_159 ?_
                refine lv_bipush (v := 6) hx hb dX7_about_162 (by decide) ?_
                refine lv_iload_n hx hb dX7_about_164 rfl (lv_at hl 1 rfl) ?_
                refine lv_imul hx hb dX7_about_165 ?_
                refine lv_iload_n hx hb dX7_about_166 rfl (lv_at hl 3 rfl) ?_
                refine lv_iadd hx hb dX7_about_167 ?_
                obtain ⟨hn21, h⟩ := gk h
                refine xiald hx hb hK hP (321) (by decide) (show kd 321 = 8 by decide) (by rw [show ln 321 = 30 by decide]; exact hn21) dX7_about_168 ?_
                refine lv_goto (tgt := 183) hx hb dX7_about_169 (by decide) ?_
                exact W.iret (v := (A 321 (((6 * a1) + a3).toNatClampNeg))) hx hb hr (fun t9 ht9 hW9 => ⟨⟨(A 321 (((6 * a1) + a3).toNatClampNeg)), (I2, G, A, L), rfl, by cases h; exact ⟨rfl, rfl⟩, by rw [ht9]; exact hP, va_K.moved hW9.alike hK⟩, hS.F ht9⟩) hS.2.2 dX7_about_183
            · have h := ip c_18 h
              refine lv_aload_n hx hb dX7_about_145 rfl (lv_at hl 0 rfl) ?_
              refine lv_iconst (v := (-1)) hx hb dX7_about_146 (by decide) ?_
              obtain ⟨⟨r22, I23⟩, hc24, h⟩ := Option.bind_eq_some_iff.mp h
              refine ecV (As := [.int (-1)]) (rest := []) ⟨hx, hb, hml, hown, hts⟩ (e_X7_no l D K ad hap0 (-1) I2 G A L r22 I23 hc24) (cwV 1 hts gX7_about_X7_no rfl rfl rfl (by decide +kernel) ⟨Nat.le_of_ble_eq_true rfl, Nat.le_of_ble_eq_true rfl⟩) hK hP hS (by decide) (show kd 318 = 7 by decide) (by decide) rfl rfl rfl hl.1 (Nat.le_of_ble_eq_true rfl) (Nat.le_of_ble_eq_true rfl) (Nat.le_of_ble_eq_true rfl) dX7_about_147 (fun H locs hP hS => ?_) rfl
              have hP : va_P D vwCl (VW K ad I23 G A L) H := hP
              refine lv_goto (tgt := 183) hx hb dX7_about_150 (by decide) ?_
              exact W.iret (v := r22) hx hb hr (fun t9 ht9 hW9 => ⟨⟨r22, (I23, G, A, L), rfl, by cases h; exact ⟨rfl, rfl⟩, by rw [ht9]; exact hP, va_K.moved hW9.alike hK⟩, hS.F ht9⟩) hS.2.2 dX7_about_183
          · have h := ip (Int32.not_le.mp c_14) h
            refine lv_aload_n hx hb dX7_about_62 rfl (lv_at hl 0 rfl) ?_
            refine lv_iload_n hx hb dX7_about_63 rfl (lv_at hl 1 rfl) ?_
            refine lv_iload_n hx hb dX7_about_64 rfl (lv_at hl 3 rfl) ?_
            obtain ⟨r25, hc26, h⟩ := Option.bind_eq_some_iff.mp h
            refine ecV (As := [.int a1, .int a3]) (rest := []) ⟨hx, hb, hml, hown, hts⟩ (e_X7_isRule l D K ad hap0 a1 a3 I2 G A L r25 hc26) (cwV 2 hts gX7_about_X7_isRule rfl rfl rfl (by decide +kernel) ⟨Nat.le_of_ble_eq_true rfl, Nat.le_of_ble_eq_true rfl⟩) hK hP hS (by decide) (show kd 318 = 7 by decide) (by decide) rfl rfl rfl hl.1 (Nat.le_of_ble_eq_true rfl) (Nat.le_of_ble_eq_true rfl) (Nat.le_of_ble_eq_true rfl) dX7_about_65 (fun H locs hP hS => ?_) rfl
            have hP : va_P D vwCl (VW K ad I2 G A L) H := hP
            refine lv_if_ne (tgt := 79) hx hb dX7_about_68 (by decide) (fun c_27 => ?_) (fun c_27 => ?_)
            · have h := iN c_27 h
              refine lv_iload_n hx hb dX7_about_79 rfl (lv_at hl 2 rfl) ?_
              refine lv_iconst (v := 2) hx hb dX7_about_80 (by decide) ?_
              refine lv_icmp_ne (tgt := 98) hx hb dX7_about_81 (by decide) (fun c_28 => ?_) (fun c_28 => ?_)
              · have h := iN c_28 h
                refine lv_iload_n hx hb dX7_about_98 rfl (lv_at hl 2 rfl) ?_
                refine lv_iconst (v := 3) hx hb dX7_about_99 (by decide) ?_
                refine lv_icmp_ne (tgt := 117) hx hb dX7_about_100 (by decide) (fun c_29 => ?_) (fun c_29 => ?_)
                · have h := iN c_29 h
                  refine lv_aload_n hx hb dX7_about_117 rfl (lv_at hl 0 rfl) ?_
                  refine vgC hx hb hts hi7 hown hK hP (318) (by decide) (show kd 318 = 7 by decide) (C := RX7) (T := TX7) (N := 79) rfl 10 (by decide) (by decide) (by decide) (by decide) (326) rfl (hts (.fieldLink RX7 31 "CrateHelpersModel" "parts" "[I") (by decide +kernel)) (fun _ h9 => h9) dX7_about_118 ?_
                  refine lv_bipush (v := 8) hx hb dX7_about_121 (by decide) ?_
                  refine lv_iload_n hx hb dX7_about_123 rfl (lv_at hl 1 rfl) ?_
                  refine lv_imul hx hb dX7_about_124 ?_
                  refine lv_iload_n hx hb dX7_about_125 rfl (lv_at hl 3 rfl) ?_
                  refine lv_iadd hx hb dX7_about_126 ?_
                  obtain ⟨hn30, h⟩ := gk h
                  refine xiald hx hb hK hP (326) (by decide) (show kd 326 = 8 by decide) (by rw [show ln 326 = 40 by decide]; exact hn30) dX7_about_127 ?_
                  exact W.iret (v := (A 326 (((8 * a1) + a3).toNatClampNeg))) hx hb hr (fun t9 ht9 hW9 => ⟨⟨(A 326 (((8 * a1) + a3).toNatClampNeg)), (I2, G, A, L), rfl, by cases h; exact ⟨rfl, rfl⟩, by rw [ht9]; exact hP, va_K.moved hW9.alike hK⟩, hS.F ht9⟩) hS.2.2 dX7_about_128
                · have h := ip c_29 h
                  refine lv_aload_n hx hb dX7_about_103 rfl (lv_at hl 0 rfl) ?_
                  refine vgC hx hb hts hi7 hown hK hP (318) (by decide) (show kd 318 = 7 by decide) (C := RX7) (T := TX7) (N := 79) rfl 9 (by decide) (by decide) (by decide) (by decide) (325) rfl (hts (.fieldLink RX7 28 "CrateHelpersModel" "ruleNumber" "[I") (by decide +kernel)) (fun _ h9 => h9) dX7_about_104 ?_
                  refine lv_bipush (v := 8) hx hb dX7_about_107 (by decide) ?_
                  refine lv_iload_n hx hb dX7_about_109 rfl (lv_at hl 1 rfl) ?_
                  refine lv_imul hx hb dX7_about_110 ?_
                  refine lv_iload_n hx hb dX7_about_111 rfl (lv_at hl 3 rfl) ?_
                  refine lv_iadd hx hb dX7_about_112 ?_
                  obtain ⟨hn31, h⟩ := gk h
                  refine xiald hx hb hK hP (325) (by decide) (show kd 325 = 8 by decide) (by rw [show ln 325 = 40 by decide]; exact hn31) dX7_about_113 ?_
                  refine lv_goto (tgt := 128) hx hb dX7_about_114 (by decide) ?_
                  exact W.iret (v := (A 325 (((8 * a1) + a3).toNatClampNeg))) hx hb hr (fun t9 ht9 hW9 => ⟨⟨(A 325 (((8 * a1) + a3).toNatClampNeg)), (I2, G, A, L), rfl, by cases h; exact ⟨rfl, rfl⟩, by rw [ht9]; exact hP, va_K.moved hW9.alike hK⟩, hS.F ht9⟩) hS.2.2 dX7_about_128
              · have h := ip c_28 h
                refine lv_aload_n hx hb dX7_about_84 rfl (lv_at hl 0 rfl) ?_
                refine vgC hx hb hts hi7 hown hK hP (318) (by decide) (show kd 318 = 7 by decide) (C := RX7) (T := TX7) (N := 79) rfl 8 (by decide) (by decide) (by decide) (by decide) (324) rfl (hts (.fieldLink RX7 25 "CrateHelpersModel" "ruleKind" "[I") (by decide +kernel)) (fun _ h9 => h9) dX7_about_85 ?_
                refine lv_bipush (v := 8) hx hb dX7_about_88 (by decide) ?_
                refine lv_iload_n hx hb dX7_about_90 rfl (lv_at hl 1 rfl) ?_
                refine lv_imul hx hb dX7_about_91 ?_
                refine lv_iload_n hx hb dX7_about_92 rfl (lv_at hl 3 rfl) ?_
                refine lv_iadd hx hb dX7_about_93 ?_
                obtain ⟨hn32, h⟩ := gk h
                refine xiald hx hb hK hP (324) (by decide) (show kd 324 = 8 by decide) (by rw [show ln 324 = 40 by decide]; exact hn32) dX7_about_94 ?_
                refine lv_goto (tgt := 128) hx hb dX7_about_95 (by decide) ?_
                exact W.iret (v := (A 324 (((8 * a1) + a3).toNatClampNeg))) hx hb hr (fun t9 ht9 hW9 => ⟨⟨(A 324 (((8 * a1) + a3).toNatClampNeg)), (I2, G, A, L), rfl, by cases h; exact ⟨rfl, rfl⟩, by rw [ht9]; exact hP, va_K.moved hW9.alike hK⟩, hS.F ht9⟩) hS.2.2 dX7_about_128
            · have h := ip c_27 h
              refine lv_aload_n hx hb dX7_about_71 rfl (lv_at hl 0 rfl) ?_
              refine lv_iconst (v := (-1)) hx hb dX7_about_72 (by decide) ?_
              obtain ⟨⟨r33, I34⟩, hc35, h⟩ := Option.bind_eq_some_iff.mp h
              refine ecV (As := [.int (-1)]) (rest := []) ⟨hx, hb, hml, hown, hts⟩ (e_X7_no l D K ad hap0 (-1) I2 G A L r33 I34 hc35) (cwV 1 hts gX7_about_X7_no rfl rfl rfl (by decide +kernel) ⟨Nat.le_of_ble_eq_true rfl, Nat.le_of_ble_eq_true rfl⟩) hK hP hS (by decide) (show kd 318 = 7 by decide) (by decide) rfl rfl rfl hl.1 (Nat.le_of_ble_eq_true rfl) (Nat.le_of_ble_eq_true rfl) (Nat.le_of_ble_eq_true rfl) dX7_about_73 (fun H locs hP hS => ?_) rfl
              have hP : va_P D vwCl (VW K ad I34 G A L) H := hP
              refine lv_goto (tgt := 128) hx hb dX7_about_76 (by decide) ?_
              exact W.iret (v := r33) hx hb hr (fun t9 ht9 hW9 => ⟨⟨r33, (I34, G, A, L), rfl, by cases h; exact ⟨rfl, rfl⟩, by rw [ht9]; exact hP, va_K.moved hW9.alike hK⟩, hS.F ht9⟩) hS.2.2 dX7_about_128
        · have h := ip c_13 h
          refine lv_aload_n hx hb dX7_about_50 rfl (lv_at hl 0 rfl) ?_
          refine vgC hx hb hts hi7 hown hK hP (318) (by decide) (show kd 318 = 7 by decide) (C := RX7) (T := TX7) (N := 79) rfl 4 (by decide) (by decide) (by decide) (by decide) (320) rfl (hts (.fieldLink RX7 13 "CrateHelpersModel" "rules" "[I") (by decide +kernel)) (fun _ h9 => h9) dX7_about_51 ?_
          refine lv_iload_n hx hb dX7_about_54 rfl (lv_at hl 1 rfl) ?_
          obtain ⟨hn36, h⟩ := gk h
          refine xiald hx hb hK hP (320) (by decide) (show kd 320 = 8 by decide) (by rw [show ln 320 = 5 by decide]; exact hn36) dX7_about_55 ?_
          exact W.iret (v := (A 320 a1.toNatClampNeg)) hx hb hr (fun t9 ht9 hW9 => ⟨⟨(A 320 a1.toNatClampNeg), (I2, G, A, L), rfl, by cases h; exact ⟨rfl, rfl⟩, by rw [ht9]; exact hP, va_K.moved hW9.alike hK⟩, hS.F ht9⟩) hS.2.2 dX7_about_56
      · have h := ip c_12 h
        refine lv_aload_n hx hb dX7_about_38 rfl (lv_at hl 0 rfl) ?_
        refine vgC hx hb hts hi7 hown hK hP (318) (by decide) (show kd 318 = 7 by decide) (C := RX7) (T := TX7) (N := 79) rfl 3 (by decide) (by decide) (by decide) (by decide) (319) rfl (hts (.fieldLink RX7 7 "CrateHelpersModel" "variables" "[I") (by decide +kernel)) (fun _ h9 => h9) dX7_about_39 ?_
        refine lv_iload_n hx hb dX7_about_42 rfl (lv_at hl 1 rfl) ?_
        obtain ⟨hn37, h⟩ := gk h
        refine xiald hx hb hK hP (319) (by decide) (show kd 319 = 8 by decide) (by rw [show ln 319 = 5 by decide]; exact hn37) dX7_about_43 ?_
        exact W.iret (v := (A 319 a1.toNatClampNeg)) hx hb hr (fun t9 ht9 hW9 => ⟨⟨(A 319 a1.toNatClampNeg), (I2, G, A, L), rfl, by cases h; exact ⟨rfl, rfl⟩, by rw [ht9]; exact hP, va_K.moved hW9.alike hK⟩, hS.F ht9⟩) hS.2.2 dX7_about_44
    · have h := ip c_11 h
      refine lv_aload_n hx hb dX7_about_28 rfl (lv_at hl 0 rfl) ?_
      refine lv_iconst (v := (-1)) hx hb dX7_about_29 (by decide) ?_
      obtain ⟨⟨r38, I39⟩, hc40, h⟩ := Option.bind_eq_some_iff.mp h
      refine ecV (As := [.int (-1)]) (rest := []) ⟨hx, hb, hml, hown, hts⟩ (e_X7_no l D K ad hap0 (-1) I2 G A L r38 I39 hc40) (cwV 1 hts gX7_about_X7_no rfl rfl rfl (by decide +kernel) ⟨Nat.le_of_ble_eq_true rfl, Nat.le_of_ble_eq_true rfl⟩) hK hP hS (by decide) (show kd 318 = 7 by decide) (by decide) rfl rfl rfl hl.1 (Nat.le_of_ble_eq_true rfl) (Nat.le_of_ble_eq_true rfl) (Nat.le_of_ble_eq_true rfl) dX7_about_30 (fun H locs hP hS => ?_) rfl
      have hP : va_P D vwCl (VW K ad I39 G A L) H := hP
      exact W.iret (v := r38) hx hb hr (fun t9 ht9 hW9 => ⟨⟨r38, (I39, G, A, L), rfl, by cases h; exact ⟨rfl, rfl⟩, by rw [ht9]; exact hP, va_K.moved hW9.alike hK⟩, hS.F ht9⟩) hS.2.2 dX7_about_33
set_option maxHeartbeats 4000000 in
set_option maxRecDepth 100000 in
theorem e_X7_addNode (l : Launch) (D : va_G) (K : Nat → ClassId) (ad : Nat → Nat) (hap0 : apart ad (fun _ => True)) (a1 : Int32) (a2 : Int32) (I : Nat → Nat → Int32) (G : Nat → Nat → Nat) (A : Nat → Nat → Int32) (L : Nat → Nat → Int64) (I0 : Nat → Nat → Int32) (A0 : Nat → Nat → Int32) (h : f_X7_addNode I A a1 a2 = some (I0, A0)) : Cv l D K ad yX7_addNode wsX7_addNode 0 0 [.ref (ad 318), .int a1, .int a2] (I, G, A, L) (fun (u : Mem) => u = (I0, G, A0, L)) := by
  intro sz
  refine Met.ofW (cc := cX7_addNode) (maxL := 6) (ret := none) (by decide) rfl ?_
  intro p e s m args below meth c s₁ Bd hml hv0
  obtain ⟨rfl, hsz, hP, hK⟩ := hv0
  have hx := Bd.exec
  have hb := Bd.bytes
  have hr := Bd.returns
  have hts := atoms_spec (ws := wsX7_addNode) Bd.pre
  have hown : s.vm.findClass RX7 = some m.cls := findClass_of_methodNamed Bd.named
  have hlocks := Bd.notSynchronized
  have hi7 : ∀ w ∈ u_ws RX7 TX7 79, w ∈ wsX7_addNode := fun w h => List.mem_cons_of_mem _ (List.mem_append_right _ h)
  subst hsz
  have hap := vF_ap hap0 s.heap.size
  have hS : va_S (vF ad s.heap.size) s.heap s.heap [] := va_S.rf
  have hP : va_P D vwCl (VW K ad I G A L) s.heap := hP
  have hl := lv_entry ([.ref (ad 318), .int a1, .int a2]) (n := 6) (Nat.le_of_ble_eq_true rfl)
  rw [lg_entry_eq]
  generalize (lg_sl ([.ref (ad 318), .int a1, .int a2]) ++ List.replicate (6 - (lg_sl ([.ref (ad 318), .int a1, .int a2])).length) Slot.unset).toArray = ls at hl ⊢
  have hl : lv_has ls 6 [(0, .ref (ad 318)), (1, .int a1), (2, .int a2)] := hl
  rw [f_X7_addNode] at h
  refine lv_aload_n hx hb dX7_addNode_0 rfl (lv_at hl 0 rfl) ?_
  refine vgI hx hb hts hi7 hown hK hP (318) (by decide) (show kd 318 = 7 by decide) (C := RX7) (T := TX7) (N := 79) rfl 29 (by decide) (by decide) (by decide) (by decide) (hts (.fieldLink RX7 284 "CrateHelpersModel" "nodes" "I") (by decide +kernel)) (fun _ h9 => h9) dX7_addNode_1 ?_
  refine lv_istore_n (lv' := [(3, .int (I 318 29)), (0, .ref (ad 318)), (1, .int a1), (2, .int a2)]) hx hb dX7_addNode_4 rfl hl (by decide) rfl (fun ls hl => ?_)
  refine lv_aload_n hx hb dX7_addNode_5 rfl (lv_at hl 1 rfl) ?_
  refine lv_dup hx hb dX7_addNode_6 rfl ?_
  refine vgI hx hb hts hi7 hown hK hP (318) (by decide) (show kd 318 = 7 by decide) (C := RX7) (T := TX7) (N := 79) rfl 29 (by decide) (by decide) (by decide) (by decide) (hts (.fieldLink RX7 284 "CrateHelpersModel" "nodes" "I") (by decide +kernel)) (fun _ h9 => h9) dX7_addNode_7 ?_
  refine lv_iconst (v := 1) hx hb dX7_addNode_10 (by decide) ?_
  refine lv_iadd hx hb dX7_addNode_11 ?_
  refine vpI (v := ((I 318 29) + 1)) (ty := .int) hx hb hts hi7 tyX7 tyX7_ok nmX7 hown hK hP hap hS (318) (by decide) (show kd 318 = 7 by decide) (C := RX7) (T := TX7) (N := 79) rfl 29 (by decide) (by decide) (by decide) (by decide) (hts (.fieldLink RX7 284 "CrateHelpersModel" "nodes" "I") (by decide +kernel)) (fun _ h9 => h9) rfl (by decide +kernel) rfl rfl dX7_addNode_12 (fun H locs hP hS => ?_)
  obtain ⟨I1, eI1, h⟩ := bd_e h
  rw [← eI1] at hP
  have hP : va_P D vwCl (VW K ad I1 G A L) H := hP
  refine lv_aload_n hx hb dX7_addNode_15 rfl (lv_at hl 1 rfl) ?_
  refine vgC hx hb hts hi7 hown hK hP (318) (by decide) (show kd 318 = 7 by decide) (C := RX7) (T := TX7) (N := 79) rfl 32 (by decide) (by decide) (by decide) (by decide) (338) rfl (hts (.fieldLink RX7 74 "CrateHelpersModel" "depth" "[I") (by decide +kernel)) (fun _ h9 => h9) dX7_addNode_16 ?_
  refine lv_iload_n hx hb dX7_addNode_19 rfl (lv_at hl 0 rfl) ?_
  refine lv_iload_n hx hb dX7_addNode_20 rfl (lv_at hl 2 rfl) ?_
  obtain ⟨hn2, h⟩ := gk h
  refine xiast hx hb hK hP hap hS (338) (by decide) (show kd 338 = 8 by decide) (by rw [show ln 338 = 2000 by decide]; exact hn2) dX7_addNode_21 (fun H locs hP hS => ?_)
  obtain ⟨A3, eA3, h⟩ := bd_e h
  rw [← eA3] at hP
  have hP : va_P D vwCl (VW K ad I1 G A3 L) H := hP
  refine lv_aload_n hx hb dX7_addNode_22 rfl (lv_at hl 1 rfl) ?_
  refine vgC hx hb hts hi7 hown hK hP (318) (by decide) (show kd 318 = 7 by decide) (C := RX7) (T := TX7) (N := 79) rfl 36 (by decide) (by decide) (by decide) (by decide) (342) rfl (hts (.fieldLink RX7 86 "CrateHelpersModel" "above" "[I") (by decide +kernel)) (fun _ h9 => h9) dX7_addNode_23 ?_
  refine lv_iload_n hx hb dX7_addNode_26 rfl (lv_at hl 0 rfl) ?_
  refine lv_iload_n hx hb dX7_addNode_27 rfl (lv_at hl 3 rfl) ?_
  refine xiast hx hb hK hP hap hS (342) (by decide) (show kd 342 = 8 by decide) (by rw [show ln 342 = 2000 by decide]; exact hn2) dX7_addNode_28 (fun H locs hP hS => ?_)
  obtain ⟨A4, eA4, h⟩ := bd_e h
  rw [← eA4] at hP
  have hP : va_P D vwCl (VW K ad I1 G A4 L) H := hP
  refine lv_aload_n hx hb dX7_addNode_29 rfl (lv_at hl 1 rfl) ?_
  refine vgC hx hb hts hi7 hown hK hP (318) (by decide) (show kd 318 = 7 by decide) (C := RX7) (T := TX7) (N := 79) rfl 35 (by decide) (by decide) (by decide) (by decide) (341) rfl (hts (.fieldLink RX7 83 "CrateHelpersModel" "bound" "[I") (by decide +kernel)) (fun _ h9 => h9) dX7_addNode_30 ?_
  refine lv_iload_n hx hb dX7_addNode_33 rfl (lv_at hl 0 rfl) ?_
  refine lv_aload_n hx hb dX7_addNode_34 rfl (lv_at hl 1 rfl) ?_
  refine vgI hx hb hts hi7 hown hK hP (318) (by decide) (show kd 318 = 7 by decide) (C := RX7) (T := TX7) (N := 79) rfl 65 (by decide) (by decide) (by decide) (by decide) (hts (.fieldLink RX7 278 "CrateHelpersModel" "boundNow" "I") (by decide +kernel)) (fun _ h9 => h9) dX7_addNode_35 ?_
  refine xiast hx hb hK hP hap hS (341) (by decide) (show kd 341 = 8 by decide) (by rw [show ln 341 = 2000 by decide]; exact hn2) dX7_addNode_38 (fun H locs hP hS => ?_)
  obtain ⟨A5, eA5, h⟩ := bd_e h
  rw [← eA5] at hP
  have hP : va_P D vwCl (VW K ad I1 G A5 L) H := hP
  refine lv_aload_n hx hb dX7_addNode_39 rfl (lv_at hl 1 rfl) ?_
  refine vgC hx hb hts hi7 hown hK hP (318) (by decide) (show kd 318 = 7 by decide) (C := RX7) (T := TX7) (N := 79) rfl 37 (by decide) (by decide) (by decide) (by decide) (343) rfl (hts (.fieldLink RX7 89 "CrateHelpersModel" "holder" "[I") (by decide +kernel)) (fun _ h9 => h9) dX7_addNode_40 ?_
  refine lv_iload_n hx hb dX7_addNode_43 rfl (lv_at hl 0 rfl) ?_
  refine lv_bipush (v := (-9)) hx hb dX7_addNode_44 (by decide) ?_
  refine xiast hx hb hK hP hap hS (343) (by decide) (show kd 343 = 8 by decide) (by rw [show ln 343 = 2000 by decide]; exact hn2) dX7_addNode_46 (fun H locs hP hS => ?_)
  obtain ⟨A6, eA6, h⟩ := bd_e h
  rw [← eA6] at hP
  have hP : va_P D vwCl (VW K ad I1 G A6 L) H := hP
  refine lv_aload_n hx hb dX7_addNode_47 rfl (lv_at hl 1 rfl) ?_
  refine vgC hx hb hts hi7 hown hK hP (318) (by decide) (show kd 318 = 7 by decide) (C := RX7) (T := TX7) (N := 79) rfl 38 (by decide) (by decide) (by decide) (by decide) (344) rfl (hts (.fieldLink RX7 92 "CrateHelpersModel" "isDone" "[Z") (by decide +kernel)) (fun _ h9 => h9) dX7_addNode_48 ?_
  refine lv_iload_n hx hb dX7_addNode_51 rfl (lv_at hl 0 rfl) ?_
  refine lv_iconst (v := 0) hx hb dX7_addNode_52 (by decide) ?_
  refine xzast hx hb hK hP hap hS (344) (by decide) (show kd 344 = 11 by decide) (by rw [show ln 344 = 2000 by decide]; exact hn2) dX7_addNode_53 (fun H locs hP hS => ?_)
  obtain ⟨A7, eA7, h⟩ := bd_e h
  rw [← eA7] at hP
  have hP : va_P D vwCl (VW K ad I1 G A7 L) H := hP
  refine lv_aload_n hx hb dX7_addNode_54 rfl (lv_at hl 1 rfl) ?_
  refine vgC hx hb hts hi7 hown hK hP (318) (by decide) (show kd 318 = 7 by decide) (C := RX7) (T := TX7) (N := 79) rfl 39 (by decide) (by decide) (by decide) (by decide) (345) rfl (hts (.fieldLink RX7 96 "CrateHelpersModel" "isTaken" "[Z") (by decide +kernel)) (fun _ h9 => h9) dX7_addNode_55 ?_
  refine lv_iload_n hx hb dX7_addNode_58 rfl (lv_at hl 0 rfl) ?_
  refine lv_iconst (v := 0) hx hb dX7_addNode_59 (by decide) ?_
  refine xzast hx hb hK hP hap hS (345) (by decide) (show kd 345 = 11 by decide) (by rw [show ln 345 = 2000 by decide]; exact hn2) dX7_addNode_60 (fun H locs hP hS => ?_)
  obtain ⟨A8, eA8, h⟩ := bd_e h
  rw [← eA8] at hP
  have hP : va_P D vwCl (VW K ad I1 G A8 L) H := hP
  refine lv_aload_n hx hb dX7_addNode_61 rfl (lv_at hl 1 rfl) ?_
  refine vgC hx hb hts hi7 hown hK hP (318) (by decide) (show kd 318 = 7 by decide) (C := RX7) (T := TX7) (N := 79) rfl 43 (by decide) (by decide) (by decide) (by decide) (349) rfl (hts (.fieldLink RX7 108 "CrateHelpersModel" "openBelow" "[I") (by decide +kernel)) (fun _ h9 => h9) dX7_addNode_62 ?_
  refine lv_iload_n hx hb dX7_addNode_65 rfl (lv_at hl 0 rfl) ?_
  refine lv_iconst (v := 0) hx hb dX7_addNode_66 (by decide) ?_
  refine xiast hx hb hK hP hap hS (349) (by decide) (show kd 349 = 8 by decide) (by rw [show ln 349 = 2000 by decide]; exact hn2) dX7_addNode_67 (fun H locs hP hS => ?_)
  obtain ⟨A9, eA9, h⟩ := bd_e h
  rw [← eA9] at hP
  have hP : va_P D vwCl (VW K ad I1 G A9 L) H := hP
  refine lv_iconst (v := 0) hx hb dX7_addNode_68 (by decide) ?_
  refine lv_istore (lv' := [(4, .int 0), (3, .int (I 318 29)), (0, .ref (ad 318)), (1, .int a1), (2, .int a2)]) hx hb dX7_addNode_69 hl (by decide) rfl (fun ls hl => ?_)
  refine lv_iconst (v := 0) hx hb dX7_addNode_71 (by decide) ?_
  refine lv_istore (lv' := [(5, .int 0), (4, .int 0), (3, .int (I 318 29)), (0, .ref (ad 318)), (1, .int a1), (2, .int a2)]) hx hb dX7_addNode_72 hl (by decide) rfl (fun ls hl => ?_)
  obtain ⟨k15, ek15, h⟩ := bd_e h
  have kk15 : ∀ (v16 : Int32) (v17 : Int32) (A18 : Nat → Nat → Int32), k15 v16 v17 A18 = some (I0, A0) → ∀ (H : Heap) (locs : List Loc), va_P D vwCl (VW K ad I1 G A18 L) H → va_S (vF ad s.heap.size) s.heap H locs → ∀ (ls : Array Slot), lv_has ls 6 [(0, .ref (ad 318)), (3, .int v16), (4, .int v17)] → W p l e ({ frames := 0, cells := 0, slots := 0, locals := 0 }) s m ([.ref (ad 318), .int a1, .int a2] : List Value).toArray below meth c H locs 0 0 (MQ below (va_Qv (fun (u : Mem) => u = (I0, G, A0, L)) (vB D K ad) (vF ad s.heap.size)) ([.ref (ad 318), .int a1, .int a2] : List Value).toArray s 0 0 (vF ad s.heap.size)) (F0 m 144 ls []) := by
    intro v16 v17 A18 h H locs hP hS ls hl
    subst ek15
    refine lv_aload_n hx hb dX7_addNode_144 rfl (lv_at hl 0 rfl) ?_
    refine vgC hx hb hts hi7 hown hK hP (318) (by decide) (show kd 318 = 7 by decide) (C := RX7) (T := TX7) (N := 79) rfl 34 (by decide) (by decide) (by decide) (by decide) (340) rfl (hts (.fieldLink RX7 80 "CrateHelpersModel" "key" "[I") (by decide +kernel)) (fun _ h9 => h9) dX7_addNode_145 ?_
    refine lv_iload_n hx hb dX7_addNode_148 rfl (lv_at hl 1 rfl) ?_
    refine lv_iload hx hb dX7_addNode_149 (lv_at hl 2 rfl) ?_
    obtain ⟨hn19, h⟩ := gk h
    refine xiast hx hb hK hP hap hS (340) (by decide) (show kd 340 = 8 by decide) (by rw [show ln 340 = 2000 by decide]; exact hn19) dX7_addNode_151 (fun H locs hP hS => ?_)
    obtain ⟨A20, eA20, h⟩ := bd_e h
    rw [← eA20] at hP
    have hP : va_P D vwCl (VW K ad I1 G A20 L) H := hP
    exact W.vret hx hb hr (fun t9 ht9 hW9 => ⟨⟨(I1, G, A20, L), rfl, by cases h; rfl, by rw [ht9]; exact hP, va_K.moved hW9.alike hK⟩, hS.F ht9⟩) hS.2.2 dX7_addNode_152
  have lp10 : ∀ (n : Nat) (v11 : Int32) (v12 : Int32) (v13 : Int32) (A14 : Nat → Nat → Int32), f_X7_addNode_L74 a1 I1 k15 n v11 v12 v13 A14 = some (I0, A0) → ∀ (H : Heap) (locs : List Loc), va_P D vwCl (VW K ad I1 G A14 L) H → va_S (vF ad s.heap.size) s.heap H locs → ∀ (ls : Array Slot), lv_has ls 6 [(5, .int v11), (4, .int v12), (3, .int v13), (0, .ref (ad 318)), (1, .int a1)] → W p l e ({ frames := 0, cells := 0, slots := 0, locals := 0 }) s m ([.ref (ad 318), .int a1, .int a2] : List Value).toArray below meth c H locs 0 0 (MQ below (va_Qv (fun (u : Mem) => u = (I0, G, A0, L)) (vB D K ad) (vF ad s.heap.size)) ([.ref (ad 318), .int a1, .int a2] : List Value).toArray s 0 0 (vF ad s.heap.size)) (F0 m 74 ls []) := by
    intro n
    induction n with
    | zero => intro v11 v12 v13 A14 h; exact absurd h (by rw [f_X7_addNode_L74]; exact nofun)
    | succ n ih10 =>
      intro v11 v12 v13 A14 h H locs hP hS ls hl
      rw [f_X7_addNode_L74] at h
      refine lv_iload hx hb dX7_addNode_74 (lv_at hl 0 rfl) ?_
      refine lv_bipush (v := 6) hx hb dX7_addNode_76 (by decide) ?_
      refine lv_icmp_ge (tgt := 144) hx hb dX7_addNode_78 (by decide) (fun c_21 => ?_) (fun c_21 => ?_)
      · have h := iN (Int32.not_lt.mpr c_21) h
        exact kk15 v13 v12 A14 h _ _ hP hS ls (lv_sub hl [3, 2, 1] rfl)
      · have h := ip (Int32.not_le.mp c_21) h
        refine lv_aload_n hx hb dX7_addNode_81 rfl (lv_at hl 3 rfl) ?_
        refine vgC hx hb hts hi7 hown hK hP (318) (by decide) (show kd 318 = 7 by decide) (C := RX7) (T := TX7) (N := 79) rfl 33 (by decide) (by decide) (by decide) (by decide) (339) rfl (hts (.fieldLink RX7 77 "CrateHelpersModel" "row" "[I") (by decide +kernel)) (fun _ h9 => h9) dX7_addNode_82 ?_
        refine lv_bipush (v := 6) hx hb dX7_addNode_85 (by decide) ?_
        refine lv_iload_n hx hb dX7_addNode_87 rfl (lv_at hl 2 rfl) ?_
        refine lv_imul hx hb dX7_addNode_88 ?_
        refine lv_iload hx hb dX7_addNode_89 (lv_at hl 0 rfl) ?_
        refine lv_iadd hx hb dX7_addNode_91 ?_
        refine lv_iload hx hb dX7_addNode_92 (lv_at hl 0 rfl) ?_
        refine lv_iload_n hx hb dX7_addNode_94 rfl (lv_at hl 4 rfl) ?_
        obtain ⟨j24, ej24, h⟩ := bd_e h
        have kj24 : ∀ (z23 : Int32), j24 z23 = some (I0, A0) → ∀ (H : Heap) (locs : List Loc), va_P D vwCl (VW K ad I1 G A14 L) H → va_S (vF ad s.heap.size) s.heap H locs → ∀ (ls : Array Slot), lv_has ls 6 [(5, .int v11), (4, .int v12), (3, .int v13), (0, .ref (ad 318)), (1, .int a1)] → W p l e ({ frames := 0, cells := 0, slots := 0, locals := 0 }) s m ([.ref (ad 318), .int a1, .int a2] : List Value).toArray below meth c H locs 0 0 (MQ below (va_Qv (fun (u : Mem) => u = (I0, G, A0, L)) (vB D K ad) (vF ad s.heap.size)) ([.ref (ad 318), .int a1, .int a2] : List Value).toArray s 0 0 (vF ad s.heap.size)) (F0 m 110 ls [.int z23, .int ((6 * v13) + v11), .ref (ad 339)]) := by
          intro z23 h H locs hP hS ls hl
          subst ej24
          obtain ⟨hn25, h⟩ := gk h
          refine xiast hx hb hK hP hap hS (339) (by decide) (show kd 339 = 8 by decide) (by rw [show ln 339 = 12000 by decide]; exact hn25) dX7_addNode_110 (fun H locs hP hS => ?_)
          obtain ⟨A26, eA26, h⟩ := bd_e h
          rw [← eA26] at hP
          have hP : va_P D vwCl (VW K ad I1 G A26 L) H := hP
          refine lv_bipush (v := 7) hx hb dX7_addNode_111 (by decide) ?_
          refine lv_iload hx hb dX7_addNode_113 (lv_at hl 1 rfl) ?_
          refine lv_imul hx hb dX7_addNode_115 ?_
          refine lv_iload hx hb dX7_addNode_116 (lv_at hl 0 rfl) ?_
          refine lv_iload_n hx hb dX7_addNode_118 rfl (lv_at hl 4 rfl) ?_
          refine lv_icmp_ge (tgt := 134) hx hb dX7_addNode_119 (by decide) (fun c_27 => ?_) (fun c_27 => ?_)
          · have h := iN (Int32.not_lt.mpr c_27) h
            refine lv_iconst (v := 0) hx hb dX7_addNode_134 (by decide) ?_
            refine lv_iadd hx hb dX7_addNode_135 ?_
            refine lv_istore (lv' := [(4, .int ((7 * v12) + 0)), (5, .int v11), (3, .int v13), (0, .ref (ad 318)), (1, .int a1)]) hx hb dX7_addNode_136 hl (by decide) rfl (fun ls hl => ?_)
            refine lv_iinc (v := (v11 + 1)) (lv' := [(5, .int (v11 + 1)), (4, .int ((7 * v12) + 0)), (3, .int v13), (0, .ref (ad 318)), (1, .int a1)]) hx hb dX7_addNode_138 hl (k := 1) rfl rfl (by decide) rfl (fun ls hl => ?_)
            refine lv_goto (tgt := 74) hx hb dX7_addNode_141 (by decide) ?_
            exact ih10 (v11 + 1) ((7 * v12) + 0) v13 A26 h _ _ hP hS ls (lv_sub hl [0, 1, 2, 3, 4] rfl)
          · have h := ip (Int32.not_le.mp c_27) h
            refine lv_aload_n hx hb dX7_addNode_122 rfl (lv_at hl 3 rfl) ?_
            refine vgC hx hb hts hi7 hown hK hP (318) (by decide) (show kd 318 = 7 by decide) (C := RX7) (T := TX7) (N := 79) rfl 63 (by decide) (by decide) (by decide) (by decide) (364) rfl (hts (.fieldLink RX7 159 "CrateHelpersModel" "now" "[I") (by decide +kernel)) (fun _ h9 => h9) dX7_addNode_123 ?_
            refine lv_iload hx hb dX7_addNode_126 (lv_at hl 0 rfl) ?_
            obtain ⟨hn28, h⟩ := gk h
            refine xiald hx hb hK hP (364) (by decide) (show kd 364 = 8 by decide) (by rw [show ln 364 = 6 by decide]; exact hn28) dX7_addNode_128 ?_
            refine lv_iconst (v := 1) hx hb dX7_addNode_129 (by decide) ?_
            refine lv_iadd hx hb dX7_addNode_130 ?_
            refine lv_goto (tgt := 135) hx hb dX7_addNode_131 (by decide) ?_
            refine lv_iadd hx hb dX7_addNode_135 ?_
            refine lv_istore (lv' := [(4, .int ((7 * v12) + ((A26 364 v11.toNatClampNeg) + 1))), (5, .int v11), (3, .int v13), (0, .ref (ad 318)), (1, .int a1)]) hx hb dX7_addNode_136 hl (by decide) rfl (fun ls hl => ?_)
            refine lv_iinc (v := (v11 + 1)) (lv' := [(5, .int (v11 + 1)), (4, .int ((7 * v12) + ((A26 364 v11.toNatClampNeg) + 1))), (3, .int v13), (0, .ref (ad 318)), (1, .int a1)]) hx hb dX7_addNode_138 hl (k := 1) rfl rfl (by decide) rfl (fun ls hl => ?_)
            refine lv_goto (tgt := 74) hx hb dX7_addNode_141 (by decide) ?_
            exact ih10 (v11 + 1) ((7 * v12) + ((A26 364 v11.toNatClampNeg) + 1)) v13 A26 h _ _ hP hS ls (lv_sub hl [0, 1, 2, 3, 4] rfl)
        refine lv_icmp_ge (tgt := 108) hx hb dX7_addNode_95 (by decide) (fun c_29 => ?_) (fun c_29 => ?_)
        · have h := iN (Int32.not_lt.mpr c_29) h
          refine lv_bipush (v := (-9)) hx hb dX7_addNode_108 (by decide) ?_
          exact kj24 (-9) h _ _ hP hS ls (lv_sub hl [0, 1, 2, 3, 4] rfl)
        · have h := ip (Int32.not_le.mp c_29) h
          refine lv_aload_n hx hb dX7_addNode_98 rfl (lv_at hl 3 rfl) ?_
          refine vgC hx hb hts hi7 hown hK hP (318) (by decide) (show kd 318 = 7 by decide) (C := RX7) (T := TX7) (N := 79) rfl 63 (by decide) (by decide) (by decide) (by decide) (364) rfl (hts (.fieldLink RX7 159 "CrateHelpersModel" "now" "[I") (by decide +kernel)) (fun _ h9 => h9) dX7_addNode_99 ?_
          refine lv_iload hx hb dX7_addNode_102 (lv_at hl 0 rfl) ?_
          obtain ⟨hn30, h⟩ := gk h
          refine xiald hx hb hK hP (364) (by decide) (show kd 364 = 8 by decide) (by rw [show ln 364 = 6 by decide]; exact hn30) dX7_addNode_104 ?_
          refine lv_goto (tgt := 110) hx hb dX7_addNode_105 (by decide) ?_
          exact kj24 (A14 364 v11.toNatClampNeg) h _ _ hP hS ls (lv_sub hl [0, 1, 2, 3, 4] rfl)
  exact lp10 FU 0 0 (I 318 29) A9 h _ _ hP hS ls (lv_sub hl [0, 1, 2, 3, 4] rfl)
set_option maxHeartbeats 4000000 in
set_option maxRecDepth 100000 in
theorem e_X7_answer (l : Launch) (D : va_G) (K : Nat → ClassId) (ad : Nat → Nat) (hap0 : apart ad (fun _ => True)) (a1 : Int32) (a2 : Int32) (I : Nat → Nat → Int32) (G : Nat → Nat → Nat) (A : Nat → Nat → Int32) (L : Nat → Nat → Int64) (r0 : Int32) (I0 : Nat → Nat → Int32) (h : f_X7_answer I A a1 a2 = some (r0, I0)) : Ci l D K ad yX7_answer wsX7_answer 2 49 [.ref (ad 318), .int a1, .int a2] (I, G, A, L) (fun (r : Int32) (u : Mem) => r = r0 ∧ u = (I0, G, A, L)) := by
  intro sz
  refine Met.ofW (cc := cX7_answer) (maxL := 3) (ret := (some .int)) (by decide) rfl ?_
  intro p e s m args below meth c s₁ Bd hml hv0
  obtain ⟨rfl, hsz, hP, hK⟩ := hv0
  have hx := Bd.exec
  have hb := Bd.bytes
  have hr := Bd.returns
  have hts := atoms_spec (ws := wsX7_answer) Bd.pre
  have hown : s.vm.findClass RX7 = some m.cls := findClass_of_methodNamed Bd.named
  have hlocks := Bd.notSynchronized
  have hi7 : ∀ w ∈ u_ws RX7 TX7 79, w ∈ wsX7_answer := fun w h => List.mem_cons_of_mem _ (List.mem_append_right _ h)
  subst hsz
  have hap := vF_ap hap0 s.heap.size
  have hS : va_S (vF ad s.heap.size) s.heap s.heap [] := va_S.rf
  have hP : va_P D vwCl (VW K ad I G A L) s.heap := hP
  have hl := lv_entry ([.ref (ad 318), .int a1, .int a2]) (n := 3) (Nat.le_of_ble_eq_true rfl)
  rw [lg_entry_eq]
  generalize (lg_sl ([.ref (ad 318), .int a1, .int a2]) ++ List.replicate (3 - (lg_sl ([.ref (ad 318), .int a1, .int a2])).length) Slot.unset).toArray = ls at hl ⊢
  have hl : lv_has ls 3 [(0, .ref (ad 318)), (1, .int a1), (2, .int a2)] := hl
  rw [f_X7_answer] at h
  refine lv_aload_n hx hb dX7_answer_0 rfl (lv_at hl 0 rfl) ?_
  refine lv_iconst (v := 0) hx hb dX7_answer_1 (by decide) ?_
  refine vpI (v := 0) (ty := .int) hx hb hts hi7 tyX7 tyX7_ok nmX7 hown hK hP hap hS (318) (by decide) (show kd 318 = 7 by decide) (C := RX7) (T := TX7) (N := 79) rfl 0 (by decide) (by decide) (by decide) (by decide) (hts (.fieldLink RX7 201 "CrateHelpersModel" "thrown" "I") (by decide +kernel)) (fun _ h9 => h9) rfl (by decide +kernel) rfl rfl dX7_answer_2 (fun H locs hP hS => ?_)
  obtain ⟨I1, eI1, h⟩ := bd_e h
  rw [← eI1] at hP
  have hP : va_P D vwCl (VW K ad I1 G A L) H := hP
  refine lv_aload_n hx hb dX7_answer_5 rfl (lv_at hl 0 rfl) ?_
  refine lv_iload_n hx hb dX7_answer_6 rfl (lv_at hl 1 rfl) ?_
  obtain ⟨r2, hc3, h⟩ := Option.bind_eq_some_iff.mp h
  refine ecV (As := [.int a1]) (rest := []) ⟨hx, hb, hml, hown, hts⟩ (e_X7_isProblem l D K ad hap0 a1 I1 G A L r2 hc3) (cwV 1 hts gX7_answer_X7_isProblem rfl rfl rfl (by decide +kernel) ⟨Nat.le_of_ble_eq_true rfl, Nat.le_of_ble_eq_true rfl⟩) hK hP hS (by decide) (show kd 318 = 7 by decide) (by decide) rfl rfl rfl hl.1 (Nat.le_of_ble_eq_true rfl) (Nat.le_of_ble_eq_true rfl) (Nat.le_of_ble_eq_true rfl) dX7_answer_7 (fun H locs hP hS => ?_) rfl
  have hP : va_P D vwCl (VW K ad I1 G A L) H := hP
  refine lv_if_eq (tgt := 29) hx hb dX7_answer_10 (by decide) (fun c_4 => ?_) (fun c_4 => ?_)
  · have h := ip c_4 h
    refine lv_iconst (v := (-1)) hx hb dX7_answer_29 (by decide) ?_
    exact W.iret (v := (-1)) hx hb hr (fun t9 ht9 hW9 => ⟨⟨(-1), (I1, G, A, L), rfl, by cases h; exact ⟨rfl, rfl⟩, by rw [ht9]; exact hP, va_K.moved hW9.alike hK⟩, hS.F ht9⟩) hS.2.2 dX7_answer_30
  · have h := iN c_4 h
    refine lv_iload_n hx hb dX7_answer_13 rfl (lv_at hl 2 rfl) ?_
    refine lv_iconst (v := 0) hx hb dX7_answer_14 (by decide) ?_
    refine lv_aload_n hx hb dX7_answer_15 rfl (lv_at hl 0 rfl) ?_
    refine vgC hx hb hts hi7 hown hK hP (318) (by decide) (show kd 318 = 7 by decide) (C := RX7) (T := TX7) (N := 79) rfl 3 (by decide) (by decide) (by decide) (by decide) (319) rfl (hts (.fieldLink RX7 7 "CrateHelpersModel" "variables" "[I") (by decide +kernel)) (fun _ h9 => h9) dX7_answer_16 ?_
    refine lv_iload_n hx hb dX7_answer_19 rfl (lv_at hl 1 rfl) ?_
    obtain ⟨hn5, h⟩ := gk h
    refine xiald hx hb hK hP (319) (by decide) (show kd 319 = 8 by decide) (by rw [show ln 319 = 5 by decide]; exact hn5) dX7_answer_20 ?_
    refine lv_iconst (v := 1) hx hb dX7_answer_21 (by decide) ?_
    refine lv_isub hx hb dX7_answer_22 ?_
    obtain ⟨r6, hc7, h⟩ := Option.bind_eq_some_iff.mp h
    refine ecS (As := [.int a2, .int 0, .int ((A 319 a1.toNatClampNeg) - 1)]) (rest := []) ⟨hx, hb, hml, hown, hts⟩ (e_X7_in l D K ad hap0 a2 0 ((A 319 a1.toNatClampNeg) - 1) I1 G A L r6 hc7) (va_cwS 3 hts gX7_answer_X7_in rfl rfl rfl (by decide +kernel) ⟨Nat.le_of_ble_eq_true rfl, Nat.le_of_ble_eq_true rfl⟩) hK hP hS rfl hl.1 (Nat.le_of_ble_eq_true rfl) (Nat.le_of_ble_eq_true rfl) (Nat.le_of_ble_eq_true rfl) dX7_answer_23 (fun H locs hP hS => ?_) rfl
    have hP : va_P D vwCl (VW K ad I1 G A L) H := hP
    refine lv_if_ne (tgt := 31) hx hb dX7_answer_26 (by decide) (fun c_8 => ?_) (fun c_8 => ?_)
    · have h := iN c_8 h
      refine lv_aload_n hx hb dX7_answer_31 rfl (lv_at hl 0 rfl) ?_
      refine vgC hx hb hts hi7 hown hK hP (318) (by decide) (show kd 318 = 7 by decide) (C := RX7) (T := TX7) (N := 79) rfl 46 (by decide) (by decide) (by decide) (by decide) (352) rfl (hts (.fieldLink RX7 117 "CrateHelpersModel" "hasAnswer" "[Z") (by decide +kernel)) (fun _ h9 => h9) dX7_answer_32 ?_
      refine lv_iload_n hx hb dX7_answer_35 rfl (lv_at hl 1 rfl) ?_
      refine xzald hx hb hK hP (352) (by decide) (show kd 352 = 11 by decide) (by rw [show ln 352 = 5 by decide]; exact hn5) dX7_answer_36 ?_
      refine lv_if_eq (tgt := 54) hx hb dX7_answer_37 (by decide) (fun c_9 => ?_) (fun c_9 => ?_)
      · have h := ip c_9 h
        refine lv_bipush (v := (-9)) hx hb dX7_answer_54 (by decide) ?_
        exact W.iret (v := (-9)) hx hb hr (fun t9 ht9 hW9 => ⟨⟨(-9), (I1, G, A, L), rfl, by cases h; exact ⟨rfl, rfl⟩, by rw [ht9]; exact hP, va_K.moved hW9.alike hK⟩, hS.F ht9⟩) hS.2.2 dX7_answer_56
      · have h := iN c_9 h
        refine lv_aload_n hx hb dX7_answer_40 rfl (lv_at hl 0 rfl) ?_
        refine vgC hx hb hts hi7 hown hK hP (318) (by decide) (show kd 318 = 7 by decide) (C := RX7) (T := TX7) (N := 79) rfl 47 (by decide) (by decide) (by decide) (by decide) (353) rfl (hts (.fieldLink RX7 120 "CrateHelpersModel" "answerRow" "[I") (by decide +kernel)) (fun _ h9 => h9) dX7_answer_41 ?_
        refine lv_bipush (v := 6) hx hb dX7_answer_44 (by decide) ?_
        refine lv_iload_n hx hb dX7_answer_46 rfl (lv_at hl 1 rfl) ?_
        refine lv_imul hx hb dX7_answer_47 ?_
        refine lv_iload_n hx hb dX7_answer_48 rfl (lv_at hl 2 rfl) ?_
        refine lv_iadd hx hb dX7_answer_49 ?_
        obtain ⟨hn10, h⟩ := gk h
        refine xiald hx hb hK hP (353) (by decide) (show kd 353 = 8 by decide) (by rw [show ln 353 = 30 by decide]; exact hn10) dX7_answer_50 ?_
        refine lv_goto (tgt := 56) hx hb dX7_answer_51 (by decide) ?_
        exact W.iret (v := (A 353 (((6 * a1) + a2).toNatClampNeg))) hx hb hr (fun t9 ht9 hW9 => ⟨⟨(A 353 (((6 * a1) + a2).toNatClampNeg)), (I1, G, A, L), rfl, by cases h; exact ⟨rfl, rfl⟩, by rw [ht9]; exact hP, va_K.moved hW9.alike hK⟩, hS.F ht9⟩) hS.2.2 dX7_answer_56
    · have h := ip c_8 h
      refine lv_iconst (v := (-1)) hx hb dX7_answer_29 (by decide) ?_
      exact W.iret (v := (-1)) hx hb hr (fun t9 ht9 hW9 => ⟨⟨(-1), (I1, G, A, L), rfl, by cases h; exact ⟨rfl, rfl⟩, by rw [ht9]; exact hP, va_K.moved hW9.alike hK⟩, hS.F ht9⟩) hS.2.2 dX7_answer_30
set_option maxHeartbeats 4000000 in
set_option maxRecDepth 100000 in
theorem e_X7_costAt (l : Launch) (D : va_G) (K : Nat → ClassId) (ad : Nat → Nat) (hap0 : apart ad (fun _ => True)) (a1 : Int32) (a2 : Int32) (a3 : Int32) (I : Nat → Nat → Int32) (G : Nat → Nat → Nat) (A : Nat → Nat → Int32) (L : Nat → Nat → Int64) (r0 : Int32) (h : f_X7_costAt A a1 a2 a3 = some r0) : Ci l D K ad yX7_costAt wsX7_costAt 0 0 [.ref (ad 318), .int a1, .int a2, .int a3] (I, G, A, L) (fun (r : Int32) (u : Mem) => r = r0 ∧ u = (I, G, A, L)) := by
  intro sz
  refine Met.ofW (cc := cX7_costAt) (maxL := 4) (ret := (some .int)) (by decide) rfl ?_
  intro p e s m args below meth c s₁ Bd hml hv0
  obtain ⟨rfl, hsz, hP, hK⟩ := hv0
  have hx := Bd.exec
  have hb := Bd.bytes
  have hr := Bd.returns
  have hts := atoms_spec (ws := wsX7_costAt) Bd.pre
  have hown : s.vm.findClass RX7 = some m.cls := findClass_of_methodNamed Bd.named
  have hlocks := Bd.notSynchronized
  have hi7 : ∀ w ∈ u_ws RX7 TX7 79, w ∈ wsX7_costAt := fun w h => List.mem_cons_of_mem _ (List.mem_append_right _ h)
  subst hsz
  have hap := vF_ap hap0 s.heap.size
  have hS : va_S (vF ad s.heap.size) s.heap s.heap [] := va_S.rf
  have hP : va_P D vwCl (VW K ad I G A L) s.heap := hP
  have hl := lv_entry ([.ref (ad 318), .int a1, .int a2, .int a3]) (n := 4) (Nat.le_of_ble_eq_true rfl)
  rw [lg_entry_eq]
  generalize (lg_sl ([.ref (ad 318), .int a1, .int a2, .int a3]) ++ List.replicate (4 - (lg_sl ([.ref (ad 318), .int a1, .int a2, .int a3])).length) Slot.unset).toArray = ls at hl ⊢
  have hl : lv_has ls 4 [(0, .ref (ad 318)), (1, .int a1), (2, .int a2), (3, .int a3)] := hl
  rw [f_X7_costAt] at h
  refine lv_aload_n hx hb dX7_costAt_0 rfl (lv_at hl 0 rfl) ?_
  refine vgC hx hb hts hi7 hown hK hP (318) (by decide) (show kd 318 = 7 by decide) (C := RX7) (T := TX7) (N := 79) rfl 7 (by decide) (by decide) (by decide) (by decide) (323) rfl (hts (.fieldLink RX7 22 "CrateHelpersModel" "costs" "[I") (by decide +kernel)) (fun _ h9 => h9) dX7_costAt_1 ?_
  refine lv_bipush (v := 36) hx hb dX7_costAt_4 (by decide) ?_
  refine lv_iload_n hx hb dX7_costAt_6 rfl (lv_at hl 1 rfl) ?_
  refine lv_imul hx hb dX7_costAt_7 ?_
  refine lv_bipush (v := 6) hx hb dX7_costAt_8 (by decide) ?_
  refine lv_iload_n hx hb dX7_costAt_10 rfl (lv_at hl 2 rfl) ?_
  refine lv_imul hx hb dX7_costAt_11 ?_
  refine lv_iadd hx hb dX7_costAt_12 ?_
  refine lv_iload_n hx hb dX7_costAt_13 rfl (lv_at hl 3 rfl) ?_
  refine lv_iadd hx hb dX7_costAt_14 ?_
  obtain ⟨hn1, h⟩ := gk h
  refine xiald hx hb hK hP (323) (by decide) (show kd 323 = 8 by decide) (by rw [show ln 323 = 180 by decide]; exact hn1) dX7_costAt_15 ?_
  exact W.iret (v := (A 323 ((((36 * a1) + (6 * a2)) + a3).toNatClampNeg))) hx hb hr (fun t9 ht9 hW9 => ⟨⟨(A 323 ((((36 * a1) + (6 * a2)) + a3).toNatClampNeg)), (I, G, A, L), rfl, by cases h; exact ⟨rfl, rfl⟩, by rw [ht9]; exact hP, va_K.moved hW9.alike hK⟩, hS.F ht9⟩) hS.2.2 dX7_costAt_16
set_option maxHeartbeats 4000000 in
set_option maxRecDepth 100000 in
theorem e_X7_partAt (l : Launch) (D : va_G) (K : Nat → ClassId) (ad : Nat → Nat) (hap0 : apart ad (fun _ => True)) (a1 : Int32) (a2 : Int32) (a3 : Int32) (I : Nat → Nat → Int32) (G : Nat → Nat → Nat) (A : Nat → Nat → Int32) (L : Nat → Nat → Int64) (r0 : Int32) (h : f_X7_partAt A a1 a2 a3 = some r0) : Ci l D K ad yX7_partAt wsX7_partAt 0 0 [.ref (ad 318), .int a1, .int a2, .int a3] (I, G, A, L) (fun (r : Int32) (u : Mem) => r = r0 ∧ u = (I, G, A, L)) := by
  intro sz
  refine Met.ofW (cc := cX7_partAt) (maxL := 6) (ret := (some .int)) (by decide) rfl ?_
  intro p e s m args below meth c s₁ Bd hml hv0
  obtain ⟨rfl, hsz, hP, hK⟩ := hv0
  have hx := Bd.exec
  have hb := Bd.bytes
  have hr := Bd.returns
  have hts := atoms_spec (ws := wsX7_partAt) Bd.pre
  have hown : s.vm.findClass RX7 = some m.cls := findClass_of_methodNamed Bd.named
  have hlocks := Bd.notSynchronized
  have hi7 : ∀ w ∈ u_ws RX7 TX7 79, w ∈ wsX7_partAt := fun w h => List.mem_cons_of_mem _ (List.mem_append_right _ h)
  subst hsz
  have hap := vF_ap hap0 s.heap.size
  have hS : va_S (vF ad s.heap.size) s.heap s.heap [] := va_S.rf
  have hP : va_P D vwCl (VW K ad I G A L) s.heap := hP
  have hl := lv_entry ([.ref (ad 318), .int a1, .int a2, .int a3]) (n := 6) (Nat.le_of_ble_eq_true rfl)
  rw [lg_entry_eq]
  generalize (lg_sl ([.ref (ad 318), .int a1, .int a2, .int a3]) ++ List.replicate (6 - (lg_sl ([.ref (ad 318), .int a1, .int a2, .int a3])).length) Slot.unset).toArray = ls at hl ⊢
  have hl : lv_has ls 6 [(0, .ref (ad 318)), (1, .int a1), (2, .int a2), (3, .int a3)] := hl
  rw [f_X7_partAt] at h
  refine lv_bipush (v := 8) hx hb dX7_partAt_0 (by decide) ?_
  refine lv_iload_n hx hb dX7_partAt_2 rfl (lv_at hl 1 rfl) ?_
  refine lv_imul hx hb dX7_partAt_3 ?_
  refine lv_iload_n hx hb dX7_partAt_4 rfl (lv_at hl 2 rfl) ?_
  refine lv_iadd hx hb dX7_partAt_5 ?_
  refine lv_istore (lv' := [(4, .int ((8 * a1) + a2)), (0, .ref (ad 318)), (1, .int a1), (2, .int a2), (3, .int a3)]) hx hb dX7_partAt_6 hl (by decide) rfl (fun ls hl => ?_)
  refine lv_iconst (v := 0) hx hb dX7_partAt_8 (by decide) ?_
  refine lv_istore (lv' := [(5, .int 0), (4, .int ((8 * a1) + a2)), (0, .ref (ad 318)), (1, .int a1), (2, .int a2), (3, .int a3)]) hx hb dX7_partAt_9 hl (by decide) rfl (fun ls hl => ?_)
  obtain ⟨k4, ek4, h⟩ := bd_e h
  have kk4 : ∀ (v5 : Int32), k4 v5 = some r0 → ∀ (H : Heap) (locs : List Loc), va_P D vwCl (VW K ad I G A L) H → va_S (vF ad s.heap.size) s.heap H locs → ∀ (ls : Array Slot), lv_has ls 6 [(5, .int v5)] → W p l e ({ frames := 0, cells := 0, slots := 0, locals := 0 }) s m ([.ref (ad 318), .int a1, .int a2, .int a3] : List Value).toArray below meth c H locs 0 0 (MQ below (va_Qi (fun (r : Int32) (u : Mem) => r = r0 ∧ u = (I, G, A, L)) (vB D K ad) (vF ad s.heap.size)) ([.ref (ad 318), .int a1, .int a2, .int a3] : List Value).toArray s 0 0 (vF ad s.heap.size)) (F0 m 40 ls []) := by
    intro v5 h H locs hP hS ls hl
    subst ek4
    refine lv_iload hx hb dX7_partAt_40 (lv_at hl 0 rfl) ?_
    exact W.iret (v := v5) hx hb hr (fun t9 ht9 hW9 => ⟨⟨v5, (I, G, A, L), rfl, by cases h; exact ⟨rfl, rfl⟩, by rw [ht9]; exact hP, va_K.moved hW9.alike hK⟩, hS.F ht9⟩) hS.2.2 dX7_partAt_42
  obtain ⟨k6, ek6, h⟩ := bd_e h
  have kk6 : ∀ (_ : Unit), k6 () = some r0 → ∀ (H : Heap) (locs : List Loc), va_P D vwCl (VW K ad I G A L) H → va_S (vF ad s.heap.size) s.heap H locs → ∀ (ls : Array Slot), lv_has ls 6 [] → W p l e ({ frames := 0, cells := 0, slots := 0, locals := 0 }) s m ([.ref (ad 318), .int a1, .int a2, .int a3] : List Value).toArray below meth c H locs 0 0 (MQ below (va_Qi (fun (r : Int32) (u : Mem) => r = r0 ∧ u = (I, G, A, L)) (vB D K ad) (vF ad s.heap.size)) ([.ref (ad 318), .int a1, .int a2, .int a3] : List Value).toArray s 0 0 (vF ad s.heap.size)) (F0 m 49 ls []) := by
    intro _ h H locs hP hS ls hl
    subst ek6
    refine lv_bipush (v := (-9)) hx hb dX7_partAt_49 (by decide) ?_
    exact W.iret (v := (-9)) hx hb hr (fun t9 ht9 hW9 => ⟨⟨(-9), (I, G, A, L), rfl, by cases h; exact ⟨rfl, rfl⟩, by rw [ht9]; exact hP, va_K.moved hW9.alike hK⟩, hS.F ht9⟩) hS.2.2 dX7_partAt_51
  have lp1 : ∀ (n : Nat) (v2 : Int32) (v3 : Int32), f_X7_partAt_L11 a3 A k4 k6 n v2 v3 = some r0 → ∀ (H : Heap) (locs : List Loc), va_P D vwCl (VW K ad I G A L) H → va_S (vF ad s.heap.size) s.heap H locs → ∀ (ls : Array Slot), lv_has ls 6 [(5, .int v2), (4, .int v3), (0, .ref (ad 318)), (3, .int a3)] → W p l e ({ frames := 0, cells := 0, slots := 0, locals := 0 }) s m ([.ref (ad 318), .int a1, .int a2, .int a3] : List Value).toArray below meth c H locs 0 0 (MQ below (va_Qi (fun (r : Int32) (u : Mem) => r = r0 ∧ u = (I, G, A, L)) (vB D K ad) (vF ad s.heap.size)) ([.ref (ad 318), .int a1, .int a2, .int a3] : List Value).toArray s 0 0 (vF ad s.heap.size)) (F0 m 11 ls []) := by
    intro n
    induction n with
    | zero => intro v2 v3 h; exact absurd h (by rw [f_X7_partAt_L11]; exact nofun)
    | succ n ih1 =>
      intro v2 v3 h H locs hP hS ls hl
      rw [f_X7_partAt_L11] at h
      refine lv_iload hx hb dX7_partAt_11 (lv_at hl 0 rfl) ?_
      refine lv_aload_n hx hb dX7_partAt_13 rfl (lv_at hl 2 rfl) ?_
      refine vgC hx hb hts hi7 hown hK hP (318) (by decide) (show kd 318 = 7 by decide) (C := RX7) (T := TX7) (N := 79) rfl 10 (by decide) (by decide) (by decide) (by decide) (326) rfl (hts (.fieldLink RX7 31 "CrateHelpersModel" "parts" "[I") (by decide +kernel)) (fun _ h9 => h9) dX7_partAt_14 ?_
      refine lv_iload hx hb dX7_partAt_17 (lv_at hl 1 rfl) ?_
      obtain ⟨hn7, h⟩ := gk h
      refine xiald hx hb hK hP (326) (by decide) (show kd 326 = 8 by decide) (by rw [show ln 326 = 40 by decide]; exact hn7) dX7_partAt_19 ?_
      refine lv_icmp_ge (tgt := 49) hx hb dX7_partAt_20 (by decide) (fun c_8 => ?_) (fun c_8 => ?_)
      · have h := iN (Int32.not_lt.mpr c_8) h
        exact kk6 () h _ _ hP hS ls (lv_sub hl [] rfl)
      · have h := ip (Int32.not_le.mp c_8) h
        refine lv_aload_n hx hb dX7_partAt_23 rfl (lv_at hl 2 rfl) ?_
        refine vgC hx hb hts hi7 hown hK hP (318) (by decide) (show kd 318 = 7 by decide) (C := RX7) (T := TX7) (N := 79) rfl 11 (by decide) (by decide) (by decide) (by decide) (327) rfl (hts (.fieldLink RX7 34 "CrateHelpersModel" "partOf" "[I") (by decide +kernel)) (fun _ h9 => h9) dX7_partAt_24 ?_
        refine lv_bipush (v := 6) hx hb dX7_partAt_27 (by decide) ?_
        refine lv_iload hx hb dX7_partAt_29 (lv_at hl 1 rfl) ?_
        refine lv_imul hx hb dX7_partAt_31 ?_
        refine lv_iload hx hb dX7_partAt_32 (lv_at hl 0 rfl) ?_
        refine lv_iadd hx hb dX7_partAt_34 ?_
        obtain ⟨hn9, h⟩ := gk h
        refine xiald hx hb hK hP (327) (by decide) (show kd 327 = 8 by decide) (by rw [show ln 327 = 240 by decide]; exact hn9) dX7_partAt_35 ?_
        refine lv_iload_n hx hb dX7_partAt_36 rfl (lv_at hl 3 rfl) ?_
        refine lv_icmp_ne (tgt := 43) hx hb dX7_partAt_37 (by decide) (fun c_10 => ?_) (fun c_10 => ?_)
        · have h := iN c_10 h
          refine lv_iinc (v := (v2 + 1)) (lv' := [(5, .int (v2 + 1)), (4, .int v3), (0, .ref (ad 318)), (3, .int a3)]) hx hb dX7_partAt_43 hl (k := 0) rfl rfl (by decide) rfl (fun ls hl => ?_)
          refine lv_goto (tgt := 11) hx hb dX7_partAt_46 (by decide) ?_
          exact ih1 (v2 + 1) v3 h _ _ hP hS ls (lv_sub hl [0, 1, 2, 3] rfl)
        · have h := ip c_10 h
          exact kk4 v2 h _ _ hP hS ls (lv_sub hl [0] rfl)
  exact lp1 FU 0 ((8 * a1) + a2) h _ _ hP hS ls (lv_sub hl [0, 1, 2, 5] rfl)
