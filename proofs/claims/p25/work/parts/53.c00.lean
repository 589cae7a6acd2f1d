set_option maxHeartbeats 4000000 in
set_option maxRecDepth 100000 in
theorem e_X1_hasRule (l : Launch) (D : va_G) (K : Nat → ClassId) (ad : Nat → Nat) (hap0 : apart ad (fun _ => True)) (o : Nat) (a1 : Int32) (I : Nat → Nat → Int32) (G : Nat → Nat → Nat) (A : Nat → Nat → Int32) (L : Nat → Nat → Int64) (r0 : Int32) (h : f_X1_hasRule I o a1 = some r0) : Ci l D K ad yX1_hasRule wsX1_hasRule 0 0 [.ref (ad o), .int a1] (I, G, A, L) (fun (r : Int32) (u : Mem) => r = r0 ∧ u = (I, G, A, L)) := by
  intro sz
  refine Met.ofW (cc := cX1_hasRule) (maxL := 2) (ret := (some .boolean)) (by decide) rfl ?_
  intro p e s m args below meth c s₁ Bd hml hv0
  obtain ⟨rfl, hsz, hP, hK⟩ := hv0
  have hx := Bd.exec
  have hb := Bd.bytes
  have hr := Bd.returns
  have hts := atoms_spec (ws := wsX1_hasRule) Bd.pre
  have hown : s.vm.findClass RX1 = some m.cls := findClass_of_methodNamed Bd.named
  have hlocks := Bd.notSynchronized
  have hi1 : ∀ w ∈ u_ws RX1 TX1 9, w ∈ wsX1_hasRule := fun w h => List.mem_cons_of_mem _ (List.mem_append_right _ h)
  subst hsz
  have hap := vF_ap hap0 s.heap.size
  have hS : va_S (vF ad s.heap.size) s.heap s.heap [] := va_S.rf
  have hP : va_P D vwCl (VW K ad I G A L) s.heap := hP
  have hl := lv_entry ([.ref (ad o), .int a1]) (n := 2) (Nat.le_of_ble_eq_true rfl)
  rw [lg_entry_eq]
  generalize (lg_sl ([.ref (ad o), .int a1]) ++ List.replicate (2 - (lg_sl ([.ref (ad o), .int a1])).length) Slot.unset).toArray = ls at hl ⊢
  have hl : lv_has ls 2 [(0, .ref (ad o)), (1, .int a1)] := hl
  rw [f_X1_hasRule] at h
  refine lv_iload_n hx hb dX1_hasRule_0 rfl (lv_at hl 1 rfl) ?_
  refine lv_if_lt (tgt := 16) hx hb dX1_hasRule_1 (by decide) (fun c_1 => ?_) (fun c_1 => ?_)
  · have h := ip c_1 h
    refine lv_iconst (v := 0) hx hb dX1_hasRule_16 (by decide) ?_
    exact W.zret (v := 0) hx hb hr (by decide) (fun t9 ht9 hW9 => ⟨⟨0, (I, G, A, L), rfl, by cases h; exact ⟨rfl, rfl⟩, by rw [ht9]; exact hP, va_K.moved hW9.alike hK⟩, hS.F ht9⟩) hS.2.2 dX1_hasRule_17
  · have h := iN c_1 h
    refine lv_iload_n hx hb dX1_hasRule_4 rfl (lv_at hl 1 rfl) ?_
    refine lv_aload_n hx hb dX1_hasRule_5 rfl (lv_at hl 0 rfl) ?_
    obtain ⟨hk2, h⟩ := gk h
    refine vgI hx hb hts hi1 hown hK hP (o) (s318 hk2.1) hk2.2 (C := RX1) (T := TX1) (N := 9) rfl 1 (by decide) (by decide) (by decide) (by decide) (hts (.fieldLink RX1 15 "CrateHelpers$Problem" "ruleCount" "I") (by decide +kernel)) (fun _ h9 => h9) dX1_hasRule_6 ?_
    refine lv_icmp_ge (tgt := 16) hx hb dX1_hasRule_9 (by decide) (fun c_3 => ?_) (fun c_3 => ?_)
    · have h := iN (Int32.not_lt.mpr c_3) h
      refine lv_iconst (v := 0) hx hb dX1_hasRule_16 (by decide) ?_
      exact W.zret (v := 0) hx hb hr (by decide) (fun t9 ht9 hW9 => ⟨⟨0, (I, G, A, L), rfl, by cases h; exact ⟨rfl, rfl⟩, by rw [ht9]; exact hP, va_K.moved hW9.alike hK⟩, hS.F ht9⟩) hS.2.2 dX1_hasRule_17
    · have h := ip (Int32.not_le.mp c_3) h
      refine lv_iconst (v := 1) hx hb dX1_hasRule_12 (by decide) ?_
      refine lv_goto (tgt := 17) hx hb dX1_hasRule_13 (by decide) ?_
      exact W.zret (v := 1) hx hb hr (by decide) (fun t9 ht9 hW9 => ⟨⟨1, (I, G, A, L), rfl, by cases h; exact ⟨rfl, rfl⟩, by rw [ht9]; exact hP, va_K.moved hW9.alike hK⟩, hS.F ht9⟩) hS.2.2 dX1_hasRule_17
set_option maxHeartbeats 4000000 in
set_option maxRecDepth 100000 in
theorem e_X1_hasVariable (l : Launch) (D : va_G) (K : Nat → ClassId) (ad : Nat → Nat) (hap0 : apart ad (fun _ => True)) (o : Nat) (a1 : Int32) (I : Nat → Nat → Int32) (G : Nat → Nat → Nat) (A : Nat → Nat → Int32) (L : Nat → Nat → Int64) (r0 : Int32) (h : f_X1_hasVariable I o a1 = some r0) : Ci l D K ad yX1_hasVariable wsX1_hasVariable 0 0 [.ref (ad o), .int a1] (I, G, A, L) (fun (r : Int32) (u : Mem) => r = r0 ∧ u = (I, G, A, L)) := by
  intro sz
  refine Met.ofW (cc := cX1_hasVariable) (maxL := 2) (ret := (some .boolean)) (by decide) rfl ?_
  intro p e s m args below meth c s₁ Bd hml hv0
  obtain ⟨rfl, hsz, hP, hK⟩ := hv0
  have hx := Bd.exec
  have hb := Bd.bytes
  have hr := Bd.returns
  have hts := atoms_spec (ws := wsX1_hasVariable) Bd.pre
  have hown : s.vm.findClass RX1 = some m.cls := findClass_of_methodNamed Bd.named
  have hlocks := Bd.notSynchronized
  have hi1 : ∀ w ∈ u_ws RX1 TX1 9, w ∈ wsX1_hasVariable := fun w h => List.mem_cons_of_mem _ (List.mem_append_right _ h)
  subst hsz
  have hap := vF_ap hap0 s.heap.size
  have hS : va_S (vF ad s.heap.size) s.heap s.heap [] := va_S.rf
  have hP : va_P D vwCl (VW K ad I G A L) s.heap := hP
  have hl := lv_entry ([.ref (ad o), .int a1]) (n := 2) (Nat.le_of_ble_eq_true rfl)
  rw [lg_entry_eq]
  generalize (lg_sl ([.ref (ad o), .int a1]) ++ List.replicate (2 - (lg_sl ([.ref (ad o), .int a1])).length) Slot.unset).toArray = ls at hl ⊢
  have hl : lv_has ls 2 [(0, .ref (ad o)), (1, .int a1)] := hl
  rw [f_X1_hasVariable] at h
  refine lv_iload_n hx hb dX1_hasVariable_0 rfl (lv_at hl 1 rfl) ?_
  refine lv_if_lt (tgt := 16) hx hb dX1_hasVariable_1 (by decide) (fun c_1 => ?_) (fun c_1 => ?_)
  · have h := ip c_1 h
    refine lv_iconst (v := 0) hx hb dX1_hasVariable_16 (by decide) ?_
    exact W.zret (v := 0) hx hb hr (by decide) (fun t9 ht9 hW9 => ⟨⟨0, (I, G, A, L), rfl, by cases h; exact ⟨rfl, rfl⟩, by rw [ht9]; exact hP, va_K.moved hW9.alike hK⟩, hS.F ht9⟩) hS.2.2 dX1_hasVariable_17
  · have h := iN c_1 h
    refine lv_iload_n hx hb dX1_hasVariable_4 rfl (lv_at hl 1 rfl) ?_
    refine lv_aload_n hx hb dX1_hasVariable_5 rfl (lv_at hl 0 rfl) ?_
    obtain ⟨hk2, h⟩ := gk h
    refine vgI hx hb hts hi1 hown hK hP (o) (s318 hk2.1) hk2.2 (C := RX1) (T := TX1) (N := 9) rfl 0 (by decide) (by decide) (by decide) (by decide) (hts (.fieldLink RX1 9 "CrateHelpers$Problem" "variables" "I") (by decide +kernel)) (fun _ h9 => h9) dX1_hasVariable_6 ?_
    refine lv_icmp_ge (tgt := 16) hx hb dX1_hasVariable_9 (by decide) (fun c_3 => ?_) (fun c_3 => ?_)
    · have h := iN (Int32.not_lt.mpr c_3) h
      refine lv_iconst (v := 0) hx hb dX1_hasVariable_16 (by decide) ?_
      exact W.zret (v := 0) hx hb hr (by decide) (fun t9 ht9 hW9 => ⟨⟨0, (I, G, A, L), rfl, by cases h; exact ⟨rfl, rfl⟩, by rw [ht9]; exact hP, va_K.moved hW9.alike hK⟩, hS.F ht9⟩) hS.2.2 dX1_hasVariable_17
    · have h := ip (Int32.not_le.mp c_3) h
      refine lv_iconst (v := 1) hx hb dX1_hasVariable_12 (by decide) ?_
      refine lv_goto (tgt := 17) hx hb dX1_hasVariable_13 (by decide) ?_
      exact W.zret (v := 1) hx hb hr (by decide) (fun t9 ht9 hW9 => ⟨⟨1, (I, G, A, L), rfl, by cases h; exact ⟨rfl, rfl⟩, by rw [ht9]; exact hP, va_K.moved hW9.alike hK⟩, hS.F ht9⟩) hS.2.2 dX1_hasVariable_17
set_option maxHeartbeats 4000000 in
set_option maxRecDepth 100000 in
theorem e_X2_tell (l : Launch) (D : va_G) (K : Nat → ClassId) (ad : Nat → Nat) (hap0 : apart ad (fun _ => True)) (o : Nat) (a1 : Int32) (I : Nat → Nat → Int32) (G : Nat → Nat → Nat) (A : Nat → Nat → Int32) (L : Nat → Nat → Int64) (r0 : Int32) (h : f_X2_tell I o a1 = some r0) : Ci l D K ad yX2_tell wsX2_tell 0 0 [.ref (ad o), .int a1] (I, G, A, L) (fun (r : Int32) (u : Mem) => r = r0 ∧ u = (I, G, A, L)) := by
  intro sz
  refine Met.ofW (cc := cX2_tell) (maxL := 2) (ret := (some .int)) (by decide) rfl ?_
  intro p e s m args below meth c s₁ Bd hml hv0
  obtain ⟨rfl, hsz, hP, hK⟩ := hv0
  have hx := Bd.exec
  have hb := Bd.bytes
  have hr := Bd.returns
  have hts := atoms_spec (ws := wsX2_tell) Bd.pre
  have hown : s.vm.findClass RX2 = some m.cls := findClass_of_methodNamed Bd.named
  have hlocks := Bd.notSynchronized
  have hi2 : ∀ w ∈ u_ws RX2 TX2 7, w ∈ wsX2_tell := fun w h => List.mem_cons_of_mem _ (List.mem_append_right _ h)
  subst hsz
  have hap := vF_ap hap0 s.heap.size
  have hS : va_S (vF ad s.heap.size) s.heap s.heap [] := va_S.rf
  have hP : va_P D vwCl (VW K ad I G A L) s.heap := hP
  have hl := lv_entry ([.ref (ad o), .int a1]) (n := 2) (Nat.le_of_ble_eq_true rfl)
  rw [lg_entry_eq]
  generalize (lg_sl ([.ref (ad o), .int a1]) ++ List.replicate (2 - (lg_sl ([.ref (ad o), .int a1])).length) Slot.unset).toArray = ls at hl ⊢
  have hl : lv_has ls 2 [(0, .ref (ad o)), (1, .int a1)] := hl
  rw [f_X2_tell] at h
  refine lv_iload_n hx hb dX2_tell_0 rfl (lv_at hl 1 rfl) ?_
  refine lv_iconst (v := 2) hx hb dX2_tell_1 (by decide) ?_
  refine lv_icmp_ne (tgt := 10) hx hb dX2_tell_2 (by decide) (fun c_1 => ?_) (fun c_1 => ?_)
  · have h := iN c_1 h
    refine lv_iload_n hx hb dX2_tell_10 rfl (lv_at hl 1 rfl) ?_
    refine lv_iconst (v := 3) hx hb dX2_tell_11 (by decide) ?_
    refine lv_icmp_ne (tgt := 22) hx hb dX2_tell_12 (by decide) (fun c_2 => ?_) (fun c_2 => ?_)
    · have h := iN c_2 h
      refine lv_aload_n hx hb dX2_tell_22 rfl (lv_at hl 0 rfl) ?_
      obtain ⟨hk3, h⟩ := gk h
      refine vgI hx hb hts hi2 hown hK hP (o) (s318 hk3.1) hk3.2 (C := RX2) (T := TX2) (N := 7) rfl 2 (by decide) (by decide) (by decide) (by decide) (hts (.fieldLink RX2 18 "CrateHelpers$Rule" "parts" "I") (by decide +kernel)) (fun _ h9 => h9) dX2_tell_23 ?_
      exact W.iret (v := (I o 2)) hx hb hr (fun t9 ht9 hW9 => ⟨⟨(I o 2), (I, G, A, L), rfl, by cases h; exact ⟨rfl, rfl⟩, by rw [ht9]; exact hP, va_K.moved hW9.alike hK⟩, hS.F ht9⟩) hS.2.2 dX2_tell_26
    · have h := ip c_2 h
      refine lv_aload_n hx hb dX2_tell_15 rfl (lv_at hl 0 rfl) ?_
      obtain ⟨hk4, h⟩ := gk h
      refine vgI hx hb hts hi2 hown hK hP (o) (s318 hk4.1) hk4.2 (C := RX2) (T := TX2) (N := 7) rfl 1 (by decide) (by decide) (by decide) (by decide) (hts (.fieldLink RX2 15 "CrateHelpers$Rule" "c" "I") (by decide +kernel)) (fun _ h9 => h9) dX2_tell_16 ?_
      refine lv_goto (tgt := 26) hx hb dX2_tell_19 (by decide) ?_
      exact W.iret (v := (I o 1)) hx hb hr (fun t9 ht9 hW9 => ⟨⟨(I o 1), (I, G, A, L), rfl, by cases h; exact ⟨rfl, rfl⟩, by rw [ht9]; exact hP, va_K.moved hW9.alike hK⟩, hS.F ht9⟩) hS.2.2 dX2_tell_26
  · have h := ip c_1 h
    refine lv_aload_n hx hb dX2_tell_5 rfl (lv_at hl 0 rfl) ?_
    obtain ⟨hk5, h⟩ := gk h
    refine vgI hx hb hts hi2 hown hK hP (o) (s318 hk5.1) hk5.2 (C := RX2) (T := TX2) (N := 7) rfl 0 (by decide) (by decide) (by decide) (by decide) (hts (.fieldLink RX2 9 "CrateHelpers$Rule" "kind" "I") (by decide +kernel)) (fun _ h9 => h9) dX2_tell_6 ?_
    exact W.iret (v := (I o 0)) hx hb hr (fun t9 ht9 hW9 => ⟨⟨(I o 0), (I, G, A, L), rfl, by cases h; exact ⟨rfl, rfl⟩, by rw [ht9]; exact hP, va_K.moved hW9.alike hK⟩, hS.F ht9⟩) hS.2.2 dX2_tell_9
set_option maxHeartbeats 4000000 in
set_option maxRecDepth 100000 in
theorem e_X6_grant (l : Launch) (D : va_G) (K : Nat → ClassId) (ad : Nat → Nat) (hap0 : apart ad (fun _ => True)) (a1 : Int32) (I : Nat → Nat → Int32) (G : Nat → Nat → Nat) (A : Nat → Nat → Int32) (L : Nat → Nat → Int64) (r0 : Int32) (I0 : Nat → Nat → Int32) (h : f_X6_grant I a1 = some (r0, I0)) : Ci l D K ad yX6_grant wsX6_grant 0 0 [.ref (ad 0), .int a1] (I, G, A, L) (fun (r : Int32) (u : Mem) => r = r0 ∧ u = (I0, G, A, L)) := by
  intro sz
  refine Met.ofW (cc := cX6_grant) (maxL := 2) (ret := (some .int)) (by decide) rfl ?_
  intro p e s m args below meth c s₁ Bd hml hv0
  obtain ⟨rfl, hsz, hP, hK⟩ := hv0
  have hx := Bd.exec
  have hb := Bd.bytes
  have hr := Bd.returns
  have hts := atoms_spec (ws := wsX6_grant) Bd.pre
  have hown : s.vm.findClass RX6 = some m.cls := findClass_of_methodNamed Bd.named
  have hlocks := Bd.notSynchronized
  have hi6 : ∀ w ∈ u_ws RX6 TX6 18, w ∈ wsX6_grant := fun w h => List.mem_cons_of_mem _ (List.mem_append_right _ h)
  subst hsz
  have hap := vF_ap hap0 s.heap.size
  have hS : va_S (vF ad s.heap.size) s.heap s.heap [] := va_S.rf
  have hP : va_P D vwCl (VW K ad I G A L) s.heap := hP
  have hl := lv_entry ([.ref (ad 0), .int a1]) (n := 2) (Nat.le_of_ble_eq_true rfl)
  rw [lg_entry_eq]
  generalize (lg_sl ([.ref (ad 0), .int a1]) ++ List.replicate (2 - (lg_sl ([.ref (ad 0), .int a1])).length) Slot.unset).toArray = ls at hl ⊢
  have hl : lv_has ls 2 [(0, .ref (ad 0)), (1, .int a1)] := hl
  rw [f_X6_grant] at h
  refine lv_aload_n hx hb dX6_grant_0 rfl (lv_at hl 0 rfl) ?_
  refine lv_iconst (v := 0) hx hb dX6_grant_1 (by decide) ?_
  refine vpI (v := 0) (ty := .int) hx hb hts hi6 tyX6 tyX6_ok nmX6 hown hK hP hap hS (0) (by decide) (show kd 0 = 6 by decide) (C := RX6) (T := TX6) (N := 18) rfl 17 (by decide) (by decide) (by decide) (by decide) (hts (.fieldLink RX6 64 "CrateHelpers" "refusedBy" "I") (by decide +kernel)) (fun _ h9 => h9) rfl (by decide +kernel) rfl rfl dX6_grant_2 (fun H locs hP hS => ?_)
  obtain ⟨I1, eI1, h⟩ := bd_e h
  rw [← eI1] at hP
  have hP : va_P D vwCl (VW K ad I1 G A L) H := hP
  refine lv_iload_n hx hb dX6_grant_5 rfl (lv_at hl 1 rfl) ?_
  exact W.iret (v := a1) hx hb hr (fun t9 ht9 hW9 => ⟨⟨a1, (I1, G, A, L), rfl, by cases h; exact ⟨rfl, rfl⟩, by rw [ht9]; exact hP, va_K.moved hW9.alike hK⟩, hS.F ht9⟩) hS.2.2 dX6_grant_6
set_option maxHeartbeats 4000000 in
set_option maxRecDepth 100000 in
theorem e_X6_isWithin (l : Launch) (D : va_G) (K : Nat → ClassId) (ad : Nat → Nat) (hap0 : apart ad (fun _ => True)) (a0 : Int32) (a1 : Int32) (a2 : Int32) (I : Nat → Nat → Int32) (G : Nat → Nat → Nat) (A : Nat → Nat → Int32) (L : Nat → Nat → Int64) (r0 : Int32) (h : f_X6_isWithin a0 a1 a2 = some r0) : Ci l D K ad yX6_isWithin wsX6_isWithin 0 0 [.int a0, .int a1, .int a2] (I, G, A, L) (fun (r : Int32) (u : Mem) => r = r0 ∧ u = (I, G, A, L)) := by
  intro sz
  refine Met.ofW (cc := cX6_isWithin) (maxL := 3) (ret := (some .boolean)) (by decide) rfl ?_
  intro p e s m args below meth c s₁ Bd hml hv0
  obtain ⟨rfl, hsz, hP, hK⟩ := hv0
  have hx := Bd.exec
  have hb := Bd.bytes
  have hr := Bd.returns
  have hts := atoms_spec (ws := wsX6_isWithin) Bd.pre
  have hown : s.vm.findClass RX6 = some m.cls := findClass_of_methodNamed Bd.named
  have hlocks := Bd.notSynchronized
  subst hsz
  have hap := vF_ap hap0 s.heap.size
  have hS : va_S (vF ad s.heap.size) s.heap s.heap [] := va_S.rf
  have hP : va_P D vwCl (VW K ad I G A L) s.heap := hP
  have hl := lv_entry ([.int a0, .int a1, .int a2]) (n := 3) (Nat.le_of_ble_eq_true rfl)
  rw [lg_entry_eq]
  generalize (lg_sl ([.int a0, .int a1, .int a2]) ++ List.replicate (3 - (lg_sl ([.int a0, .int a1, .int a2])).length) Slot.unset).toArray = ls at hl ⊢
  have hl : lv_has ls 3 [(0, .int a0), (1, .int a1), (2, .int a2)] := hl
  rw [f_X6_isWithin] at h
  refine lv_iload_n hx hb dX6_isWithin_0 rfl (lv_at hl 0 rfl) ?_
  refine lv_iload_n hx hb dX6_isWithin_1 rfl (lv_at hl 1 rfl) ?_
  refine lv_icmp_lt (tgt := 14) hx hb dX6_isWithin_2 (by decide) (fun c_1 => ?_) (fun c_1 => ?_)
  · have h := ip c_1 h
    refine lv_iconst (v := 0) hx hb dX6_isWithin_14 (by decide) ?_
    exact W.zret (v := 0) hx hb hr (by decide) (fun t9 ht9 hW9 => ⟨⟨0, (I, G, A, L), rfl, by cases h; exact ⟨rfl, rfl⟩, by rw [ht9]; exact hP, va_K.moved hW9.alike hK⟩, hS.F ht9⟩) hS.2.2 dX6_isWithin_15
  · have h := iN c_1 h
    refine lv_iload_n hx hb dX6_isWithin_5 rfl (lv_at hl 0 rfl) ?_
    refine lv_iload_n hx hb dX6_isWithin_6 rfl (lv_at hl 2 rfl) ?_
    refine lv_icmp_gt (tgt := 14) hx hb dX6_isWithin_7 (by decide) (fun c_2 => ?_) (fun c_2 => ?_)
    · have h := ip c_2 h
      refine lv_iconst (v := 0) hx hb dX6_isWithin_14 (by decide) ?_
      exact W.zret (v := 0) hx hb hr (by decide) (fun t9 ht9 hW9 => ⟨⟨0, (I, G, A, L), rfl, by cases h; exact ⟨rfl, rfl⟩, by rw [ht9]; exact hP, va_K.moved hW9.alike hK⟩, hS.F ht9⟩) hS.2.2 dX6_isWithin_15
    · have h := iN c_2 h
      refine lv_iconst (v := 1) hx hb dX6_isWithin_10 (by decide) ?_
      refine lv_goto (tgt := 15) hx hb dX6_isWithin_11 (by decide) ?_
      exact W.zret (v := 1) hx hb hr (by decide) (fun t9 ht9 hW9 => ⟨⟨1, (I, G, A, L), rfl, by cases h; exact ⟨rfl, rfl⟩, by rw [ht9]; exact hP, va_K.moved hW9.alike hK⟩, hS.F ht9⟩) hS.2.2 dX6_isWithin_15
set_option maxHeartbeats 4000000 in
set_option maxRecDepth 100000 in
theorem e_X6_isProblem (l : Launch) (D : va_G) (K : Nat → ClassId) (ad : Nat → Nat) (hap0 : apart ad (fun _ => True)) (a1 : Int32) (I : Nat → Nat → Int32) (G : Nat → Nat → Nat) (A : Nat → Nat → Int32) (L : Nat → Nat → Int64) (r0 : Int32) (h : f_X6_isProblem I a1 = some r0) : Ci l D K ad yX6_isProblem wsX6_isProblem 1 25 [.ref (ad 0), .int a1] (I, G, A, L) (fun (r : Int32) (u : Mem) => r = r0 ∧ u = (I, G, A, L)) := by
  intro sz
  refine Met.ofW (cc := cX6_isProblem) (maxL := 2) (ret := (some .boolean)) (by decide) rfl ?_
  intro p e s m args below meth c s₁ Bd hml hv0
  obtain ⟨rfl, hsz, hP, hK⟩ := hv0
  have hx := Bd.exec
  have hb := Bd.bytes
  have hr := Bd.returns
  have hts := atoms_spec (ws := wsX6_isProblem) Bd.pre
  have hown : s.vm.findClass RX6 = some m.cls := findClass_of_methodNamed Bd.named
  have hlocks := Bd.notSynchronized
  have hi6 : ∀ w ∈ u_ws RX6 TX6 18, w ∈ wsX6_isProblem := fun w h => List.mem_cons_of_mem _ (List.mem_append_right _ h)
  subst hsz
  have hap := vF_ap hap0 s.heap.size
  have hS : va_S (vF ad s.heap.size) s.heap s.heap [] := va_S.rf
  have hP : va_P D vwCl (VW K ad I G A L) s.heap := hP
  have hl := lv_entry ([.ref (ad 0), .int a1]) (n := 2) (Nat.le_of_ble_eq_true rfl)
  rw [lg_entry_eq]
  generalize (lg_sl ([.ref (ad 0), .int a1]) ++ List.replicate (2 - (lg_sl ([.ref (ad 0), .int a1])).length) Slot.unset).toArray = ls at hl ⊢
  have hl : lv_has ls 2 [(0, .ref (ad 0)), (1, .int a1)] := hl
  rw [f_X6_isProblem] at h
  refine lv_iload_n hx hb dX6_isProblem_0 rfl (lv_at hl 1 rfl) ?_
  refine lv_iconst (v := 0) hx hb dX6_isProblem_1 (by decide) ?_
  refine lv_aload_n hx hb dX6_isProblem_2 rfl (lv_at hl 0 rfl) ?_
  refine vgI hx hb hts hi6 hown hK hP (0) (by decide) (show kd 0 = 6 by decide) (C := RX6) (T := TX6) (N := 18) rfl 1 (by decide) (by decide) (by decide) (by decide) (hts (.fieldLink RX6 15 "CrateHelpers" "problemCount" "I") (by decide +kernel)) (fun _ h9 => h9) dX6_isProblem_3 ?_
  refine lv_iconst (v := 1) hx hb dX6_isProblem_6 (by decide) ?_
  refine lv_isub hx hb dX6_isProblem_7 ?_
  obtain ⟨r1, hc2, h⟩ := Option.bind_eq_some_iff.mp h
  refine ecS (As := [.int a1, .int 0, .int ((I 0 1) - 1)]) (rest := []) ⟨hx, hb, hml, hown, hts⟩ (e_X6_isWithin l D K ad hap0 a1 0 ((I 0 1) - 1) I G A L r1 hc2) (va_cwS 3 hts gX6_isProblem_X6_isWithin rfl rfl rfl (by decide +kernel) ⟨Nat.le_of_ble_eq_true rfl, Nat.le_of_ble_eq_true rfl⟩) hK hP hS rfl hl.1 (Nat.le_of_ble_eq_true rfl) (Nat.le_of_ble_eq_true rfl) (Nat.le_of_ble_eq_true rfl) dX6_isProblem_8 (fun H locs hP hS => ?_) rfl
  have hP : va_P D vwCl (VW K ad I G A L) H := hP
  obtain ⟨hz3, h⟩ := gk h
  exact W.zret (v := r1) hx hb hr (nar01 hz3) (fun t9 ht9 hW9 => ⟨⟨r1, (I, G, A, L), rfl, by cases h; exact ⟨rfl, rfl⟩, by rw [ht9]; exact hP, va_K.moved hW9.alike hK⟩, hS.F ht9⟩) hS.2.2 dX6_isProblem_11
set_option maxHeartbeats 4000000 in
set_option maxRecDepth 100000 in
theorem e_X6_refuse (l : Launch) (D : va_G) (K : Nat → ClassId) (ad : Nat → Nat) (hap0 : apart ad (fun _ => True)) (a1 : Int32) (I : Nat → Nat → Int32) (G : Nat → Nat → Nat) (A : Nat → Nat → Int32) (L : Nat → Nat → Int64) (r0 : Int32) (I0 : Nat → Nat → Int32) (h : f_X6_refuse I a1 = some (r0, I0)) : Ci l D K ad yX6_refuse wsX6_refuse 0 0 [.ref (ad 0), .int a1] (I, G, A, L) (fun (r : Int32) (u : Mem) => r = r0 ∧ u = (I0, G, A, L)) := by
  intro sz
  refine Met.ofW (cc := cX6_refuse) (maxL := 2) (ret := (some .int)) (by decide) rfl ?_
  intro p e s m args below meth c s₁ Bd hml hv0
  obtain ⟨rfl, hsz, hP, hK⟩ := hv0
  have hx := Bd.exec
  have hb := Bd.bytes
  have hr := Bd.returns
  have hts := atoms_spec (ws := wsX6_refuse) Bd.pre
  have hown : s.vm.findClass RX6 = some m.cls := findClass_of_methodNamed Bd.named
  have hlocks := Bd.notSynchronized
  have hi6 : ∀ w ∈ u_ws RX6 TX6 18, w ∈ wsX6_refuse := fun w h => List.mem_cons_of_mem _ (List.mem_append_right _ h)
  subst hsz
  have hap := vF_ap hap0 s.heap.size
  have hS : va_S (vF ad s.heap.size) s.heap s.heap [] := va_S.rf
  have hP : va_P D vwCl (VW K ad I G A L) s.heap := hP
  have hl := lv_entry ([.ref (ad 0), .int a1]) (n := 2) (Nat.le_of_ble_eq_true rfl)
  rw [lg_entry_eq]
  generalize (lg_sl ([.ref (ad 0), .int a1]) ++ List.replicate (2 - (lg_sl ([.ref (ad 0), .int a1])).length) Slot.unset).toArray = ls at hl ⊢
  have hl : lv_has ls 2 [(0, .ref (ad 0)), (1, .int a1)] := hl
  rw [f_X6_refuse] at h
  refine lv_aload_n hx hb dX6_refuse_0 rfl (lv_at hl 0 rfl) ?_
  refine lv_iload_n hx hb dX6_refuse_1 rfl (lv_at hl 1 rfl) ?_
  refine vpI (v := a1) (ty := .int) hx hb hts hi6 tyX6 tyX6_ok nmX6 hown hK hP hap hS (0) (by decide) (show kd 0 = 6 by decide) (C := RX6) (T := TX6) (N := 18) rfl 17 (by decide) (by decide) (by decide) (by decide) (hts (.fieldLink RX6 64 "CrateHelpers" "refusedBy" "I") (by decide +kernel)) (fun _ h9 => h9) rfl (by decide +kernel) rfl rfl dX6_refuse_2 (fun H locs hP hS => ?_)
  obtain ⟨I1, eI1, h⟩ := bd_e h
  rw [← eI1] at hP
  have hP : va_P D vwCl (VW K ad I1 G A L) H := hP
  refine lv_ldcw (v := (-1000000)) hx hb hown (hts (.constant RX6 269 (-1000000)) (by decide +kernel)) dX6_refuse_5 ?_
  exact W.iret (v := (-1000000)) hx hb hr (fun t9 ht9 hW9 => ⟨⟨(-1000000), (I1, G, A, L), rfl, by cases h; exact ⟨rfl, rfl⟩, by rw [ht9]; exact hP, va_K.moved hW9.alike hK⟩, hS.F ht9⟩) hS.2.2 dX6_refuse_8
set_option maxHeartbeats 4000000 in
set_option maxRecDepth 100000 in
theorem e_X6_about (l : Launch) (D : va_G) (K : Nat → ClassId) (ad : Nat → Nat) (hap0 : apart ad (fun _ => True)) (a1 : Int32) (a2 : Int32) (a3 : Int32) (I : Nat → Nat → Int32) (G : Nat → Nat → Nat) (A : Nat → Nat → Int32) (L : Nat → Nat → Int64) (r0 : Int32) (I0 : Nat → Nat → Int32) (h : f_X6_about I A a1 a2 a3 = some (r0, I0)) : Ci l D K ad yX6_about wsX6_about 2 49 [.ref (ad 0), .int a1, .int a2, .int a3] (I, G, A, L) (fun (r : Int32) (u : Mem) => r = r0 ∧ u = (I0, G, A, L)) := by
  intro sz
  refine Met.ofW (cc := cX6_about) (maxL := 5) (ret := (some .int)) (by decide) rfl ?_
  intro p e s m args below meth c s₁ Bd hml hv0
  obtain ⟨rfl, hsz, hP, hK⟩ := hv0
  have hx := Bd.exec
  have hb := Bd.bytes
  have hr := Bd.returns
  have hts := atoms_spec (ws := wsX6_about) Bd.pre
  have hown : s.vm.findClass RX6 = some m.cls := findClass_of_methodNamed Bd.named
  have hlocks := Bd.notSynchronized
  have hi6 : ∀ w ∈ u_ws RX6 TX6 18, w ∈ wsX6_about := fun w h => List.mem_cons_of_mem _ (List.mem_append_left _ (List.mem_append_left _ (List.mem_append_right _ h)))
  have hi1 : ∀ w ∈ u_ws RX1 TX1 9, w ∈ wsX6_about := fun w h => List.mem_cons_of_mem _ (List.mem_append_left _ (List.mem_append_right _ h))
  have hi2 : ∀ w ∈ u_ws RX2 TX2 7, w ∈ wsX6_about := fun w h => List.mem_cons_of_mem _ (List.mem_append_right _ h)
  subst hsz
  have hap := vF_ap hap0 s.heap.size
  have hS : va_S (vF ad s.heap.size) s.heap s.heap [] := va_S.rf
  have hP : va_P D vwCl (VW K ad I G A L) s.heap := hP
  have hl := lv_entry ([.ref (ad 0), .int a1, .int a2, .int a3]) (n := 5) (Nat.le_of_ble_eq_true rfl)
  rw [lg_entry_eq]
  generalize (lg_sl ([.ref (ad 0), .int a1, .int a2, .int a3]) ++ List.replicate (5 - (lg_sl ([.ref (ad 0), .int a1, .int a2, .int a3])).length) Slot.unset).toArray = ls at hl ⊢
  have hl : lv_has ls 5 [(0, .ref (ad 0)), (1, .int a1), (2, .int a2), (3, .int a3)] := hl
  rw [f_X6_about] at h
  refine lv_aload_n hx hb dX6_about_0 rfl (lv_at hl 0 rfl) ?_
  refine lv_iload_n hx hb dX6_about_1 rfl (lv_at hl 1 rfl) ?_
  obtain ⟨r1, hc2, h⟩ := Option.bind_eq_some_iff.mp h
  refine ecV (As := [.int a1]) (rest := []) ⟨hx, hb, hml, hown, hts⟩ (e_X6_isProblem l D K ad hap0 a1 I G A L r1 hc2) (cwV 1 hts gX6_about_X6_isProblem rfl rfl rfl (by decide +kernel) ⟨Nat.le_of_ble_eq_true rfl, Nat.le_of_ble_eq_true rfl⟩) hK hP hS (by decide) (show kd 0 = 6 by decide) (by decide) rfl rfl rfl hl.1 (Nat.le_of_ble_eq_true rfl) (Nat.le_of_ble_eq_true rfl) (Nat.le_of_ble_eq_true rfl) dX6_about_2 (fun H locs hP hS => ?_) rfl
  have hP : va_P D vwCl (VW K ad I G A L) H := hP
  refine lv_if_eq (tgt := 18) hx hb dX6_about_5 (by decide) (fun c_3 => ?_) (fun c_3 => ?_)
  · have h := ip c_3 h
    refine lv_aload_n hx hb dX6_about_18 rfl (lv_at hl 0 rfl) ?_
    refine lv_iconst (v := (-1)) hx hb dX6_about_19 (by decide) ?_
    obtain ⟨⟨r4, I5⟩, hc6, h⟩ := Option.bind_eq_some_iff.mp h
    refine ecV (As := [.int (-1)]) (rest := []) ⟨hx, hb, hml, hown, hts⟩ (e_X6_refuse l D K ad hap0 (-1) I G A L r4 I5 hc6) (cwV 1 hts gX6_about_X6_refuse rfl rfl rfl (by decide +kernel) ⟨Nat.le_of_ble_eq_true rfl, Nat.le_of_ble_eq_true rfl⟩) hK hP hS (by decide) (show kd 0 = 6 by decide) (by decide) rfl rfl rfl hl.1 (Nat.le_of_ble_eq_true rfl) (Nat.le_of_ble_eq_true rfl) (Nat.le_of_ble_eq_true rfl) dX6_about_20 (fun H locs hP hS => ?_) rfl
    have hP : va_P D vwCl (VW K ad I5 G A L) H := hP
    exact W.iret (v := r4) hx hb hr (fun t9 ht9 hW9 => ⟨⟨r4, (I5, G, A, L), rfl, by cases h; exact ⟨rfl, rfl⟩, by rw [ht9]; exact hP, va_K.moved hW9.alike hK⟩, hS.F ht9⟩) hS.2.2 dX6_about_23
  · have h := iN c_3 h
    refine lv_iload_n hx hb dX6_about_8 rfl (lv_at hl 2 rfl) ?_
    refine lv_iconst (v := 0) hx hb dX6_about_9 (by decide) ?_
    refine lv_bipush (v := 6) hx hb dX6_about_10 (by decide) ?_
    obtain ⟨r7, hc8, h⟩ := Option.bind_eq_some_iff.mp h
    refine ecS (As := [.int a2, .int 0, .int 6]) (rest := []) ⟨hx, hb, hml, hown, hts⟩ (e_X6_isWithin l D K ad hap0 a2 0 6 I G A L r7 hc8) (va_cwS 3 hts gX6_about_X6_isWithin rfl rfl rfl (by decide +kernel) ⟨Nat.le_of_ble_eq_true rfl, Nat.le_of_ble_eq_true rfl⟩) hK hP hS rfl hl.1 (Nat.le_of_ble_eq_true rfl) (Nat.le_of_ble_eq_true rfl) (Nat.le_of_ble_eq_true rfl) dX6_about_12 (fun H locs hP hS => ?_) rfl
    have hP : va_P D vwCl (VW K ad I G A L) H := hP
    refine lv_if_ne (tgt := 24) hx hb dX6_about_15 (by decide) (fun c_9 => ?_) (fun c_9 => ?_)
    · have h := iN c_9 h
      refine lv_aload_n hx hb dX6_about_24 rfl (lv_at hl 0 rfl) ?_
      refine vgC hx hb hts hi6 hown hK hP (0) (by decide) (show kd 0 = 6 by decide) (C := RX6) (T := TX6) (N := 18) rfl 0 (by decide) (by decide) (by decide) (by decide) (1) rfl (hts (.fieldLink RX6 11 "CrateHelpers" "problems" "[LCrateHelpers$Problem;") (by decide +kernel)) (fun _ h9 => h9) dX6_about_25 ?_
      refine lv_iload_n hx hb dX6_about_28 rfl (lv_at hl 1 rfl) ?_
      obtain ⟨hn10, h⟩ := gk h
      refine xaald hx hb hK hP (1) (by decide) 5 13 (show kd 1 = 13 by decide) (by decide) rfl (by rw [show ln 1 = 5 by decide]; exact hn10) (58 + 52 * a1.toNatClampNeg) (drf13 ((show kd 1 = 13 by decide))) dX6_about_29 ?_
      refine lv_astore (lv' := [(4, .ref (ad (58 + 52 * a1.toNatClampNeg))), (0, .ref (ad 0)), (1, .int a1), (2, .int a2), (3, .int a3)]) hx hb dX6_about_30 hl (by decide) rfl (fun ls hl => ?_)
      refine lv_iload_n hx hb dX6_about_32 rfl (lv_at hl 3 rfl) ?_
      refine lv_if_ne (tgt := 46) hx hb dX6_about_33 (by decide) (fun c_11 => ?_) (fun c_11 => ?_)
      · have h := iN c_11 h
        refine lv_iload_n hx hb dX6_about_46 rfl (lv_at hl 3 rfl) ?_
        refine lv_iconst (v := 1) hx hb dX6_about_47 (by decide) ?_
        refine lv_icmp_ne (tgt := 61) hx hb dX6_about_48 (by decide) (fun c_12 => ?_) (fun c_12 => ?_)
        · have h := iN c_12 h
          refine lv_iload_n hx hb dX6_about_61 rfl (lv_at hl 3 rfl) ?_
          refine lv_iconst (v := 4) hx hb dX6_about_62 (by decide) ?_
          refine lv_icmp_gt (tgt := 99) hx hb dX6_about_63 (by decide) (fun c_13 => ?_) (fun c_13 => ?_)
          · have h := ip c_13 h
            refine lv_aload hx hb dX6_about_99 (lv_at hl 0 rfl) ?_
            refine lv_iload_n hx hb dX6_about_101 rfl (lv_at hl 4 rfl) ?_
            obtain ⟨hk14, h⟩ := gk h
            obtain ⟨r15, hc16, h⟩ := Option.bind_eq_some_iff.mp h
            refine ecV (As := [.int a3]) (rest := []) ⟨hx, hb, hml, hown, hts⟩ (e_X1_hasVariable l D K ad hap0 (58 + 52 * a1.toNatClampNeg) a3 I G A L r15 hc16) (cwV 1 hts gX6_about_X1_hasVariable rfl rfl rfl (by decide +kernel) ⟨Nat.le_of_ble_eq_true rfl, Nat.le_of_ble_eq_true rfl⟩) hK hP hS (s318 hk14.1) hk14.2 (by decide) rfl rfl rfl hl.1 (Nat.le_of_ble_eq_true rfl) (Nat.le_of_ble_eq_true rfl) (Nat.le_of_ble_eq_true rfl) dX6_about_102 (fun H locs hP hS => ?_) rfl
            have hP : va_P D vwCl (VW K ad I G A L) H := hP
            refine lv_if_ne (tgt := 114) hx hb dX6_about_105 (by decide) (fun c_17 => ?_) (fun c_17 => ?_)
            · have h := iN c_17 h
              refine lv_aload_n hx hb dX6_about_114 rfl (lv_at hl 1 rfl) ?_
              refine lv_iload_n hx hb dX6_about_115 rfl (lv_at hl 3 rfl) ?_
              refine lv_iconst (v := 5) hx hb dX6_about_116 (by decide) ?_
              refine lv_icmp_ne (tgt := 130) hx hb dX6_about_117 (by decide) (fun c_18 => ?_) (fun c_18 => ?_)
              · have h := iN c_18 h
                refine lv_aload hx hb dX6_about_130 (lv_at hl 0 rfl) ?_
                refine vgS hx hb hts hi1 hown hK hP (58 + 52 * a1.toNatClampNeg) (s318 hk14.1) hk14.2 (C := RX1) (T := TX1) (N := 9) rfl 5 (by decide) (by decide) (by decide) (by decide) (58 + 52 * a1.toNatClampNeg + 2) rfl (hts (.fieldLink RX6 305 "CrateHelpers$Problem" "kinds" "[I") (by decide +kernel)) (fun _ h9 => h9) dX6_about_132 ?_
                refine lv_iload_n hx hb dX6_about_135 rfl (lv_at hl 4 rfl) ?_
                obtain ⟨hk19, h⟩ := gk h
                obtain ⟨hn20, h⟩ := gk h
                refine xiald hx hb hK hP (58 + 52 * a1.toNatClampNeg + 2) (s318 hk19.1) hk19.2 hn20 dX6_about_136 ?_
                obtain ⟨⟨r21, I22⟩, hc23, h⟩ := Option.bind_eq_some_iff.mp h
                refine ecV (As := [.int (A (58 + 52 * a1.toNatClampNeg + 2) a3.toNatClampNeg)]) (rest := []) ⟨hx, hb, hml, hown, hts⟩ (e_X6_grant l D K ad hap0 (A (58 + 52 * a1.toNatClampNeg + 2) a3.toNatClampNeg) I G A L r21 I22 hc23) (cwV 1 hts gX6_about_X6_grant rfl rfl rfl (by decide +kernel) ⟨Nat.le_of_ble_eq_true rfl, Nat.le_of_ble_eq_true rfl⟩) hK hP hS (by decide) (show kd 0 = 6 by decide) (by decide) rfl rfl rfl hl.1 (Nat.le_of_ble_eq_true rfl) (Nat.le_of_ble_eq_true rfl) (Nat.le_of_ble_eq_true rfl) dX6_about_137 (fun H locs hP hS => ?_) rfl
                have hP : va_P D vwCl (VW K ad I22 G A L) H := hP
                exact W.iret (v := r21) hx hb hr (fun t9 ht9 hW9 => ⟨⟨r21, (I22, G, A, L), rfl, by cases h; exact ⟨rfl, rfl⟩, by rw [ht9]; exact hP, va_K.moved hW9.alike hK⟩, hS.F ht9⟩) hS.2.2 dX6_about_140
              · have h := ip c_18 h
                refine lv_aload hx hb dX6_about_120 (lv_at hl 0 rfl) ?_
                refine vgS hx hb hts hi1 hown hK hP (58 + 52 * a1.toNatClampNeg) (s318 hk14.1) hk14.2 (C := RX1) (T := TX1) (N := 9) rfl 4 (by decide) (by decide) (by decide) (by decide) (58 + 52 * a1.toNatClampNeg + 1) rfl (hts (.fieldLink RX6 235 "CrateHelpers$Problem" "sizes" "[I") (by decide +kernel)) (fun _ h9 => h9) dX6_about_122 ?_
                refine lv_iload_n hx hb dX6_about_125 rfl (lv_at hl 4 rfl) ?_
                obtain ⟨hk24, h⟩ := gk h
                obtain ⟨hn25, h⟩ := gk h
                refine xiald hx hb hK hP (58 + 52 * a1.toNatClampNeg + 1) (s318 hk24.1) hk24.2 hn25 dX6_about_126 ?_
                refine lv_goto (tgt := 137) hx hb dX6_about_127 (by decide) ?_
                obtain ⟨⟨r26, I27⟩, hc28, h⟩ := Option.bind_eq_some_iff.mp h
                refine ecV (As := [.int (A (58 + 52 * a1.toNatClampNeg + 1) a3.toNatClampNeg)]) (rest := []) ⟨hx, hb, hml, hown, hts⟩ (e_X6_grant l D K ad hap0 (A (58 + 52 * a1.toNatClampNeg + 1) a3.toNatClampNeg) I G A L r26 I27 hc28) (cwV 1 hts gX6_about_X6_grant rfl rfl rfl (by decide +kernel) ⟨Nat.le_of_ble_eq_true rfl, Nat.le_of_ble_eq_true rfl⟩) hK hP hS (by decide) (show kd 0 = 6 by decide) (by decide) rfl rfl rfl hl.1 (Nat.le_of_ble_eq_true rfl) (Nat.le_of_ble_eq_true rfl) (Nat.le_of_ble_eq_true rfl) dX6_about_137 (fun H locs hP hS => ?_) rfl
                have hP : va_P D vwCl (VW K ad I27 G A L) H := hP
                exact W.iret (v := r26) hx hb hr (fun t9 ht9 hW9 => ⟨⟨r26, (I27, G, A, L), rfl, by cases h; exact ⟨rfl, rfl⟩, by rw [ht9]; exact hP, va_K.moved hW9.alike hK⟩, hS.F ht9⟩) hS.2.2 dX6_about_140
            · have h := ip c_17 h
              refine lv_aload_n hx hb dX6_about_108 rfl (lv_at hl 1 rfl) ?_
              refine lv_iconst (v := (-1)) hx hb dX6_about_109 (by decide) ?_
              obtain ⟨⟨r29, I30⟩, hc31, h⟩ := Option.bind_eq_some_iff.mp h
              refine ecV (As := [.int (-1)]) (rest := []) ⟨hx, hb, hml, hown, hts⟩ (e_X6_refuse l D K ad hap0 (-1) I G A L r29 I30 hc31) (cwV 1 hts gX6_about_X6_refuse rfl rfl rfl (by decide +kernel) ⟨Nat.le_of_ble_eq_true rfl, Nat.le_of_ble_eq_true rfl⟩) hK hP hS (by decide) (show kd 0 = 6 by decide) (by decide) rfl rfl rfl hl.1 (Nat.le_of_ble_eq_true rfl) (Nat.le_of_ble_eq_true rfl) (Nat.le_of_ble_eq_true rfl) dX6_about_110 (fun H locs hP hS => ?_) rfl
              have hP : va_P D vwCl (VW K ad I30 G A L) H := hP
              exact W.iret (v := r29) hx hb hr (fun t9 ht9 hW9 => ⟨⟨r29, (I30, G, A, L), rfl, by cases h; exact ⟨rfl, rfl⟩, by rw [ht9]; exact hP, va_K.moved hW9.alike hK⟩, hS.F ht9⟩) hS.2.2 dX6_about_113
          · have h := iN c_13 h
            refine lv_aload hx hb dX6_about_66 (lv_at hl 0 rfl) ?_
            refine lv_iload_n hx hb dX6_about_68 rfl (lv_at hl 4 rfl) ?_
            obtain ⟨hk32, h⟩ := gk h
            obtain ⟨r33, hc34, h⟩ := Option.bind_eq_some_iff.mp h
            refine ecV (As := [.int a3]) (rest := []) ⟨hx, hb, hml, hown, hts⟩ (e_X1_hasRule l D K ad hap0 (58 + 52 * a1.toNatClampNeg) a3 I G A L r33 hc34) (cwV 1 hts gX6_about_X1_hasRule rfl rfl rfl (by decide +kernel) ⟨Nat.le_of_ble_eq_true rfl, Nat.le_of_ble_eq_true rfl⟩) hK hP hS (s318 hk32.1) hk32.2 (by decide) rfl rfl rfl hl.1 (Nat.le_of_ble_eq_true rfl) (Nat.le_of_ble_eq_true rfl) (Nat.le_of_ble_eq_true rfl) dX6_about_69 (fun H locs hP hS => ?_) rfl
            have hP : va_P D vwCl (VW K ad I G A L) H := hP
            refine lv_if_eq (tgt := 93) hx hb dX6_about_72 (by decide) (fun c_35 => ?_) (fun c_35 => ?_)
            · have h := ip c_35 h
              refine lv_aload_n hx hb dX6_about_93 rfl (lv_at hl 1 rfl) ?_
              refine lv_iconst (v := (-1)) hx hb dX6_about_94 (by decide) ?_
              obtain ⟨⟨r36, I37⟩, hc38, h⟩ := Option.bind_eq_some_iff.mp h
              refine ecV (As := [.int (-1)]) (rest := []) ⟨hx, hb, hml, hown, hts⟩ (e_X6_refuse l D K ad hap0 (-1) I G A L r36 I37 hc38) (cwV 1 hts gX6_about_X6_refuse rfl rfl rfl (by decide +kernel) ⟨Nat.le_of_ble_eq_true rfl, Nat.le_of_ble_eq_true rfl⟩) hK hP hS (by decide) (show kd 0 = 6 by decide) (by decide) rfl rfl rfl hl.1 (Nat.le_of_ble_eq_true rfl) (Nat.le_of_ble_eq_true rfl) (Nat.le_of_ble_eq_true rfl) dX6_about_95 (fun H locs hP hS => ?_) rfl
              have hP : va_P D vwCl (VW K ad I37 G A L) H := hP
              exact W.iret (v := r36) hx hb hr (fun t9 ht9 hW9 => ⟨⟨r36, (I37, G, A, L), rfl, by cases h; exact ⟨rfl, rfl⟩, by rw [ht9]; exact hP, va_K.moved hW9.alike hK⟩, hS.F ht9⟩) hS.2.2 dX6_about_98
            · have h := iN c_35 h
              refine lv_aload_n hx hb dX6_about_75 rfl (lv_at hl 1 rfl) ?_
              refine lv_aload hx hb dX6_about_76 (lv_at hl 0 rfl) ?_
              refine vgS hx hb hts hi1 hown hK hP (58 + 52 * a1.toNatClampNeg) (s318 hk32.1) hk32.2 (C := RX1) (T := TX1) (N := 9) rfl 7 (by decide) (by decide) (by decide) (by decide) (58 + 52 * a1.toNatClampNeg + 10) rfl (hts (.fieldLink RX6 142 "CrateHelpers$Problem" "rules" "[LCrateHelpers$Rule;") (by decide +kernel)) (fun _ h9 => h9) dX6_about_78 ?_
              refine lv_iload_n hx hb dX6_about_81 rfl (lv_at hl 4 rfl) ?_
              obtain ⟨hk39, h⟩ := gk h
              obtain ⟨hn40, h⟩ := gk h
              refine xaald hx hb hK hP (58 + 52 * a1.toNatClampNeg + 10) (s318 hk39.1) 6 14 hk39.2 (by decide) rfl hn40 (58 + 52 * a1.toNatClampNeg + 12 + 5 * a3.toNatClampNeg) (drf14 (hk39.2)) dX6_about_82 ?_
              refine lv_iload_n hx hb dX6_about_83 rfl (lv_at hl 3 rfl) ?_
              obtain ⟨hk41, h⟩ := gk h
              obtain ⟨r42, hc43, h⟩ := Option.bind_eq_some_iff.mp h
              refine ecV (As := [.int a2]) (rest := [.ref (ad 0)]) ⟨hx, hb, hml, hown, hts⟩ (e_X2_tell l D K ad hap0 (58 + 52 * a1.toNatClampNeg + 12 + 5 * a3.toNatClampNeg) a2 I G A L r42 hc43) (cwV 1 hts gX6_about_X2_tell rfl rfl rfl (by decide +kernel) ⟨Nat.le_of_ble_eq_true rfl, Nat.le_of_ble_eq_true rfl⟩) hK hP hS (s318 hk41.1) hk41.2 (by decide) rfl rfl rfl hl.1 (Nat.le_of_ble_eq_true rfl) (Nat.le_of_ble_eq_true rfl) (Nat.le_of_ble_eq_true rfl) dX6_about_84 (fun H locs hP hS => ?_) rfl
              have hP : va_P D vwCl (VW K ad I G A L) H := hP
              obtain ⟨⟨r44, I45⟩, hc46, h⟩ := Option.bind_eq_some_iff.mp h
              refine ecV (As := [.int r42]) (rest := []) ⟨hx, hb, hml, hown, hts⟩ (e_X6_grant l D K ad hap0 r42 I G A L r44 I45 hc46) (cwV 1 hts gX6_about_X6_grant rfl rfl rfl (by decide +kernel) ⟨Nat.le_of_ble_eq_true rfl, Nat.le_of_ble_eq_true rfl⟩) hK hP hS (by decide) (show kd 0 = 6 by decide) (by decide) rfl rfl rfl hl.1 (Nat.le_of_ble_eq_true rfl) (Nat.le_of_ble_eq_true rfl) (Nat.le_of_ble_eq_true rfl) dX6_about_87 (fun H locs hP hS => ?_) rfl
              have hP : va_P D vwCl (VW K ad I45 G A L) H := hP
              refine lv_goto (tgt := 98) hx hb dX6_about_90 (by decide) ?_
              exact W.iret (v := r44) hx hb hr (fun t9 ht9 hW9 => ⟨⟨r44, (I45, G, A, L), rfl, by cases h; exact ⟨rfl, rfl⟩, by rw [ht9]; exact hP, va_K.moved hW9.alike hK⟩, hS.F ht9⟩) hS.2.2 dX6_about_98
        · have h := ip c_12 h
          refine lv_aload_n hx hb dX6_about_51 rfl (lv_at hl 1 rfl) ?_
          refine lv_aload hx hb dX6_about_52 (lv_at hl 0 rfl) ?_
          obtain ⟨hk47, h⟩ := gk h
          refine vgI hx hb hts hi1 hown hK hP (58 + 52 * a1.toNatClampNeg) (s318 hk47.1) hk47.2 (C := RX1) (T := TX1) (N := 9) rfl 1 (by decide) (by decide) (by decide) (by decide) (hts (.fieldLink RX6 130 "CrateHelpers$Problem" "ruleCount" "I") (by decide +kernel)) (fun _ h9 => h9) dX6_about_54 ?_
          obtain ⟨⟨r48, I49⟩, hc50, h⟩ := Option.bind_eq_some_iff.mp h
          refine ecV (As := [.int (I (58 + 52 * a1.toNatClampNeg) 1)]) (rest := []) ⟨hx, hb, hml, hown, hts⟩ (e_X6_grant l D K ad hap0 (I (58 + 52 * a1.toNatClampNeg) 1) I G A L r48 I49 hc50) (cwV 1 hts gX6_about_X6_grant rfl rfl rfl (by decide +kernel) ⟨Nat.le_of_ble_eq_true rfl, Nat.le_of_ble_eq_true rfl⟩) hK hP hS (by decide) (show kd 0 = 6 by decide) (by decide) rfl rfl rfl hl.1 (Nat.le_of_ble_eq_true rfl) (Nat.le_of_ble_eq_true rfl) (Nat.le_of_ble_eq_true rfl) dX6_about_57 (fun H locs hP hS => ?_) rfl
          have hP : va_P D vwCl (VW K ad I49 G A L) H := hP
          exact W.iret (v := r48) hx hb hr (fun t9 ht9 hW9 => ⟨⟨r48, (I49, G, A, L), rfl, by cases h; exact ⟨rfl, rfl⟩, by rw [ht9]; exact hP, va_K.moved hW9.alike hK⟩, hS.F ht9⟩) hS.2.2 dX6_about_60
      · have h := ip c_11 h
        refine lv_aload_n hx hb dX6_about_36 rfl (lv_at hl 1 rfl) ?_
        refine lv_aload hx hb dX6_about_37 (lv_at hl 0 rfl) ?_
        obtain ⟨hk51, h⟩ := gk h
        refine vgI hx hb hts hi1 hown hK hP (58 + 52 * a1.toNatClampNeg) (s318 hk51.1) hk51.2 (C := RX1) (T := TX1) (N := 9) rfl 0 (by decide) (by decide) (by decide) (by decide) (hts (.fieldLink RX6 103 "CrateHelpers$Problem" "variables" "I") (by decide +kernel)) (fun _ h9 => h9) dX6_about_39 ?_
        obtain ⟨⟨r52, I53⟩, hc54, h⟩ := Option.bind_eq_some_iff.mp h
        refine ecV (As := [.int (I (58 + 52 * a1.toNatClampNeg) 0)]) (rest := []) ⟨hx, hb, hml, hown, hts⟩ (e_X6_grant l D K ad hap0 (I (58 + 52 * a1.toNatClampNeg) 0) I G A L r52 I53 hc54) (cwV 1 hts gX6_about_X6_grant rfl rfl rfl (by decide +kernel) ⟨Nat.le_of_ble_eq_true rfl, Nat.le_of_ble_eq_true rfl⟩) hK hP hS (by decide) (show kd 0 = 6 by decide) (by decide) rfl rfl rfl hl.1 (Nat.le_of_ble_eq_true rfl) (Nat.le_of_ble_eq_true rfl) (Nat.le_of_ble_eq_true rfl) dX6_about_42 (fun H locs hP hS => ?_) rfl
        have hP : va_P D vwCl (VW K ad I53 G A L) H := hP
        exact W.iret (v := r52) hx hb hr (fun t9 ht9 hW9 => ⟨⟨r52, (I53, G, A, L), rfl, by cases h; exact ⟨rfl, rfl⟩, by rw [ht9]; exact hP, va_K.moved hW9.alike hK⟩, hS.F ht9⟩) hS.2.2 dX6_about_45
    · have h := ip c_9 h
      refine lv_aload_n hx hb dX6_about_18 rfl (lv_at hl 0 rfl) ?_
      refine lv_iconst (v := (-1)) hx hb dX6_about_19 (by decide) ?_
      obtain ⟨⟨r55, I56⟩, hc57, h⟩ := Option.bind_eq_some_iff.mp h
      refine ecV (As := [.int (-1)]) (rest := []) ⟨hx, hb, hml, hown, hts⟩ (e_X6_refuse l D K ad hap0 (-1) I G A L r55 I56 hc57) (cwV 1 hts gX6_about_X6_refuse rfl rfl rfl (by decide +kernel) ⟨Nat.le_of_ble_eq_true rfl, Nat.le_of_ble_eq_true rfl⟩) hK hP hS (by decide) (show kd 0 = 6 by decide) (by decide) rfl rfl rfl hl.1 (Nat.le_of_ble_eq_true rfl) (Nat.le_of_ble_eq_true rfl) (Nat.le_of_ble_eq_true rfl) dX6_about_20 (fun H locs hP hS => ?_) rfl
      have hP : va_P D vwCl (VW K ad I56 G A L) H := hP
      exact W.iret (v := r55) hx hb hr (fun t9 ht9 hW9 => ⟨⟨r55, (I56, G, A, L), rfl, by cases h; exact ⟨rfl, rfl⟩, by rw [ht9]; exact hP, va_K.moved hW9.alike hK⟩, hS.F ht9⟩) hS.2.2 dX6_about_23
set_option maxHeartbeats 4000000 in
set_option maxRecDepth 100000 in
theorem e_X6_answer (l : Launch) (D : va_G) (K : Nat → ClassId) (ad : Nat → Nat) (hap0 : apart ad (fun _ => True)) (a1 : Int32) (a2 : Int32) (I : Nat → Nat → Int32) (G : Nat → Nat → Nat) (A : Nat → Nat → Int32) (L : Nat → Nat → Int64) (r0 : Int32) (h : f_X6_answer I A a1 a2 = some r0) : Ci l D K ad yX6_answer wsX6_answer 2 49 [.ref (ad 0), .int a1, .int a2] (I, G, A, L) (fun (r : Int32) (u : Mem) => r = r0 ∧ u = (I, G, A, L)) := by
  intro sz
  refine Met.ofW (cc := cX6_answer) (maxL := 4) (ret := (some .int)) (by decide) rfl ?_
  intro p e s m args below meth c s₁ Bd hml hv0
  obtain ⟨rfl, hsz, hP, hK⟩ := hv0
  have hx := Bd.exec
  have hb := Bd.bytes
  have hr := Bd.returns
  have hts := atoms_spec (ws := wsX6_answer) Bd.pre
  have hown : s.vm.findClass RX6 = some m.cls := findClass_of_methodNamed Bd.named
  have hlocks := Bd.notSynchronized
  have hi6 : ∀ w ∈ u_ws RX6 TX6 18, w ∈ wsX6_answer := fun w h => List.mem_cons_of_mem _ (List.mem_append_left _ (List.mem_append_right _ h))
  have hi1 : ∀ w ∈ u_ws RX1 TX1 9, w ∈ wsX6_answer := fun w h => List.mem_cons_of_mem _ (List.mem_append_right _ h)
  subst hsz
  have hap := vF_ap hap0 s.heap.size
  have hS : va_S (vF ad s.heap.size) s.heap s.heap [] := va_S.rf
  have hP : va_P D vwCl (VW K ad I G A L) s.heap := hP
  have hl := lv_entry ([.ref (ad 0), .int a1, .int a2]) (n := 4) (Nat.le_of_ble_eq_true rfl)
  rw [lg_entry_eq]
  generalize (lg_sl ([.ref (ad 0), .int a1, .int a2]) ++ List.replicate (4 - (lg_sl ([.ref (ad 0), .int a1, .int a2])).length) Slot.unset).toArray = ls at hl ⊢
  have hl : lv_has ls 4 [(0, .ref (ad 0)), (1, .int a1), (2, .int a2)] := hl
  rw [f_X6_answer] at h
  refine lv_aload_n hx hb dX6_answer_0 rfl (lv_at hl 0 rfl) ?_
  refine lv_iload_n hx hb dX6_answer_1 rfl (lv_at hl 1 rfl) ?_
  obtain ⟨r1, hc2, h⟩ := Option.bind_eq_some_iff.mp h
  refine ecV (As := [.int a1]) (rest := []) ⟨hx, hb, hml, hown, hts⟩ (e_X6_isProblem l D K ad hap0 a1 I G A L r1 hc2) (cwV 1 hts gX6_answer_X6_isProblem rfl rfl rfl (by decide +kernel) ⟨Nat.le_of_ble_eq_true rfl, Nat.le_of_ble_eq_true rfl⟩) hK hP hS (by decide) (show kd 0 = 6 by decide) (by decide) rfl rfl rfl hl.1 (Nat.le_of_ble_eq_true rfl) (Nat.le_of_ble_eq_true rfl) (Nat.le_of_ble_eq_true rfl) dX6_answer_2 (fun H locs hP hS => ?_) rfl
  have hP : va_P D vwCl (VW K ad I G A L) H := hP
  refine lv_if_eq (tgt := 21) hx hb dX6_answer_5 (by decide) (fun c_3 => ?_) (fun c_3 => ?_)
  · have h := ip c_3 h
    refine lv_iconst (v := (-1)) hx hb dX6_answer_21 (by decide) ?_
    exact W.iret (v := (-1)) hx hb hr (fun t9 ht9 hW9 => ⟨⟨(-1), (I, G, A, L), rfl, by cases h; exact ⟨rfl, rfl⟩, by rw [ht9]; exact hP, va_K.moved hW9.alike hK⟩, hS.F ht9⟩) hS.2.2 dX6_answer_22
  · have h := iN c_3 h
    refine lv_aload_n hx hb dX6_answer_8 rfl (lv_at hl 0 rfl) ?_
    refine vgC hx hb hts hi6 hown hK hP (0) (by decide) (show kd 0 = 6 by decide) (C := RX6) (T := TX6) (N := 18) rfl 0 (by decide) (by decide) (by decide) (by decide) (1) rfl (hts (.fieldLink RX6 11 "CrateHelpers" "problems" "[LCrateHelpers$Problem;") (by decide +kernel)) (fun _ h9 => h9) dX6_answer_9 ?_
    refine lv_iload_n hx hb dX6_answer_12 rfl (lv_at hl 1 rfl) ?_
    obtain ⟨hn4, h⟩ := gk h
    refine xaald hx hb hK hP (1) (by decide) 5 13 (show kd 1 = 13 by decide) (by decide) rfl (by rw [show ln 1 = 5 by decide]; exact hn4) (58 + 52 * a1.toNatClampNeg) (drf13 ((show kd 1 = 13 by decide))) dX6_answer_13 ?_
    refine lv_iload_n hx hb dX6_answer_14 rfl (lv_at hl 2 rfl) ?_
    obtain ⟨hk5, h⟩ := gk h
    obtain ⟨r6, hc7, h⟩ := Option.bind_eq_some_iff.mp h
    refine ecV (As := [.int a2]) (rest := []) ⟨hx, hb, hml, hown, hts⟩ (e_X1_hasVariable l D K ad hap0 (58 + 52 * a1.toNatClampNeg) a2 I G A L r6 hc7) (cwV 1 hts gX6_answer_X1_hasVariable rfl rfl rfl (by decide +kernel) ⟨Nat.le_of_ble_eq_true rfl, Nat.le_of_ble_eq_true rfl⟩) hK hP hS (s318 hk5.1) hk5.2 (by decide) rfl rfl rfl hl.1 (Nat.le_of_ble_eq_true rfl) (Nat.le_of_ble_eq_true rfl) (Nat.le_of_ble_eq_true rfl) dX6_answer_15 (fun H locs hP hS => ?_) rfl
    have hP : va_P D vwCl (VW K ad I G A L) H := hP
    refine lv_if_ne (tgt := 23) hx hb dX6_answer_18 (by decide) (fun c_8 => ?_) (fun c_8 => ?_)
    · have h := iN c_8 h
      refine lv_aload_n hx hb dX6_answer_23 rfl (lv_at hl 0 rfl) ?_
      refine vgC hx hb hts hi6 hown hK hP (0) (by decide) (show kd 0 = 6 by decide) (C := RX6) (T := TX6) (N := 18) rfl 0 (by decide) (by decide) (by decide) (by decide) (1) rfl (hts (.fieldLink RX6 11 "CrateHelpers" "problems" "[LCrateHelpers$Problem;") (by decide +kernel)) (fun _ h9 => h9) dX6_answer_24 ?_
      refine lv_iload_n hx hb dX6_answer_27 rfl (lv_at hl 1 rfl) ?_
      refine xaald hx hb hK hP (1) (by decide) 5 13 (show kd 1 = 13 by decide) (by decide) rfl (by rw [show ln 1 = 5 by decide]; exact hn4) (58 + 52 * a1.toNatClampNeg) (drf13 ((show kd 1 = 13 by decide))) dX6_answer_28 ?_
      refine lv_astore_n (lv' := [(3, .ref (ad (58 + 52 * a1.toNatClampNeg))), (0, .ref (ad 0)), (1, .int a1), (2, .int a2)]) hx hb dX6_answer_29 rfl hl (by decide) rfl (fun ls hl => ?_)
      refine lv_aload_n hx hb dX6_answer_30 rfl (lv_at hl 0 rfl) ?_
      refine vgI hx hb hts hi1 hown hK hP (58 + 52 * a1.toNatClampNeg) (s318 hk5.1) hk5.2 (C := RX1) (T := TX1) (N := 9) rfl 3 (by decide) (by decide) (by decide) (by decide) (hts (.fieldLink RX6 185 "CrateHelpers$Problem" "hasEnded" "Z") (by decide +kernel)) (fun _ h9 => h9) dX6_answer_31 ?_
      refine lv_if_eq (tgt := 49) hx hb dX6_answer_34 (by decide) (fun c_9 => ?_) (fun c_9 => ?_)
      · have h := ip c_9 h
        refine lv_bipush (v := (-9)) hx hb dX6_answer_49 (by decide) ?_
        exact W.iret (v := (-9)) hx hb hr (fun t9 ht9 hW9 => ⟨⟨(-9), (I, G, A, L), rfl, by cases h; exact ⟨rfl, rfl⟩, by rw [ht9]; exact hP, va_K.moved hW9.alike hK⟩, hS.F ht9⟩) hS.2.2 dX6_answer_51
      · have h := iN c_9 h
        refine lv_aload_n hx hb dX6_answer_37 rfl (lv_at hl 0 rfl) ?_
        refine vgS hx hb hts hi1 hown hK hP (58 + 52 * a1.toNatClampNeg) (s318 hk5.1) hk5.2 (C := RX1) (T := TX1) (N := 9) rfl 8 (by decide) (by decide) (by decide) (by decide) (58 + 52 * a1.toNatClampNeg + 11) rfl (hts (.fieldLink RX6 189 "CrateHelpers$Problem" "outcome" "[I") (by decide +kernel)) (fun _ h9 => h9) dX6_answer_38 ?_
        refine lv_bipush (v := 6) hx hb dX6_answer_41 (by decide) ?_
        refine lv_iload_n hx hb dX6_answer_43 rfl (lv_at hl 3 rfl) ?_
        refine lv_iadd hx hb dX6_answer_44 ?_
        obtain ⟨hk10, h⟩ := gk h
        obtain ⟨hn11, h⟩ := gk h
        refine xiald hx hb hK hP (58 + 52 * a1.toNatClampNeg + 11) (s318 hk10.1) hk10.2 hn11 dX6_answer_45 ?_
        refine lv_goto (tgt := 51) hx hb dX6_answer_46 (by decide) ?_
        exact W.iret (v := (A (58 + 52 * a1.toNatClampNeg + 11) ((6 + a2).toNatClampNeg))) hx hb hr (fun t9 ht9 hW9 => ⟨⟨(A (58 + 52 * a1.toNatClampNeg + 11) ((6 + a2).toNatClampNeg)), (I, G, A, L), rfl, by cases h; exact ⟨rfl, rfl⟩, by rw [ht9]; exact hP, va_K.moved hW9.alike hK⟩, hS.F ht9⟩) hS.2.2 dX6_answer_51
    · have h := ip c_8 h
      refine lv_iconst (v := (-1)) hx hb dX6_answer_21 (by decide) ?_
      exact W.iret (v := (-1)) hx hb hr (fun t9 ht9 hW9 => ⟨⟨(-1), (I, G, A, L), rfl, by cases h; exact ⟨rfl, rfl⟩, by rw [ht9]; exact hP, va_K.moved hW9.alike hK⟩, hS.F ht9⟩) hS.2.2 dX6_answer_22
set_option maxHeartbeats 4000000 in
set_option maxRecDepth 100000 in
theorem e_X6_asNumber (l : Launch) (D : va_G) (K : Nat → ClassId) (ad : Nat → Nat) (hap0 : apart ad (fun _ => True)) (a0 : Int32) (I : Nat → Nat → Int32) (G : Nat → Nat → Nat) (A : Nat → Nat → Int32) (L : Nat → Nat → Int64) (r0 : Int32) (h : f_X6_asNumber a0 = some r0) : Ci l D K ad yX6_asNumber wsX6_asNumber 0 0 [.int a0] (I, G, A, L) (fun (r : Int32) (u : Mem) => r = r0 ∧ u = (I, G, A, L)) := by
  intro sz
  refine Met.ofW (cc := cX6_asNumber) (maxL := 1) (ret := (some .int)) (by decide) rfl ?_
  intro p e s m args below meth c s₁ Bd hml hv0
  obtain ⟨rfl, hsz, hP, hK⟩ := hv0
  have hx := Bd.exec
  have hb := Bd.bytes
  have hr := Bd.returns
  have hts := atoms_spec (ws := wsX6_asNumber) Bd.pre
  have hown : s.vm.findClass RX6 = some m.cls := findClass_of_methodNamed Bd.named
  have hlocks := Bd.notSynchronized
  subst hsz
  have hap := vF_ap hap0 s.heap.size
  have hS : va_S (vF ad s.heap.size) s.heap s.heap [] := va_S.rf
  have hP : va_P D vwCl (VW K ad I G A L) s.heap := hP
  have hl := lv_entry ([.int a0]) (n := 1) (Nat.le_of_ble_eq_true rfl)
  rw [lg_entry_eq]
  generalize (lg_sl ([.int a0]) ++ List.replicate (1 - (lg_sl ([.int a0])).length) Slot.unset).toArray = ls at hl ⊢
  have hl : lv_has ls 1 [(0, .int a0)] := hl
  rw [f_X6_asNumber] at h
  refine lv_iload_n hx hb dX6_asNumber_0 rfl (lv_at hl 0 rfl) ?_
  refine lv_if_eq (tgt := 8) hx hb dX6_asNumber_1 (by decide) (fun c_1 => ?_) (fun c_1 => ?_)
  · have h := ip c_1 h
    refine lv_iconst (v := 0) hx hb dX6_asNumber_8 (by decide) ?_
    exact W.iret (v := 0) hx hb hr (fun t9 ht9 hW9 => ⟨⟨0, (I, G, A, L), rfl, by cases h; exact ⟨rfl, rfl⟩, by rw [ht9]; exact hP, va_K.moved hW9.alike hK⟩, hS.F ht9⟩) hS.2.2 dX6_asNumber_9
  · have h := iN c_1 h
    refine lv_iconst (v := 1) hx hb dX6_asNumber_4 (by decide) ?_
    refine lv_goto (tgt := 9) hx hb dX6_asNumber_5 (by decide) ?_
    exact W.iret (v := 1) hx hb hr (fun t9 ht9 hW9 => ⟨⟨1, (I, G, A, L), rfl, by cases h; exact ⟨rfl, rfl⟩, by rw [ht9]; exact hP, va_K.moved hW9.alike hK⟩, hS.F ht9⟩) hS.2.2 dX6_asNumber_9
set_option maxHeartbeats 4000000 in
set_option maxRecDepth 100000 in
theorem e_X6_ask (l : Launch) (D : va_G) (K : Nat → ClassId) (ad : Nat → Nat) (hap0 : apart ad (fun _ => True)) (a1 : Int32) (I : Nat → Nat → Int32) (G : Nat → Nat → Nat) (A : Nat → Nat → Int32) (L : Nat → Nat → Int64) (r0 : Int32) (I0 : Nat → Nat → Int32) (A0 : Nat → Nat → Int32) (h : f_X6_ask I A a1 = some (r0, I0, A0)) : Ci l D K ad yX6_ask wsX6_ask 2 49 [.ref (ad 0), .int a1] (I, G, A, L) (fun (r : Int32) (u : Mem) => r = r0 ∧ u = (I0, G, A0, L)) := by
  intro sz
  refine Met.ofW (cc := cX6_ask) (maxL := 2) (ret := (some .int)) (by decide) rfl ?_
  intro p e s m args below meth c s₁ Bd hml hv0
  obtain ⟨rfl, hsz, hP, hK⟩ := hv0
  have hx := Bd.exec
  have hb := Bd.bytes
  have hr := Bd.returns
  have hts := atoms_spec (ws := wsX6_ask) Bd.pre
  have hown : s.vm.findClass RX6 = some m.cls := findClass_of_methodNamed Bd.named
  have hlocks := Bd.notSynchronized
  have hi6 : ∀ w ∈ u_ws RX6 TX6 18, w ∈ wsX6_ask := fun w h => List.mem_cons_of_mem _ (List.mem_append_left _ (List.mem_append_right _ h))
  have hi1 : ∀ w ∈ u_ws RX1 TX1 9, w ∈ wsX6_ask := fun w h => List.mem_cons_of_mem _ (List.mem_append_right _ h)
  subst hsz
  have hap := vF_ap hap0 s.heap.size
  have hS : va_S (vF ad s.heap.size) s.heap s.heap [] := va_S.rf
  have hP : va_P D vwCl (VW K ad I G A L) s.heap := hP
  have hl := lv_entry ([.ref (ad 0), .int a1]) (n := 2) (Nat.le_of_ble_eq_true rfl)
  rw [lg_entry_eq]
  generalize (lg_sl ([.ref (ad 0), .int a1]) ++ List.replicate (2 - (lg_sl ([.ref (ad 0), .int a1])).length) Slot.unset).toArray = ls at hl ⊢
  have hl : lv_has ls 2 [(0, .ref (ad 0)), (1, .int a1)] := hl
  rw [f_X6_ask] at h
  refine lv_aload_n hx hb dX6_ask_0 rfl (lv_at hl 0 rfl) ?_
  refine lv_iload_n hx hb dX6_ask_1 rfl (lv_at hl 1 rfl) ?_
  obtain ⟨r1, hc2, h⟩ := Option.bind_eq_some_iff.mp h
  refine ecV (As := [.int a1]) (rest := []) ⟨hx, hb, hml, hown, hts⟩ (e_X6_isProblem l D K ad hap0 a1 I G A L r1 hc2) (cwV 1 hts gX6_ask_X6_isProblem rfl rfl rfl (by decide +kernel) ⟨Nat.le_of_ble_eq_true rfl, Nat.le_of_ble_eq_true rfl⟩) hK hP hS (by decide) (show kd 0 = 6 by decide) (by decide) rfl rfl rfl hl.1 (Nat.le_of_ble_eq_true rfl) (Nat.le_of_ble_eq_true rfl) (Nat.le_of_ble_eq_true rfl) dX6_ask_2 (fun H locs hP hS => ?_) rfl
  have hP : va_P D vwCl (VW K ad I G A L) H := hP
  refine lv_if_ne (tgt := 10) hx hb dX6_ask_5 (by decide) (fun c_3 => ?_) (fun c_3 => ?_)
  · have h := iN c_3 h
    refine lv_aload_n hx hb dX6_ask_10 rfl (lv_at hl 0 rfl) ?_
    refine lv_iload_n hx hb dX6_ask_11 rfl (lv_at hl 1 rfl) ?_
    refine vpI (v := a1) (ty := .int) hx hb hts hi6 tyX6 tyX6_ok nmX6 hown hK hP hap hS (0) (by decide) (show kd 0 = 6 by decide) (C := RX6) (T := TX6) (N := 18) rfl 7 (by decide) (by decide) (by decide) (by decide) (hts (.fieldLink RX6 32 "CrateHelpers" "asked" "I") (by decide +kernel)) (fun _ h9 => h9) rfl (by decide +kernel) rfl rfl dX6_ask_12 (fun H locs hP hS => ?_)
    obtain ⟨I4, eI4, h⟩ := bd_e h
    rw [← eI4] at hP
    have hP : va_P D vwCl (VW K ad I4 G A L) H := hP
    refine lv_aload_n hx hb dX6_ask_15 rfl (lv_at hl 0 rfl) ?_
    refine lv_aload_n hx hb dX6_ask_16 rfl (lv_at hl 0 rfl) ?_
    refine vgC hx hb hts hi6 hown hK hP (0) (by decide) (show kd 0 = 6 by decide) (C := RX6) (T := TX6) (N := 18) rfl 0 (by decide) (by decide) (by decide) (by decide) (1) rfl (hts (.fieldLink RX6 11 "CrateHelpers" "problems" "[LCrateHelpers$Problem;") (by decide +kernel)) (fun _ h9 => h9) dX6_ask_17 ?_
    refine lv_iload_n hx hb dX6_ask_20 rfl (lv_at hl 1 rfl) ?_
    obtain ⟨hn5, h⟩ := gk h
    refine xaald hx hb hK hP (1) (by decide) 5 13 (show kd 1 = 13 by decide) (by decide) rfl (by rw [show ln 1 = 5 by decide]; exact hn5) (58 + 52 * a1.toNatClampNeg) (drf13 ((show kd 1 = 13 by decide))) dX6_ask_21 ?_
    obtain ⟨hk6, h⟩ := gk h
    refine vgI hx hb hts hi1 hown hK hP (58 + 52 * a1.toNatClampNeg) (s318 hk6.1) hk6.2 (C := RX1) (T := TX1) (N := 9) rfl 2 (by decide) (by decide) (by decide) (by decide) (hts (.fieldLink RX6 232 "CrateHelpers$Problem" "changes" "I") (by decide +kernel)) (fun _ h9 => h9) dX6_ask_22 ?_
    refine vpI (v := (I4 (58 + 52 * a1.toNatClampNeg) 2)) (ty := .int) hx hb hts hi6 tyX6 tyX6_ok nmX6 hown hK hP hap hS (0) (by decide) (show kd 0 = 6 by decide) (C := RX6) (T := TX6) (N := 18) rfl 8 (by decide) (by decide) (by decide) (by decide) (hts (.fieldLink RX6 35 "CrateHelpers" "askedAtChange" "I") (by decide +kernel)) (fun _ h9 => h9) rfl (by decide +kernel) rfl rfl dX6_ask_25 (fun H locs hP hS => ?_)
    obtain ⟨I7, eI7, h⟩ := bd_e h
    rw [← eI7] at hP
    have hP : va_P D vwCl (VW K ad I7 G A L) H := hP
    refine lv_aload_n hx hb dX6_ask_28 rfl (lv_at hl 0 rfl) ?_
    refine lv_iconst (v := 0) hx hb dX6_ask_29 (by decide) ?_
    refine vpI (v := 0) (ty := .int) hx hb hts hi6 tyX6 tyX6_ok nmX6 hown hK hP hap hS (0) (by decide) (show kd 0 = 6 by decide) (C := RX6) (T := TX6) (N := 18) rfl 9 (by decide) (by decide) (by decide) (by decide) (hts (.fieldLink RX6 38 "CrateHelpers" "askedDepth" "I") (by decide +kernel)) (fun _ h9 => h9) rfl (by decide +kernel) rfl rfl dX6_ask_30 (fun H locs hP hS => ?_)
    obtain ⟨I8, eI8, h⟩ := bd_e h
    rw [← eI8] at hP
    have hP : va_P D vwCl (VW K ad I8 G A L) H := hP
    refine lv_aload_n hx hb dX6_ask_33 rfl (lv_at hl 0 rfl) ?_
    refine vgC hx hb hts hi6 hown hK hP (0) (by decide) (show kd 0 = 6 by decide) (C := RX6) (T := TX6) (N := 18) rfl 10 (by decide) (by decide) (by decide) (by decide) (18) rfl (hts (.fieldLink RX6 41 "CrateHelpers" "askedValues" "[I") (by decide +kernel)) (fun _ h9 => h9) dX6_ask_34 ?_
    refine lv_iconst (v := (-1)) hx hb dX6_ask_37 (by decide) ?_
    obtain ⟨A9, hc10, h⟩ := Option.bind_eq_some_iff.mp h
    refine ecSv (As := [.ref (ad 18), .int (-1)]) (rest := []) ⟨hx, hb, hml, hown, hts⟩ (e_J7_fill_53178 l D K ad hap0 18 (-1) I8 G A L A9 hc10) (va_cwS 2 hts gX6_ask_J7_fill_53178 rfl rfl rfl (by decide +kernel) ⟨Nat.le_of_ble_eq_true rfl, Nat.le_of_ble_eq_true rfl⟩) hK hP hS rfl hl.1 (Nat.le_of_ble_eq_true rfl) (Nat.le_of_ble_eq_true rfl) (Nat.le_of_ble_eq_true rfl) dX6_ask_38 (fun H locs hP hS => ?_) rfl
    have hP : va_P D vwCl (VW K ad I8 G A9 L) H := hP
    refine lv_aload_n hx hb dX6_ask_41 rfl (lv_at hl 0 rfl) ?_
    refine vgC hx hb hts hi6 hown hK hP (0) (by decide) (show kd 0 = 6 by decide) (C := RX6) (T := TX6) (N := 18) rfl 0 (by decide) (by decide) (by decide) (by decide) (1) rfl (hts (.fieldLink RX6 11 "CrateHelpers" "problems" "[LCrateHelpers$Problem;") (by decide +kernel)) (fun _ h9 => h9) dX6_ask_42 ?_
    refine lv_iload_n hx hb dX6_ask_45 rfl (lv_at hl 1 rfl) ?_
    refine xaald hx hb hK hP (1) (by decide) 5 13 (show kd 1 = 13 by decide) (by decide) rfl (by rw [show ln 1 = 5 by decide]; exact hn5) (58 + 52 * a1.toNatClampNeg) (drf13 ((show kd 1 = 13 by decide))) dX6_ask_46 ?_
    refine vgI hx hb hts hi1 hown hK hP (58 + 52 * a1.toNatClampNeg) (s318 hk6.1) hk6.2 (C := RX1) (T := TX1) (N := 9) rfl 0 (by decide) (by decide) (by decide) (by decide) (hts (.fieldLink RX6 103 "CrateHelpers$Problem" "variables" "I") (by decide +kernel)) (fun _ h9 => h9) dX6_ask_47 ?_
    exact W.iret (v := (I8 (58 + 52 * a1.toNatClampNeg) 0)) hx hb hr (fun t9 ht9 hW9 => ⟨⟨(I8 (58 + 52 * a1.toNatClampNeg) 0), (I8, G, A9, L), rfl, by cases h; exact ⟨rfl, rfl⟩, by rw [ht9]; exact hP, va_K.moved hW9.alike hK⟩, hS.F ht9⟩) hS.2.2 dX6_ask_50
  · have h := ip c_3 h
    refine lv_iconst (v := (-1)) hx hb dX6_ask_8 (by decide) ?_
    exact W.iret (v := (-1)) hx hb hr (fun t9 ht9 hW9 => ⟨⟨(-1), (I, G, A, L), rfl, by cases h; exact ⟨rfl, rfl⟩, by rw [ht9]; exact hP, va_K.moved hW9.alike hK⟩, hS.F ht9⟩) hS.2.2 dX6_ask_9
set_option maxHeartbeats 4000000 in
set_option maxRecDepth 100000 in
theorem e_X5_widthBelow (l : Launch) (D : va_G) (K : Nat → ClassId) (ad : Nat → Nat) (hap0 : apart ad (fun _ => True)) (o : Nat) (a1 : Int32) (I : Nat → Nat → Int32) (G : Nat → Nat → Nat) (A : Nat → Nat → Int32) (L : Nat → Nat → Int64) (r0 : Int32) (h : f_X5_widthBelow G A o a1 = some r0) : Ci l D K ad yX5_widthBelow wsX5_widthBelow 0 0 [.ref (ad o), .int a1] (I, G, A, L) (fun (r : Int32) (u : Mem) => r = r0 ∧ u = (I, G, A, L)) := by
  intro sz
  refine Met.ofW (cc := cX5_widthBelow) (maxL := 2) (ret := (some .int)) (by decide) rfl ?_
  intro p e s m args below meth c s₁ Bd hml hv0
  obtain ⟨rfl, hsz, hP, hK⟩ := hv0
  have hx := Bd.exec
  have hb := Bd.bytes
  have hr := Bd.returns
  have hts := atoms_spec (ws := wsX5_widthBelow) Bd.pre
  have hown : s.vm.findClass RX5 = some m.cls := findClass_of_methodNamed Bd.named
  have hlocks := Bd.notSynchronized
  have hi5 : ∀ w ∈ u_ws RX5 TX5 16, w ∈ wsX5_widthBelow := fun w h => List.mem_cons_of_mem _ (List.mem_append_left _ (List.mem_append_right _ h))
  have hi1 : ∀ w ∈ u_ws RX1 TX1 9, w ∈ wsX5_widthBelow := fun w h => List.mem_cons_of_mem _ (List.mem_append_right _ h)
  subst hsz
  have hap := vF_ap hap0 s.heap.size
  have hS : va_S (vF ad s.heap.size) s.heap s.heap [] := va_S.rf
  have hP : va_P D vwCl (VW K ad I G A L) s.heap := hP
  have hl := lv_entry ([.ref (ad o), .int a1]) (n := 2) (Nat.le_of_ble_eq_true rfl)
  rw [lg_entry_eq]
  generalize (lg_sl ([.ref (ad o), .int a1]) ++ List.replicate (2 - (lg_sl ([.ref (ad o), .int a1])).length) Slot.unset).toArray = ls at hl ⊢
  have hl : lv_has ls 2 [(0, .ref (ad o)), (1, .int a1)] := hl
  rw [f_X5_widthBelow] at h
  refine lv_aload_n hx hb dX5_widthBelow_0 rfl (lv_at hl 0 rfl) ?_
  obtain ⟨hk1, h⟩ := gk h
  refine vgS hx hb hts hi5 hown hK hP (o) (s318 hk1.1) hk1.2 (C := RX5) (T := TX5) (N := 16) rfl 6 (by decide) (by decide) (by decide) (by decide) (o + 7) rfl (hts (.fieldLink RX5 69 "CrateHelpers$Tree" "firstBelow" "[S") (by decide +kernel)) (fun _ h9 => h9) dX5_widthBelow_1 ?_
  refine lv_iload_n hx hb dX5_widthBelow_4 rfl (lv_at hl 1 rfl) ?_
  obtain ⟨hk2, h⟩ := gk h
  obtain ⟨hn3, h⟩ := gk h
  refine xsald hx hb hK hP (o + 7) (s318 hk2.1) hk2.2 hn3 dX5_widthBelow_5 ?_
  refine lv_iconst (v := (-1)) hx hb dX5_widthBelow_6 (by decide) ?_
  refine lv_icmp_ne (tgt := 14) hx hb dX5_widthBelow_7 (by decide) (fun c_4 => ?_) (fun c_4 => ?_)
  · have h := iN c_4 h
    refine lv_aload_n hx hb dX5_widthBelow_14 rfl (lv_at hl 0 rfl) ?_
    refine vgG hx hb hts hi5 hown hK hP (o) (s318 hk1.1) hk1.2 (C := RX5) (T := TX5) (N := 16) rfl 14 (by decide) (by decide) (by decide) (by decide) (hts (.fieldLink RX5 45 "CrateHelpers$Tree" "problem" "LCrateHelpers$Problem;") (by decide +kernel)) (fun _ h9 => h9) dX5_widthBelow_15 ?_
    obtain ⟨hk5, h⟩ := gk h
    refine vgS hx hb hts hi1 hown hK hP (G o 14) (s318 hk5.1) hk5.2 (C := RX1) (T := TX1) (N := 9) rfl 4 (by decide) (by decide) (by decide) (by decide) (G o 14 + 1) rfl (hts (.fieldLink RX5 108 "CrateHelpers$Problem" "sizes" "[I") (by decide +kernel)) (fun _ h9 => h9) dX5_widthBelow_18 ?_
    refine lv_aload_n hx hb dX5_widthBelow_21 rfl (lv_at hl 0 rfl) ?_
    refine vgS hx hb hts hi5 hown hK hP (o) (s318 hk1.1) hk1.2 (C := RX5) (T := TX5) (N := 16) rfl 1 (by decide) (by decide) (by decide) (by decide) (o + 2) rfl (hts (.fieldLink RX5 53 "CrateHelpers$Tree" "depth" "[B") (by decide +kernel)) (fun _ h9 => h9) dX5_widthBelow_22 ?_
    refine lv_iload_n hx hb dX5_widthBelow_25 rfl (lv_at hl 1 rfl) ?_
    obtain ⟨hk6, h⟩ := gk h
    obtain ⟨hn7, h⟩ := gk h
    refine xbald hx hb hK hP (o + 2) (s318 hk6.1) hk6.2 hn7 dX5_widthBelow_26 ?_
    obtain ⟨hk8, h⟩ := gk h
    obtain ⟨hn9, h⟩ := gk h
    refine xiald hx hb hK hP (G o 14 + 1) (s318 hk8.1) hk8.2 hn9 dX5_widthBelow_27 ?_
    exact W.iret (v := (A (G o 14 + 1) ((A (o + 2) a1.toNatClampNeg).toNatClampNeg))) hx hb hr (fun t9 ht9 hW9 => ⟨⟨(A (G o 14 + 1) ((A (o + 2) a1.toNatClampNeg).toNatClampNeg)), (I, G, A, L), rfl, by cases h; exact ⟨rfl, rfl⟩, by rw [ht9]; exact hP, va_K.moved hW9.alike hK⟩, hS.F ht9⟩) hS.2.2 dX5_widthBelow_28
  · have h := ip c_4 h
    refine lv_iconst (v := 0) hx hb dX5_widthBelow_10 (by decide) ?_
    refine lv_goto (tgt := 28) hx hb dX5_widthBelow_11 (by decide) ?_
    exact W.iret (v := 0) hx hb hr (fun t9 ht9 hW9 => ⟨⟨0, (I, G, A, L), rfl, by cases h; exact ⟨rfl, rfl⟩, by rw [ht9]; exact hP, va_K.moved hW9.alike hK⟩, hS.F ht9⟩) hS.2.2 dX5_widthBelow_28
set_option maxHeartbeats 4000000 in
set_option maxRecDepth 100000 in
theorem e_X5_below (l : Launch) (D : va_G) (K : Nat → ClassId) (ad : Nat → Nat) (hap0 : apart ad (fun _ => True)) (o : Nat) (a1 : Int32) (a2 : Int32) (I : Nat → Nat → Int32) (G : Nat → Nat → Nat) (A : Nat → Nat → Int32) (L : Nat → Nat → Int64) (r0 : Int32) (h : f_X5_below G A o a1 a2 = some r0) : Ci l D K ad yX5_below wsX5_below 1 24 [.ref (ad o), .int a1, .int a2] (I, G, A, L) (fun (r : Int32) (u : Mem) => r = r0 ∧ u = (I, G, A, L)) := by
  intro sz
  refine Met.ofW (cc := cX5_below) (maxL := 3) (ret := (some .int)) (by decide) rfl ?_
  intro p e s m args below meth c s₁ Bd hml hv0
  obtain ⟨rfl, hsz, hP, hK⟩ := hv0
  have hx := Bd.exec
  have hb := Bd.bytes
  have hr := Bd.returns
  have hts := atoms_spec (ws := wsX5_below) Bd.pre
  have hown : s.vm.findClass RX5 = some m.cls := findClass_of_methodNamed Bd.named
  have hlocks := Bd.notSynchronized
  have hi5 : ∀ w ∈ u_ws RX5 TX5 16, w ∈ wsX5_below := fun w h => List.mem_cons_of_mem _ (List.mem_append_left _ (List.mem_append_right _ h))
  have hi1 : ∀ w ∈ u_ws RX1 TX1 9, w ∈ wsX5_below := fun w h => List.mem_cons_of_mem _ (List.mem_append_right _ h)
  subst hsz
  have hap := vF_ap hap0 s.heap.size
  have hS : va_S (vF ad s.heap.size) s.heap s.heap [] := va_S.rf
  have hP : va_P D vwCl (VW K ad I G A L) s.heap := hP
  have hl := lv_entry ([.ref (ad o), .int a1, .int a2]) (n := 3) (Nat.le_of_ble_eq_true rfl)
  rw [lg_entry_eq]
  generalize (lg_sl ([.ref (ad o), .int a1, .int a2]) ++ List.replicate (3 - (lg_sl ([.ref (ad o), .int a1, .int a2])).length) Slot.unset).toArray = ls at hl ⊢
  have hl : lv_has ls 3 [(0, .ref (ad o)), (1, .int a1), (2, .int a2)] := hl
  rw [f_X5_below] at h
  refine lv_iload_n hx hb dX5_below_0 rfl (lv_at hl 2 rfl) ?_
  refine lv_if_lt (tgt := 24) hx hb dX5_below_1 (by decide) (fun c_1 => ?_) (fun c_1 => ?_)
  · have h := ip c_1 h
    refine lv_iconst (v := (-1)) hx hb dX5_below_24 (by decide) ?_
    exact W.iret (v := (-1)) hx hb hr (fun t9 ht9 hW9 => ⟨⟨(-1), (I, G, A, L), rfl, by cases h; exact ⟨rfl, rfl⟩, by rw [ht9]; exact hP, va_K.moved hW9.alike hK⟩, hS.F ht9⟩) hS.2.2 dX5_below_25
  · have h := iN c_1 h
    refine lv_iload_n hx hb dX5_below_4 rfl (lv_at hl 2 rfl) ?_
    refine lv_aload_n hx hb dX5_below_5 rfl (lv_at hl 0 rfl) ?_
    refine lv_iload_n hx hb dX5_below_6 rfl (lv_at hl 1 rfl) ?_
    obtain ⟨hk2, h⟩ := gk h
    obtain ⟨r3, hc4, h⟩ := Option.bind_eq_some_iff.mp h
    refine ecV (As := [.int a1]) (rest := [.int a2]) ⟨hx, hb, hml, hown, hts⟩ (e_X5_widthBelow l D K ad hap0 o a1 I G A L r3 hc4) (cwV 1 hts gX5_below_X5_widthBelow rfl rfl rfl (by decide +kernel) ⟨Nat.le_of_ble_eq_true rfl, Nat.le_of_ble_eq_true rfl⟩) hK hP hS (s318 hk2.1) hk2.2 (by decide) rfl rfl rfl hl.1 (Nat.le_of_ble_eq_true rfl) (Nat.le_of_ble_eq_true rfl) (Nat.le_of_ble_eq_true rfl) dX5_below_7 (fun H locs hP hS => ?_) rfl
    have hP : va_P D vwCl (VW K ad I G A L) H := hP
    refine lv_icmp_ge (tgt := 24) hx hb dX5_below_10 (by decide) (fun c_5 => ?_) (fun c_5 => ?_)
    · have h := iN (Int32.not_lt.mpr c_5) h
      refine lv_iconst (v := (-1)) hx hb dX5_below_24 (by decide) ?_
      exact W.iret (v := (-1)) hx hb hr (fun t9 ht9 hW9 => ⟨⟨(-1), (I, G, A, L), rfl, by cases h; exact ⟨rfl, rfl⟩, by rw [ht9]; exact hP, va_K.moved hW9.alike hK⟩, hS.F ht9⟩) hS.2.2 dX5_below_25
    · have h := ip (Int32.not_le.mp c_5) h
      refine lv_aload_n hx hb dX5_below_13 rfl (lv_at hl 0 rfl) ?_
      refine vgS hx hb hts hi5 hown hK hP (o) (s318 hk2.1) hk2.2 (C := RX5) (T := TX5) (N := 16) rfl 6 (by decide) (by decide) (by decide) (by decide) (o + 7) rfl (hts (.fieldLink RX5 69 "CrateHelpers$Tree" "firstBelow" "[S") (by decide +kernel)) (fun _ h9 => h9) dX5_below_14 ?_
      refine lv_iload_n hx hb dX5_below_17 rfl (lv_at hl 1 rfl) ?_
      obtain ⟨hk6, h⟩ := gk h
      obtain ⟨hn7, h⟩ := gk h
      refine xsald hx hb hK hP (o + 7) (s318 hk6.1) hk6.2 hn7 dX5_below_18 ?_
      refine lv_iload_n hx hb dX5_below_19 rfl (lv_at hl 2 rfl) ?_
      refine lv_iadd hx hb dX5_below_20 ?_
      refine lv_goto (tgt := 25) hx hb dX5_below_21 (by decide) ?_
      exact W.iret (v := ((A (o + 7) a1.toNatClampNeg) + a2)) hx hb hr (fun t9 ht9 hW9 => ⟨⟨((A (o + 7) a1.toNatClampNeg) + a2), (I, G, A, L), rfl, by cases h; exact ⟨rfl, rfl⟩, by rw [ht9]; exact hP, va_K.moved hW9.alike hK⟩, hS.F ht9⟩) hS.2.2 dX5_below_25
set_option maxHeartbeats 4000000 in
set_option maxRecDepth 100000 in
theorem e_X6_closed (l : Launch) (D : va_G) (K : Nat → ClassId) (ad : Nat → Nat) (hap0 : apart ad (fun _ => True)) (a1 : Int32) (a2 : Int32) (a3 : Int32) (I : Nat → Nat → Int32) (G : Nat → Nat → Nat) (A : Nat → Nat → Int32) (L : Nat → Nat → Int64) (r0 : Int32) (h : f_X6_closed I G A a1 a2 a3 = some r0) : Ci l D K ad yX6_closed wsX6_closed 2 49 [.ref (ad 0), .int a1, .int a2, .int a3] (I, G, A, L) (fun (r : Int32) (u : Mem) => r = r0 ∧ u = (I, G, A, L)) := by
  intro sz
  refine Met.ofW (cc := cX6_closed) (maxL := 5) (ret := (some .int)) (by decide) rfl ?_
  intro p e s m args below meth c s₁ Bd hml hv0
  obtain ⟨rfl, hsz, hP, hK⟩ := hv0
  have hx := Bd.exec
  have hb := Bd.bytes
  have hr := Bd.returns
  have hts := atoms_spec (ws := wsX6_closed) Bd.pre
  have hown : s.vm.findClass RX6 = some m.cls := findClass_of_methodNamed Bd.named
  have hlocks := Bd.notSynchronized
  have hi6 : ∀ w ∈ u_ws RX6 TX6 18, w ∈ wsX6_closed := fun w h => List.mem_cons_of_mem _ (List.mem_append_left _ (List.mem_append_left _ (List.mem_append_right _ h)))
  have hi5 : ∀ w ∈ u_ws RX5 TX5 16, w ∈ wsX6_closed := fun w h => List.mem_cons_of_mem _ (List.mem_append_left _ (List.mem_append_right _ h))
  have hi1 : ∀ w ∈ u_ws RX1 TX1 9, w ∈ wsX6_closed := fun w h => List.mem_cons_of_mem _ (List.mem_append_right _ h)
  subst hsz
  have hap := vF_ap hap0 s.heap.size
  have hS : va_S (vF ad s.heap.size) s.heap s.heap [] := va_S.rf
  have hP : va_P D vwCl (VW K ad I G A L) s.heap := hP
  have hl := lv_entry ([.ref (ad 0), .int a1, .int a2, .int a3]) (n := 5) (Nat.le_of_ble_eq_true rfl)
  rw [lg_entry_eq]
  generalize (lg_sl ([.ref (ad 0), .int a1, .int a2, .int a3]) ++ List.replicate (5 - (lg_sl ([.ref (ad 0), .int a1, .int a2, .int a3])).length) Slot.unset).toArray = ls at hl ⊢
  have hl : lv_has ls 5 [(0, .ref (ad 0)), (1, .int a1), (2, .int a2), (3, .int a3)] := hl
  rw [f_X6_closed] at h
  refine lv_iload_n hx hb dX6_closed_0 rfl (lv_at hl 3 rfl) ?_
  refine lv_iconst (v := 0) hx hb dX6_closed_1 (by decide) ?_
  refine lv_iconst (v := 1) hx hb dX6_closed_2 (by decide) ?_
  obtain ⟨r1, hc2, h⟩ := Option.bind_eq_some_iff.mp h
  refine ecS (As := [.int a3, .int 0, .int 1]) (rest := []) ⟨hx, hb, hml, hown, hts⟩ (e_X6_isWithin l D K ad hap0 a3 0 1 I G A L r1 hc2) (va_cwS 3 hts gX6_closed_X6_isWithin rfl rfl rfl (by decide +kernel) ⟨Nat.le_of_ble_eq_true rfl, Nat.le_of_ble_eq_true rfl⟩) hK hP hS rfl hl.1 (Nat.le_of_ble_eq_true rfl) (Nat.le_of_ble_eq_true rfl) (Nat.le_of_ble_eq_true rfl) dX6_closed_3 (fun H locs hP hS => ?_) rfl
  have hP : va_P D vwCl (VW K ad I G A L) H := hP
  refine lv_if_ne (tgt := 11) hx hb dX6_closed_6 (by decide) (fun c_3 => ?_) (fun c_3 => ?_)
  · have h := iN c_3 h
    refine lv_iload_n hx hb dX6_closed_11 rfl (lv_at hl 1 rfl) ?_
    refine lv_iconst (v := 0) hx hb dX6_closed_12 (by decide) ?_
    refine lv_aload_n hx hb dX6_closed_13 rfl (lv_at hl 0 rfl) ?_
    refine vgG hx hb hts hi6 hown hK hP (0) (by decide) (show kd 0 = 6 by decide) (C := RX6) (T := TX6) (N := 18) rfl 6 (by decide) (by decide) (by decide) (by decide) (hts (.fieldLink RX6 82 "CrateHelpers" "lastEnded" "LCrateHelpers$Tree;") (by decide +kernel)) (fun _ h9 => h9) dX6_closed_14 ?_
    obtain ⟨hk4, h⟩ := gk h
    refine vgI hx hb hts hi5 hown hK hP (G 0 6) (s318 hk4.1) hk4.2 (C := RX5) (T := TX5) (N := 16) rfl 11 (by decide) (by decide) (by decide) (by decide) (hts (.fieldLink RX6 192 "CrateHelpers$Tree" "taken" "I") (by decide +kernel)) (fun _ h9 => h9) dX6_closed_17 ?_
    refine lv_iconst (v := 1) hx hb dX6_closed_20 (by decide) ?_
    refine lv_isub hx hb dX6_closed_21 ?_
    obtain ⟨r5, hc6, h⟩ := Option.bind_eq_some_iff.mp h
    refine ecS (As := [.int a1, .int 0, .int ((I (G 0 6) 11) - 1)]) (rest := []) ⟨hx, hb, hml, hown, hts⟩ (e_X6_isWithin l D K ad hap0 a1 0 ((I (G 0 6) 11) - 1) I G A L r5 hc6) (va_cwS 3 hts gX6_closed_X6_isWithin rfl rfl rfl (by decide +kernel) ⟨Nat.le_of_ble_eq_true rfl, Nat.le_of_ble_eq_true rfl⟩) hK hP hS rfl hl.1 (Nat.le_of_ble_eq_true rfl) (Nat.le_of_ble_eq_true rfl) (Nat.le_of_ble_eq_true rfl) dX6_closed_22 (fun H locs hP hS => ?_) rfl
    have hP : va_P D vwCl (VW K ad I G A L) H := hP
    refine lv_if_ne (tgt := 31) hx hb dX6_closed_25 (by decide) (fun c_7 => ?_) (fun c_7 => ?_)
    · have h := iN c_7 h
      refine lv_aload_n hx hb dX6_closed_31 rfl (lv_at hl 0 rfl) ?_
      refine vgG hx hb hts hi6 hown hK hP (0) (by decide) (show kd 0 = 6 by decide) (C := RX6) (T := TX6) (N := 18) rfl 6 (by decide) (by decide) (by decide) (by decide) (hts (.fieldLink RX6 82 "CrateHelpers" "lastEnded" "LCrateHelpers$Tree;") (by decide +kernel)) (fun _ h9 => h9) dX6_closed_32 ?_
      refine lv_aload_n hx hb dX6_closed_35 rfl (lv_at hl 0 rfl) ?_
      refine vgG hx hb hts hi6 hown hK hP (0) (by decide) (show kd 0 = 6 by decide) (C := RX6) (T := TX6) (N := 18) rfl 6 (by decide) (by decide) (by decide) (by decide) (hts (.fieldLink RX6 82 "CrateHelpers" "lastEnded" "LCrateHelpers$Tree;") (by decide +kernel)) (fun _ h9 => h9) dX6_closed_36 ?_
      refine vgS hx hb hts hi5 hown hK hP (G 0 6) (s318 hk4.1) hk4.2 (C := RX5) (T := TX5) (N := 16) rfl 8 (by decide) (by decide) (by decide) (by decide) (G 0 6 + 9) rfl (hts (.fieldLink RX6 195 "CrateHelpers$Tree" "walk" "[I") (by decide +kernel)) (fun _ h9 => h9) dX6_closed_39 ?_
      refine lv_iload_n hx hb dX6_closed_42 rfl (lv_at hl 1 rfl) ?_
      obtain ⟨hk8, h⟩ := gk h
      obtain ⟨hn9, h⟩ := gk h
      refine xiald hx hb hK hP (G 0 6 + 9) (s318 hk8.1) hk8.2 hn9 dX6_closed_43 ?_
      refine lv_iload_n hx hb dX6_closed_44 rfl (lv_at hl 2 rfl) ?_
      obtain ⟨r10, hc11, h⟩ := Option.bind_eq_some_iff.mp h
      refine ecV (As := [.int (A (G 0 6 + 9) a1.toNatClampNeg), .int a2]) (rest := []) ⟨hx, hb, hml, hown, hts⟩ (e_X5_below l D K ad hap0 (G 0 6) (A (G 0 6 + 9) a1.toNatClampNeg) a2 I G A L r10 hc11) (cwV 2 hts gX6_closed_X5_below rfl rfl rfl (by decide +kernel) ⟨Nat.le_of_ble_eq_true rfl, Nat.le_of_ble_eq_true rfl⟩) hK hP hS (s318 hk4.1) hk4.2 (by decide) rfl rfl rfl hl.1 (Nat.le_of_ble_eq_true rfl) (Nat.le_of_ble_eq_true rfl) (Nat.le_of_ble_eq_true rfl) dX6_closed_45 (fun H locs hP hS => ?_) rfl
      have hP : va_P D vwCl (VW K ad I G A L) H := hP
      refine lv_istore (lv' := [(4, .int r10), (0, .ref (ad 0)), (1, .int a1), (2, .int a2), (3, .int a3)]) hx hb dX6_closed_48 hl (by decide) rfl (fun ls hl => ?_)
      refine lv_iload hx hb dX6_closed_50 (lv_at hl 0 rfl) ?_
      refine lv_iconst (v := (-1)) hx hb dX6_closed_52 (by decide) ?_
      refine lv_icmp_ne (tgt := 59) hx hb dX6_closed_53 (by decide) (fun c_12 => ?_) (fun c_12 => ?_)
      · have h := iN c_12 h
        refine lv_iload_n hx hb dX6_closed_59 rfl (lv_at hl 4 rfl) ?_
        refine lv_if_ne (tgt := 76) hx hb dX6_closed_60 (by decide) (fun c_13 => ?_) (fun c_13 => ?_)
        · have h := iN c_13 h
          refine lv_aload_n hx hb dX6_closed_76 rfl (lv_at hl 1 rfl) ?_
          refine vgG hx hb hts hi6 hown hK hP (0) (by decide) (show kd 0 = 6 by decide) (C := RX6) (T := TX6) (N := 18) rfl 6 (by decide) (by decide) (by decide) (by decide) (hts (.fieldLink RX6 82 "CrateHelpers" "lastEnded" "LCrateHelpers$Tree;") (by decide +kernel)) (fun _ h9 => h9) dX6_closed_77 ?_
          refine vgS hx hb hts hi5 hown hK hP (G 0 6) (s318 hk4.1) hk4.2 (C := RX5) (T := TX5) (N := 16) rfl 3 (by decide) (by decide) (by decide) (by decide) (G 0 6 + 4) rfl (hts (.fieldLink RX6 220 "CrateHelpers$Tree" "why" "[B") (by decide +kernel)) (fun _ h9 => h9) dX6_closed_80 ?_
          refine lv_iload hx hb dX6_closed_83 (lv_at hl 0 rfl) ?_
          obtain ⟨hk14, h⟩ := gk h
          obtain ⟨hn15, h⟩ := gk h
          refine xbald hx hb hK hP (G 0 6 + 4) (s318 hk14.1) hk14.2 hn15 dX6_closed_85 ?_
          exact W.iret (v := (A (G 0 6 + 4) r10.toNatClampNeg)) hx hb hr (fun t9 ht9 hW9 => ⟨⟨(A (G 0 6 + 4) r10.toNatClampNeg), (I, G, A, L), rfl, by cases h; exact ⟨rfl, rfl⟩, by rw [ht9]; exact hP, va_K.moved hW9.alike hK⟩, hS.F ht9⟩) hS.2.2 dX6_closed_86
        · have h := ip c_13 h
          refine lv_aload_n hx hb dX6_closed_63 rfl (lv_at hl 1 rfl) ?_
          refine vgG hx hb hts hi6 hown hK hP (0) (by decide) (show kd 0 = 6 by decide) (C := RX6) (T := TX6) (N := 18) rfl 6 (by decide) (by decide) (by decide) (by decide) (hts (.fieldLink RX6 82 "CrateHelpers" "lastEnded" "LCrateHelpers$Tree;") (by decide +kernel)) (fun _ h9 => h9) dX6_closed_64 ?_
          refine vgS hx hb hts hi5 hown hK hP (G 0 6) (s318 hk4.1) hk4.2 (C := RX5) (T := TX5) (N := 16) rfl 2 (by decide) (by decide) (by decide) (by decide) (G 0 6 + 3) rfl (hts (.fieldLink RX6 217 "CrateHelpers$Tree" "what" "[B") (by decide +kernel)) (fun _ h9 => h9) dX6_closed_67 ?_
          refine lv_iload hx hb dX6_closed_70 (lv_at hl 0 rfl) ?_
          obtain ⟨hk16, h⟩ := gk h
          obtain ⟨hn17, h⟩ := gk h
          refine xbald hx hb hK hP (G 0 6 + 3) (s318 hk16.1) hk16.2 hn17 dX6_closed_72 ?_
          refine lv_goto (tgt := 86) hx hb dX6_closed_73 (by decide) ?_
          exact W.iret (v := (A (G 0 6 + 3) r10.toNatClampNeg)) hx hb hr (fun t9 ht9 hW9 => ⟨⟨(A (G 0 6 + 3) r10.toNatClampNeg), (I, G, A, L), rfl, by cases h; exact ⟨rfl, rfl⟩, by rw [ht9]; exact hP, va_K.moved hW9.alike hK⟩, hS.F ht9⟩) hS.2.2 dX6_closed_86
      · have h := ip c_12 h
        refine lv_bipush (v := (-9)) hx hb dX6_closed_56 (by decide) ?_
        exact W.iret (v := (-9)) hx hb hr (fun t9 ht9 hW9 => ⟨⟨(-9), (I, G, A, L), rfl, by cases h; exact ⟨rfl, rfl⟩, by rw [ht9]; exact hP, va_K.moved hW9.alike hK⟩, hS.F ht9⟩) hS.2.2 dX6_closed_58
    · have h := ip c_7 h
      refine lv_bipush (v := (-9)) hx hb dX6_closed_28 (by decide) ?_
      exact W.iret (v := (-9)) hx hb hr (fun t9 ht9 hW9 => ⟨⟨(-9), (I, G, A, L), rfl, by cases h; exact ⟨rfl, rfl⟩, by rw [ht9]; exact hP, va_K.moved hW9.alike hK⟩, hS.F ht9⟩) hS.2.2 dX6_closed_30
  · have h := ip c_3 h
    refine lv_iconst (v := (-1)) hx hb dX6_closed_9 (by decide) ?_
    exact W.iret (v := (-1)) hx hb hr (fun t9 ht9 hW9 => ⟨⟨(-1), (I, G, A, L), rfl, by cases h; exact ⟨rfl, rfl⟩, by rw [ht9]; exact hP, va_K.moved hW9.alike hK⟩, hS.F ht9⟩) hS.2.2 dX6_closed_10
set_option maxHeartbeats 4000000 in
set_option maxRecDepth 100000 in
theorem e_X1_hasValue (l : Launch) (D : va_G) (K : Nat → ClassId) (ad : Nat → Nat) (hap0 : apart ad (fun _ => True)) (o : Nat) (a1 : Int32) (a2 : Int32) (I : Nat → Nat → Int32) (G : Nat → Nat → Nat) (A : Nat → Nat → Int32) (L : Nat → Nat → Int64) (r0 : Int32) (h : f_X1_hasValue I A o a1 a2 = some r0) : Ci l D K ad yX1_hasValue wsX1_hasValue 1 24 [.ref (ad o), .int a1, .int a2] (I, G, A, L) (fun (r : Int32) (u : Mem) => r = r0 ∧ u = (I, G, A, L)) := by
  intro sz
  refine Met.ofW (cc := cX1_hasValue) (maxL := 3) (ret := (some .boolean)) (by decide) rfl ?_
  intro p e s m args below meth c s₁ Bd hml hv0
  obtain ⟨rfl, hsz, hP, hK⟩ := hv0
  have hx := Bd.exec
  have hb := Bd.bytes
  have hr := Bd.returns
  have hts := atoms_spec (ws := wsX1_hasValue) Bd.pre
  have hown : s.vm.findClass RX1 = some m.cls := findClass_of_methodNamed Bd.named
  have hlocks := Bd.notSynchronized
  have hi1 : ∀ w ∈ u_ws RX1 TX1 9, w ∈ wsX1_hasValue := fun w h => List.mem_cons_of_mem _ (List.mem_append_right _ h)
  subst hsz
  have hap := vF_ap hap0 s.heap.size
  have hS : va_S (vF ad s.heap.size) s.heap s.heap [] := va_S.rf
  have hP : va_P D vwCl (VW K ad I G A L) s.heap := hP
  have hl := lv_entry ([.ref (ad o), .int a1, .int a2]) (n := 3) (Nat.le_of_ble_eq_true rfl)
  rw [lg_entry_eq]
  generalize (lg_sl ([.ref (ad o), .int a1, .int a2]) ++ List.replicate (3 - (lg_sl ([.ref (ad o), .int a1, .int a2])).length) Slot.unset).toArray = ls at hl ⊢
  have hl : lv_has ls 3 [(0, .ref (ad o)), (1, .int a1), (2, .int a2)] := hl
  rw [f_X1_hasValue] at h
  refine lv_aload_n hx hb dX1_hasValue_0 rfl (lv_at hl 0 rfl) ?_
  refine lv_iload_n hx hb dX1_hasValue_1 rfl (lv_at hl 1 rfl) ?_
  obtain ⟨hk1, h⟩ := gk h
  obtain ⟨r2, hc3, h⟩ := Option.bind_eq_some_iff.mp h
  refine ecV (As := [.int a1]) (rest := []) ⟨hx, hb, hml, hown, hts⟩ (e_X1_hasVariable l D K ad hap0 o a1 I G A L r2 hc3) (cwV 1 hts gX1_hasValue_X1_hasVariable rfl rfl rfl (by decide +kernel) ⟨Nat.le_of_ble_eq_true rfl, Nat.le_of_ble_eq_true rfl⟩) hK hP hS (s318 hk1.1) hk1.2 (by decide) rfl rfl rfl hl.1 (Nat.le_of_ble_eq_true rfl) (Nat.le_of_ble_eq_true rfl) (Nat.le_of_ble_eq_true rfl) dX1_hasValue_2 (fun H locs hP hS => ?_) rfl
  have hP : va_P D vwCl (VW K ad I G A L) H := hP
  refine lv_if_eq (tgt := 26) hx hb dX1_hasValue_5 (by decide) (fun c_4 => ?_) (fun c_4 => ?_)
  · have h := ip c_4 h
    refine lv_iconst (v := 0) hx hb dX1_hasValue_26 (by decide) ?_
    exact W.zret (v := 0) hx hb hr (by decide) (fun t9 ht9 hW9 => ⟨⟨0, (I, G, A, L), rfl, by cases h; exact ⟨rfl, rfl⟩, by rw [ht9]; exact hP, va_K.moved hW9.alike hK⟩, hS.F ht9⟩) hS.2.2 dX1_hasValue_27
  · have h := iN c_4 h
    refine lv_iload_n hx hb dX1_hasValue_8 rfl (lv_at hl 2 rfl) ?_
    refine lv_if_lt (tgt := 26) hx hb dX1_hasValue_9 (by decide) (fun c_5 => ?_) (fun c_5 => ?_)
    · have h := ip c_5 h
      refine lv_iconst (v := 0) hx hb dX1_hasValue_26 (by decide) ?_
      exact W.zret (v := 0) hx hb hr (by decide) (fun t9 ht9 hW9 => ⟨⟨0, (I, G, A, L), rfl, by cases h; exact ⟨rfl, rfl⟩, by rw [ht9]; exact hP, va_K.moved hW9.alike hK⟩, hS.F ht9⟩) hS.2.2 dX1_hasValue_27
    · have h := iN c_5 h
      refine lv_iload_n hx hb dX1_hasValue_12 rfl (lv_at hl 2 rfl) ?_
      refine lv_aload_n hx hb dX1_hasValue_13 rfl (lv_at hl 0 rfl) ?_
      refine vgS hx hb hts hi1 hown hK hP (o) (s318 hk1.1) hk1.2 (C := RX1) (T := TX1) (N := 9) rfl 4 (by decide) (by decide) (by decide) (by decide) (o + 1) rfl (hts (.fieldLink RX1 25 "CrateHelpers$Problem" "sizes" "[I") (by decide +kernel)) (fun _ h9 => h9) dX1_hasValue_14 ?_
      refine lv_iload_n hx hb dX1_hasValue_17 rfl (lv_at hl 1 rfl) ?_
      obtain ⟨hk6, h⟩ := gk h
      obtain ⟨hn7, h⟩ := gk h
      refine xiald hx hb hK hP (o + 1) (s318 hk6.1) hk6.2 hn7 dX1_hasValue_18 ?_
      refine lv_icmp_ge (tgt := 26) hx hb dX1_hasValue_19 (by decide) (fun c_8 => ?_) (fun c_8 => ?_)
      · have h := iN (Int32.not_lt.mpr c_8) h
        refine lv_iconst (v := 0) hx hb dX1_hasValue_26 (by decide) ?_
        exact W.zret (v := 0) hx hb hr (by decide) (fun t9 ht9 hW9 => ⟨⟨0, (I, G, A, L), rfl, by cases h; exact ⟨rfl, rfl⟩, by rw [ht9]; exact hP, va_K.moved hW9.alike hK⟩, hS.F ht9⟩) hS.2.2 dX1_hasValue_27
      · have h := ip (Int32.not_le.mp c_8) h
        refine lv_iconst (v := 1) hx hb dX1_hasValue_22 (by decide) ?_
        refine lv_goto (tgt := 27) hx hb dX1_hasValue_23 (by decide) ?_
        exact W.zret (v := 1) hx hb hr (by decide) (fun t9 ht9 hW9 => ⟨⟨1, (I, G, A, L), rfl, by cases h; exact ⟨rfl, rfl⟩, by rw [ht9]; exact hP, va_K.moved hW9.alike hK⟩, hS.F ht9⟩) hS.2.2 dX1_hasValue_27
set_option maxHeartbeats 4000000 in
set_option maxRecDepth 100000 in
theorem e_X1_change (l : Launch) (D : va_G) (K : Nat → ClassId) (ad : Nat → Nat) (hap0 : apart ad (fun _ => True)) (o : Nat) (I : Nat → Nat → Int32) (G : Nat → Nat → Nat) (A : Nat → Nat → Int32) (L : Nat → Nat → Int64) (I0 : Nat → Nat → Int32) (h : f_X1_change I o = some I0) : Cv l D K ad yX1_change wsX1_change 0 0 [.ref (ad o)] (I, G, A, L) (fun (u : Mem) => u = (I0, G, A, L)) := by
  intro sz
  refine Met.ofW (cc := cX1_change) (maxL := 1) (ret := none) (by decide) rfl ?_
  intro p e s m args below meth c s₁ Bd hml hv0
  obtain ⟨rfl, hsz, hP, hK⟩ := hv0
  have hx := Bd.exec
  have hb := Bd.bytes
  have hr := Bd.returns
  have hts := atoms_spec (ws := wsX1_change) Bd.pre
  have hown : s.vm.findClass RX1 = some m.cls := findClass_of_methodNamed Bd.named
  have hlocks := Bd.notSynchronized
  have hi1 : ∀ w ∈ u_ws RX1 TX1 9, w ∈ wsX1_change := fun w h => List.mem_cons_of_mem _ (List.mem_append_right _ h)
  subst hsz
  have hap := vF_ap hap0 s.heap.size
  have hS : va_S (vF ad s.heap.size) s.heap s.heap [] := va_S.rf
  have hP : va_P D vwCl (VW K ad I G A L) s.heap := hP
  have hl := lv_entry ([.ref (ad o)]) (n := 1) (Nat.le_of_ble_eq_true rfl)
  rw [lg_entry_eq]
  generalize (lg_sl ([.ref (ad o)]) ++ List.replicate (1 - (lg_sl ([.ref (ad o)])).length) Slot.unset).toArray = ls at hl ⊢
  have hl : lv_has ls 1 [(0, .ref (ad o))] := hl
  rw [f_X1_change] at h
  refine lv_aload_n hx hb dX1_change_0 rfl (lv_at hl 0 rfl) ?_
  refine lv_dup hx hb dX1_change_1 rfl ?_
  obtain ⟨hk1, h⟩ := gk h
  refine vgI hx hb hts hi1 hown hK hP (o) (s318 hk1.1) hk1.2 (C := RX1) (T := TX1) (N := 9) rfl 2 (by decide) (by decide) (by decide) (by decide) (hts (.fieldLink RX1 18 "CrateHelpers$Problem" "changes" "I") (by decide +kernel)) (fun _ h9 => h9) dX1_change_2 ?_
  refine lv_iconst (v := 1) hx hb dX1_change_5 (by decide) ?_
  refine lv_iadd hx hb dX1_change_6 ?_
  refine vpI (v := ((I o 2) + 1)) (ty := .int) hx hb hts hi1 tyX1 tyX1_ok nmX1 hown hK hP hap hS (o) (s318 hk1.1) hk1.2 (C := RX1) (T := TX1) (N := 9) rfl 2 (by decide) (by decide) (by decide) (by decide) (hts (.fieldLink RX1 18 "CrateHelpers$Problem" "changes" "I") (by decide +kernel)) (fun _ h9 => h9) rfl (by decide +kernel) rfl rfl dX1_change_7 (fun H locs hP hS => ?_)
  obtain ⟨I2, eI2, h⟩ := bd_e h
  rw [← eI2] at hP
  have hP : va_P D vwCl (VW K ad I2 G A L) H := hP
  refine lv_aload_n hx hb dX1_change_10 rfl (lv_at hl 0 rfl) ?_
  refine lv_iconst (v := 0) hx hb dX1_change_11 (by decide) ?_
  refine vpI (v := 0) (ty := .boolean) hx hb hts hi1 tyX1 tyX1_ok nmX1 hown hK hP hap hS (o) (s318 hk1.1) hk1.2 (C := RX1) (T := TX1) (N := 9) rfl 3 (by decide) (by decide) (by decide) (by decide) (hts (.fieldLink RX1 21 "CrateHelpers$Problem" "hasEnded" "Z") (by decide +kernel)) (fun _ h9 => h9) rfl (by decide +kernel) rfl rfl dX1_change_12 (fun H locs hP hS => ?_)
  obtain ⟨I3, eI3, h⟩ := bd_e h
  rw [← eI3] at hP
  have hP : va_P D vwCl (VW K ad I3 G A L) H := hP
  exact W.vret hx hb hr (fun t9 ht9 hW9 => ⟨⟨(I3, G, A, L), rfl, by cases h; rfl, by rw [ht9]; exact hP, va_K.moved hW9.alike hK⟩, hS.F ht9⟩) hS.2.2 dX1_change_15
