/-! part 51.r03 -/
set_option maxHeartbeats 4000000 in
set_option maxRecDepth 100000 in
theorem e_X7_isOut (l : Launch) (D : va_G) (K : Nat → ClassId) (ad : Nat → Nat) (hap0 : apart ad (fun _ => True)) (a1 : Int32) (a2 : Int32) (a3 : Int32) (I : Nat → Nat → Int32) (G : Nat → Nat → Nat) (A : Nat → Nat → Int32) (L : Nat → Nat → Int64) (r0 : Int32) (A0 : Nat → Nat → Int32) (h : f_X7_isOut A a1 a2 a3 = some (r0, A0)) : Ci l D K ad yX7_isOut wsX7_isOut 3 86 [.ref (ad 318), .int a1, .int a2, .int a3] (I, G, A, L) (fun (r : Int32) (u : Mem) => r = r0 ∧ u = (I, G, A0, L)) := by
  intro sz
  refine Met.ofW (cc := cX7_isOut) (maxL := 6) (ret := (some .boolean)) (by decide) rfl ?_
  intro p e s m args below meth c s₁ Bd hml hv0
  obtain ⟨rfl, hsz, hP, hK⟩ := hv0
  have hx := Bd.exec
  have hb := Bd.bytes
  have hr := Bd.returns
  have hts := atoms_spec (ws := wsX7_isOut) Bd.pre
  have hown : s.vm.findClass RX7 = some m.cls := findClass_of_methodNamed Bd.named
  have hlocks := Bd.notSynchronized
  have hi7 : ∀ w ∈ u_ws RX7 TX7 79, w ∈ wsX7_isOut := fun w h => List.mem_cons_of_mem _ (List.mem_append_right _ h)
  subst hsz
  have hap := vF_ap hap0 s.heap.size
  have hS : va_S (vF ad s.heap.size) s.heap s.heap [] := va_S.rf
  have hP : va_P D vwCl (VW K ad I G A L) s.heap := hP
  have hl := lv_entry ([.ref (ad 318), .int a1, .int a2, .int a3]) (n := 6) (Nat.le_of_ble_eq_true rfl)
  rw [lg_entry_eq]
  generalize (lg_sl ([.ref (ad 318), .int a1, .int a2, .int a3]) ++ List.replicate (6 - (lg_sl ([.ref (ad 318), .int a1, .int a2, .int a3])).length) Slot.unset).toArray = ls at hl ⊢
  have hl : lv_has ls 6 [(0, .ref (ad 318)), (1, .int a1), (2, .int a2), (3, .int a3)] := hl
  rw [f_X7_isOut] at h
  refine lv_aload_n hx hb dX7_isOut_0 rfl (lv_at hl 0 rfl) ?_
  refine vgC hx hb hts hi7 hown hK hP (318) (by decide) (show kd 318 = 7 by decide) (C := RX7) (T := TX7) (N := 79) rfl 63 (by decide) (by decide) (by decide) (by decide) (364) rfl (hts (.fieldLink RX7 159 "CrateHelpersModel" "now" "[I") (by decide +kernel)) (fun _ h9 => h9) dX7_isOut_1 ?_
  refine lv_iload_n hx hb dX7_isOut_4 rfl (lv_at hl 2 rfl) ?_
  obtain ⟨hn1, h⟩ := gk h
  refine xiald hx hb hK hP (364) (by decide) (show kd 364 = 8 by decide) (by rw [show ln 364 = 6 by decide]; exact hn1) dX7_isOut_5 ?_
  refine lv_istore (lv' := [(4, .int (A 364 a2.toNatClampNeg)), (0, .ref (ad 318)), (1, .int a1), (2, .int a2), (3, .int a3)]) hx hb dX7_isOut_6 hl (by decide) rfl (fun ls hl => ?_)
  refine lv_aload_n hx hb dX7_isOut_8 rfl (lv_at hl 1 rfl) ?_
  refine vgC hx hb hts hi7 hown hK hP (318) (by decide) (show kd 318 = 7 by decide) (C := RX7) (T := TX7) (N := 79) rfl 63 (by decide) (by decide) (by decide) (by decide) (364) rfl (hts (.fieldLink RX7 159 "CrateHelpersModel" "now" "[I") (by decide +kernel)) (fun _ h9 => h9) dX7_isOut_9 ?_
  refine lv_iload_n hx hb dX7_isOut_12 rfl (lv_at hl 3 rfl) ?_
  refine lv_iload_n hx hb dX7_isOut_13 rfl (lv_at hl 4 rfl) ?_
  refine xiast hx hb hK hP hap hS (364) (by decide) (show kd 364 = 8 by decide) (by rw [show ln 364 = 6 by decide]; exact hn1) dX7_isOut_14 (fun H locs hP hS => ?_)
  obtain ⟨A2, eA2, h⟩ := bd_e h
  rw [← eA2] at hP
  have hP : va_P D vwCl (VW K ad I G A2 L) H := hP
  refine lv_aload_n hx hb dX7_isOut_15 rfl (lv_at hl 1 rfl) ?_
  refine lv_iload_n hx hb dX7_isOut_16 rfl (lv_at hl 2 rfl) ?_
  obtain ⟨r3, hc4, h⟩ := Option.bind_eq_some_iff.mp h
  refine ecV (As := [.int a1]) (rest := []) ⟨hx, hb, hml, hown, hts⟩ (e_X7_brokenBy l D K ad hap0 a1 I G A2 L r3 hc4) (cwV 1 hts gX7_isOut_X7_brokenBy rfl rfl rfl (by decide +kernel) ⟨Nat.le_of_ble_eq_true rfl, Nat.le_of_ble_eq_true rfl⟩) hK hP hS (by decide) (show kd 318 = 7 by decide) (by decide) rfl rfl rfl hl.1 (Nat.le_of_ble_eq_true rfl) (Nat.le_of_ble_eq_true rfl) (Nat.le_of_ble_eq_true rfl) dX7_isOut_17 (fun H locs hP hS => ?_) rfl
  have hP : va_P D vwCl (VW K ad I G A2 L) H := hP
  refine lv_bipush (v := (-9)) hx hb dX7_isOut_20 (by decide) ?_
  refine lv_icmp_eq (tgt := 29) hx hb dX7_isOut_22 (by decide) (fun c_5 => ?_) (fun c_5 => ?_)
  · have h := ip c_5 h
    refine lv_iconst (v := 0) hx hb dX7_isOut_29 (by decide) ?_
    refine lv_istore (lv' := [(5, .int 0), (4, .int (A 364 a2.toNatClampNeg)), (0, .ref (ad 318)), (1, .int a1), (2, .int a2), (3, .int a3)]) hx hb dX7_isOut_30 hl (by decide) rfl (fun ls hl => ?_)
    refine lv_aload_n hx hb dX7_isOut_32 rfl (lv_at hl 2 rfl) ?_
    refine vgC hx hb hts hi7 hown hK hP (318) (by decide) (show kd 318 = 7 by decide) (C := RX7) (T := TX7) (N := 79) rfl 63 (by decide) (by decide) (by decide) (by decide) (364) rfl (hts (.fieldLink RX7 159 "CrateHelpersModel" "now" "[I") (by decide +kernel)) (fun _ h9 => h9) dX7_isOut_33 ?_
    refine lv_iload_n hx hb dX7_isOut_36 rfl (lv_at hl 4 rfl) ?_
    refine lv_iload hx hb dX7_isOut_37 (lv_at hl 1 rfl) ?_
    refine xiast hx hb hK hP hap hS (364) (by decide) (show kd 364 = 8 by decide) (by rw [show ln 364 = 6 by decide]; exact hn1) dX7_isOut_39 (fun H locs hP hS => ?_)
    obtain ⟨A6, eA6, h⟩ := bd_e h
    rw [← eA6] at hP
    have hP : va_P D vwCl (VW K ad I G A6 L) H := hP
    refine lv_iload hx hb dX7_isOut_40 (lv_at hl 0 rfl) ?_
    exact W.zret (v := 0) hx hb hr (by decide) (fun t9 ht9 hW9 => ⟨⟨0, (I, G, A6, L), rfl, by cases h; exact ⟨rfl, rfl⟩, by rw [ht9]; exact hP, va_K.moved hW9.alike hK⟩, hS.F ht9⟩) hS.2.2 dX7_isOut_42
  · have h := iN c_5 h
    refine lv_iconst (v := 1) hx hb dX7_isOut_25 (by decide) ?_
    refine lv_goto (tgt := 30) hx hb dX7_isOut_26 (by decide) ?_
    refine lv_istore (lv' := [(5, .int 1), (4, .int (A 364 a2.toNatClampNeg)), (0, .ref (ad 318)), (1, .int a1), (2, .int a2), (3, .int a3)]) hx hb dX7_isOut_30 hl (by decide) rfl (fun ls hl => ?_)
    refine lv_aload_n hx hb dX7_isOut_32 rfl (lv_at hl 2 rfl) ?_
    refine vgC hx hb hts hi7 hown hK hP (318) (by decide) (show kd 318 = 7 by decide) (C := RX7) (T := TX7) (N := 79) rfl 63 (by decide) (by decide) (by decide) (by decide) (364) rfl (hts (.fieldLink RX7 159 "CrateHelpersModel" "now" "[I") (by decide +kernel)) (fun _ h9 => h9) dX7_isOut_33 ?_
    refine lv_iload_n hx hb dX7_isOut_36 rfl (lv_at hl 4 rfl) ?_
    refine lv_iload hx hb dX7_isOut_37 (lv_at hl 1 rfl) ?_
    refine xiast hx hb hK hP hap hS (364) (by decide) (show kd 364 = 8 by decide) (by rw [show ln 364 = 6 by decide]; exact hn1) dX7_isOut_39 (fun H locs hP hS => ?_)
    obtain ⟨A7, eA7, h⟩ := bd_e h
    rw [← eA7] at hP
    have hP : va_P D vwCl (VW K ad I G A7 L) H := hP
    refine lv_iload hx hb dX7_isOut_40 (lv_at hl 0 rfl) ?_
    exact W.zret (v := 1) hx hb hr (by decide) (fun t9 ht9 hW9 => ⟨⟨1, (I, G, A7, L), rfl, by cases h; exact ⟨rfl, rfl⟩, by rw [ht9]; exact hP, va_K.moved hW9.alike hK⟩, hS.F ht9⟩) hS.2.2 dX7_isOut_42
set_option maxHeartbeats 4000000 in
set_option maxRecDepth 100000 in
theorem e_X7_whatIs (l : Launch) (D : va_G) (K : Nat → ClassId) (ad : Nat → Nat) (hap0 : apart ad (fun _ => True)) (a1 : Int32) (a2 : Int32) (a3 : Int32) (I : Nat → Nat → Int32) (G : Nat → Nat → Nat) (A : Nat → Nat → Int32) (L : Nat → Nat → Int64) (r0 : Int32) (I0 : Nat → Nat → Int32) (A0 : Nat → Nat → Int32) (h : f_X7_whatIs I A a1 a2 a3 = some (r0, I0, A0)) : Ci l D K ad yX7_whatIs wsX7_whatIs 4 114 [.ref (ad 318), .int a1, .int a2, .int a3] (I, G, A, L) (fun (r : Int32) (u : Mem) => r = r0 ∧ u = (I0, G, A0, L)) := by
  intro sz
  refine Met.ofW (cc := cX7_whatIs) (maxL := 7) (ret := (some .int)) (by decide) rfl ?_
  intro p e s m args below meth c s₁ Bd hml hv0
  obtain ⟨rfl, hsz, hP, hK⟩ := hv0
  have hx := Bd.exec
  have hb := Bd.bytes
  have hr := Bd.returns
  have hts := atoms_spec (ws := wsX7_whatIs) Bd.pre
  have hown : s.vm.findClass RX7 = some m.cls := findClass_of_methodNamed Bd.named
  have hlocks := Bd.notSynchronized
  have hi7 : ∀ w ∈ u_ws RX7 TX7 79, w ∈ wsX7_whatIs := fun w h => List.mem_cons_of_mem _ (List.mem_append_right _ h)
  subst hsz
  have hap := vF_ap hap0 s.heap.size
  have hS : va_S (vF ad s.heap.size) s.heap s.heap [] := va_S.rf
  have hP : va_P D vwCl (VW K ad I G A L) s.heap := hP
  have hl := lv_entry ([.ref (ad 318), .int a1, .int a2, .int a3]) (n := 7) (Nat.le_of_ble_eq_true rfl)
  rw [lg_entry_eq]
  generalize (lg_sl ([.ref (ad 318), .int a1, .int a2, .int a3]) ++ List.replicate (7 - (lg_sl ([.ref (ad 318), .int a1, .int a2, .int a3])).length) Slot.unset).toArray = ls at hl ⊢
  have hl : lv_has ls 7 [(0, .ref (ad 318)), (1, .int a1), (2, .int a2), (3, .int a3)] := hl
  rw [f_X7_whatIs] at h
  refine lv_aload_n hx hb dX7_whatIs_0 rfl (lv_at hl 0 rfl) ?_
  refine lv_aload_n hx hb dX7_whatIs_1 rfl (lv_at hl 0 rfl) ?_
  refine lv_iload_n hx hb dX7_whatIs_2 rfl (lv_at hl 1 rfl) ?_
  obtain ⟨r1, hc2, h⟩ := Option.bind_eq_some_iff.mp h
  refine ecV (As := [.int a1]) (rest := [.ref (ad 318)]) ⟨hx, hb, hml, hown, hts⟩ (e_X7_brokenBy l D K ad hap0 a1 I G A L r1 hc2) (cwV 1 hts gX7_whatIs_X7_brokenBy rfl rfl rfl (by decide +kernel) ⟨Nat.le_of_ble_eq_true rfl, Nat.le_of_ble_eq_true rfl⟩) hK hP hS (by decide) (show kd 318 = 7 by decide) (by decide) rfl rfl rfl hl.1 (Nat.le_of_ble_eq_true rfl) (Nat.le_of_ble_eq_true rfl) (Nat.le_of_ble_eq_true rfl) dX7_whatIs_3 (fun H locs hP hS => ?_) rfl
  have hP : va_P D vwCl (VW K ad I G A L) H := hP
  refine vpI (v := r1) (ty := .int) hx hb hts hi7 tyX7 tyX7_ok nmX7 hown hK hP hap hS (318) (by decide) (show kd 318 = 7 by decide) (C := RX7) (T := TX7) (N := 79) rfl 64 (by decide) (by decide) (by decide) (by decide) (hts (.fieldLink RX7 272 "CrateHelpersModel" "why" "I") (by decide +kernel)) (fun _ h9 => h9) rfl (by decide +kernel) rfl rfl dX7_whatIs_6 (fun H locs hP hS => ?_)
  obtain ⟨I3, eI3, h⟩ := bd_e h
  rw [← eI3] at hP
  have hP : va_P D vwCl (VW K ad I3 G A L) H := hP
  refine lv_aload_n hx hb dX7_whatIs_9 rfl (lv_at hl 0 rfl) ?_
  refine vgI hx hb hts hi7 hown hK hP (318) (by decide) (show kd 318 = 7 by decide) (C := RX7) (T := TX7) (N := 79) rfl 64 (by decide) (by decide) (by decide) (by decide) (hts (.fieldLink RX7 272 "CrateHelpersModel" "why" "I") (by decide +kernel)) (fun _ h9 => h9) dX7_whatIs_10 ?_
  refine lv_bipush (v := (-9)) hx hb dX7_whatIs_13 (by decide) ?_
  refine lv_icmp_eq (tgt := 20) hx hb dX7_whatIs_15 (by decide) (fun c_4 => ?_) (fun c_4 => ?_)
  · have h := ip c_4 h
    refine lv_iconst (v := 0) hx hb dX7_whatIs_20 (by decide) ?_
    refine lv_istore (lv' := [(4, .int 0), (0, .ref (ad 318)), (1, .int a1), (2, .int a2), (3, .int a3)]) hx hb dX7_whatIs_21 hl (by decide) rfl (fun ls hl => ?_)
    obtain ⟨k7, ek7, h⟩ := bd_e h
    have kk7 : ∀ (v8 : Int32), k7 v8 = some (r0, I0, A0) → ∀ (H : Heap) (locs : List Loc), va_P D vwCl (VW K ad I3 G A L) H → va_S (vF ad s.heap.size) s.heap H locs → ∀ (ls : Array Slot), lv_has ls 7 [(0, .ref (ad 318)), (4, .int v8)] → W p l e ({ frames := 4, cells := 0, slots := 0, locals := 114 }) s m ([.ref (ad 318), .int a1, .int a2, .int a3] : List Value).toArray below meth c H locs 0 0 (MQ below (va_Qi (fun (r : Int32) (u : Mem) => r = r0 ∧ u = (I0, G, A0, L)) (vB D K ad) (vF ad s.heap.size)) ([.ref (ad 318), .int a1, .int a2, .int a3] : List Value).toArray s 0 0 (vF ad s.heap.size)) (F0 m 66 ls []) := by
      intro v8 h H locs hP hS ls hl
      subst ek7
      refine lv_aload_n hx hb dX7_whatIs_66 rfl (lv_at hl 0 rfl) ?_
      refine lv_iload hx hb dX7_whatIs_67 (lv_at hl 1 rfl) ?_
      refine vpI (v := v8) (ty := .int) hx hb hts hi7 tyX7 tyX7_ok nmX7 hown hK hP hap hS (318) (by decide) (show kd 318 = 7 by decide) (C := RX7) (T := TX7) (N := 79) rfl 64 (by decide) (by decide) (by decide) (by decide) (hts (.fieldLink RX7 272 "CrateHelpersModel" "why" "I") (by decide +kernel)) (fun _ h9 => h9) rfl (by decide +kernel) rfl rfl dX7_whatIs_69 (fun H locs hP hS => ?_)
      obtain ⟨I9, eI9, h⟩ := bd_e h
      rw [← eI9] at hP
      have hP : va_P D vwCl (VW K ad I9 G A L) H := hP
      refine lv_iconst (v := 2) hx hb dX7_whatIs_72 (by decide) ?_
      exact W.iret (v := 2) hx hb hr (fun t9 ht9 hW9 => ⟨⟨2, (I9, G, A, L), rfl, by cases h; exact ⟨rfl, rfl⟩, by rw [ht9]; exact hP, va_K.moved hW9.alike hK⟩, hS.F ht9⟩) hS.2.2 dX7_whatIs_73
    obtain ⟨k10, ek10, h⟩ := bd_e h
    have kk10 : ∀ (_ : Unit), k10 () = some (r0, I0, A0) → ∀ (H : Heap) (locs : List Loc), va_P D vwCl (VW K ad I3 G A L) H → va_S (vF ad s.heap.size) s.heap H locs → ∀ (ls : Array Slot), lv_has ls 7 [(0, .ref (ad 318)), (1, .int a1), (2, .int a2)] → W p l e ({ frames := 4, cells := 0, slots := 0, locals := 114 }) s m ([.ref (ad 318), .int a1, .int a2, .int a3] : List Value).toArray below meth c H locs 0 0 (MQ below (va_Qi (fun (r : Int32) (u : Mem) => r = r0 ∧ u = (I0, G, A0, L)) (vB D K ad) (vF ad s.heap.size)) ([.ref (ad 318), .int a1, .int a2, .int a3] : List Value).toArray s 0 0 (vF ad s.heap.size)) (F0 m 80 ls []) := by
      intro _ h H locs hP hS ls hl
      subst ek10
      refine lv_aload_n hx hb dX7_whatIs_80 rfl (lv_at hl 0 rfl) ?_
      refine lv_iconst (v := 0) hx hb dX7_whatIs_81 (by decide) ?_
      refine vpI (v := 0) (ty := .int) hx hb hts hi7 tyX7 tyX7_ok nmX7 hown hK hP hap hS (318) (by decide) (show kd 318 = 7 by decide) (C := RX7) (T := TX7) (N := 79) rfl 65 (by decide) (by decide) (by decide) (by decide) (hts (.fieldLink RX7 278 "CrateHelpersModel" "boundNow" "I") (by decide +kernel)) (fun _ h9 => h9) rfl (by decide +kernel) rfl rfl dX7_whatIs_82 (fun H locs hP hS => ?_)
      obtain ⟨I11, eI11, h⟩ := bd_e h
      rw [← eI11] at hP
      have hP : va_P D vwCl (VW K ad I11 G A L) H := hP
      refine lv_iconst (v := 0) hx hb dX7_whatIs_85 (by decide) ?_
      refine lv_istore (lv' := [(4, .int 0), (0, .ref (ad 318)), (1, .int a1), (2, .int a2)]) hx hb dX7_whatIs_86 hl (by decide) rfl (fun ls hl => ?_)
      obtain ⟨k16, ek16, h⟩ := bd_e h
      have kk16 : ∀ (v17 : Int32) (I18 : Nat → Nat → Int32) (A19 : Nat → Nat → Int32), k16 v17 I18 A19 = some (r0, I0, A0) → ∀ (H : Heap) (locs : List Loc), va_P D vwCl (VW K ad I18 G A19 L) H → va_S (vF ad s.heap.size) s.heap H locs → ∀ (ls : Array Slot), lv_has ls 7 [(0, .ref (ad 318)), (4, .int v17)] → W p l e ({ frames := 4, cells := 0, slots := 0, locals := 114 }) s m ([.ref (ad 318), .int a1, .int a2, .int a3] : List Value).toArray below meth c H locs 0 0 (MQ below (va_Qi (fun (r : Int32) (u : Mem) => r = r0 ∧ u = (I0, G, A0, L)) (vB D K ad) (vF ad s.heap.size)) ([.ref (ad 318), .int a1, .int a2, .int a3] : List Value).toArray s 0 0 (vF ad s.heap.size)) (F0 m 212 ls []) := by
        intro v17 I18 A19 h H locs hP hS ls hl
        subst ek16
        refine lv_aload_n hx hb dX7_whatIs_212 rfl (lv_at hl 0 rfl) ?_
        refine lv_iload hx hb dX7_whatIs_213 (lv_at hl 1 rfl) ?_
        refine vpI (v := v17) (ty := .int) hx hb hts hi7 tyX7 tyX7_ok nmX7 hown hK hP hap hS (318) (by decide) (show kd 318 = 7 by decide) (C := RX7) (T := TX7) (N := 79) rfl 64 (by decide) (by decide) (by decide) (by decide) (hts (.fieldLink RX7 272 "CrateHelpersModel" "why" "I") (by decide +kernel)) (fun _ h9 => h9) rfl (by decide +kernel) rfl rfl dX7_whatIs_215 (fun H locs hP hS => ?_)
        obtain ⟨I20, eI20, h⟩ := bd_e h
        rw [← eI20] at hP
        have hP : va_P D vwCl (VW K ad I20 G A19 L) H := hP
        refine lv_iconst (v := 3) hx hb dX7_whatIs_218 (by decide) ?_
        exact W.iret (v := 3) hx hb hr (fun t9 ht9 hW9 => ⟨⟨3, (I20, G, A19, L), rfl, by cases h; exact ⟨rfl, rfl⟩, by rw [ht9]; exact hP, va_K.moved hW9.alike hK⟩, hS.F ht9⟩) hS.2.2 dX7_whatIs_219
      obtain ⟨k21, ek21, h⟩ := bd_e h
      have kk21 : ∀ (I22 : Nat → Nat → Int32) (A23 : Nat → Nat → Int32), k21 I22 A23 = some (r0, I0, A0) → ∀ (H : Heap) (locs : List Loc), va_P D vwCl (VW K ad I22 G A23 L) H → va_S (vF ad s.heap.size) s.heap H locs → ∀ (ls : Array Slot), lv_has ls 7 [] → W p l e ({ frames := 4, cells := 0, slots := 0, locals := 114 }) s m ([.ref (ad 318), .int a1, .int a2, .int a3] : List Value).toArray below meth c H locs 0 0 (MQ below (va_Qi (fun (r : Int32) (u : Mem) => r = r0 ∧ u = (I0, G, A0, L)) (vB D K ad) (vF ad s.heap.size)) ([.ref (ad 318), .int a1, .int a2, .int a3] : List Value).toArray s 0 0 (vF ad s.heap.size)) (F0 m 244 ls []) := by
        intro I22 A23 h H locs hP hS ls hl
        subst ek21
        refine lv_iconst (v := 0) hx hb dX7_whatIs_244 (by decide) ?_
        exact W.iret (v := 0) hx hb hr (fun t9 ht9 hW9 => ⟨⟨0, (I22, G, A23, L), rfl, by cases h; exact ⟨rfl, rfl⟩, by rw [ht9]; exact hP, va_K.moved hW9.alike hK⟩, hS.F ht9⟩) hS.2.2 dX7_whatIs_245
      have lp12 : ∀ (n : Nat) (v13 : Int32) (I14 : Nat → Nat → Int32) (A15 : Nat → Nat → Int32), f_X7_whatIs_L88 a1 a2 k16 k21 n v13 I14 A15 = some (r0, I0, A0) → ∀ (H : Heap) (locs : List Loc), va_P D vwCl (VW K ad I14 G A15 L) H → va_S (vF ad s.heap.size) s.heap H locs → ∀ (ls : Array Slot), lv_has ls 7 [(4, .int v13), (0, .ref (ad 318)), (1, .int a1), (2, .int a2)] → W p l e ({ frames := 4, cells := 0, slots := 0, locals := 114 }) s m ([.ref (ad 318), .int a1, .int a2, .int a3] : List Value).toArray below meth c H locs 0 0 (MQ below (va_Qi (fun (r : Int32) (u : Mem) => r = r0 ∧ u = (I0, G, A0, L)) (vB D K ad) (vF ad s.heap.size)) ([.ref (ad 318), .int a1, .int a2, .int a3] : List Value).toArray s 0 0 (vF ad s.heap.size)) (F0 m 88 ls []) := by
        intro n
        induction n with
        | zero => intro v13 I14 A15 h; exact absurd h (by rw [f_X7_whatIs_L88]; exact nofun)
        | succ n ih12 =>
          intro v13 I14 A15 h H locs hP hS ls hl
          rw [f_X7_whatIs_L88] at h
          refine lv_iload hx hb dX7_whatIs_88 (lv_at hl 0 rfl) ?_
          refine lv_aload_n hx hb dX7_whatIs_90 rfl (lv_at hl 1 rfl) ?_
          refine vgC hx hb hts hi7 hown hK hP (318) (by decide) (show kd 318 = 7 by decide) (C := RX7) (T := TX7) (N := 79) rfl 3 (by decide) (by decide) (by decide) (by decide) (319) rfl (hts (.fieldLink RX7 7 "CrateHelpersModel" "variables" "[I") (by decide +kernel)) (fun _ h9 => h9) dX7_whatIs_91 ?_
          refine lv_iload_n hx hb dX7_whatIs_94 rfl (lv_at hl 2 rfl) ?_
          obtain ⟨hn24, h⟩ := gk h
          refine xiald hx hb hK hP (319) (by decide) (show kd 319 = 8 by decide) (by rw [show ln 319 = 5 by decide]; exact hn24) dX7_whatIs_95 ?_
          refine lv_icmp_ge (tgt := 244) hx hb dX7_whatIs_96 (by decide) (fun c_25 => ?_) (fun c_25 => ?_)
          · have h := iN (Int32.not_lt.mpr c_25) h
            exact kk21 I14 A15 h _ _ hP hS ls (lv_sub hl [] rfl)
          · have h := ip (Int32.not_le.mp c_25) h
            refine lv_iload hx hb dX7_whatIs_99 (lv_at hl 0 rfl) ?_
            refine lv_iload_n hx hb dX7_whatIs_101 rfl (lv_at hl 3 rfl) ?_
            refine lv_icmp_ge (tgt := 131) hx hb dX7_whatIs_102 (by decide) (fun c_26 => ?_) (fun c_26 => ?_)
            · have h := iN (Int32.not_lt.mpr c_26) h
              refine lv_bipush (v := (-9)) hx hb dX7_whatIs_131 (by decide) ?_
              refine lv_istore (lv' := [(5, .int (-9)), (4, .int v13), (0, .ref (ad 318)), (1, .int a1), (2, .int a2)]) hx hb dX7_whatIs_133 hl (by decide) rfl (fun ls hl => ?_)
              refine lv_iconst (v := 0) hx hb dX7_whatIs_135 (by decide) ?_
              refine lv_istore (lv' := [(6, .int 0), (5, .int (-9)), (4, .int v13), (0, .ref (ad 318)), (1, .int a1), (2, .int a2)]) hx hb dX7_whatIs_136 hl (by decide) rfl (fun ls hl => ?_)
              obtain ⟨k31, ek31, h⟩ := bd_e h
              have kk31 : ∀ (v32 : Int32) (A33 : Nat → Nat → Int32), k31 v32 A33 = some (r0, I0, A0) → ∀ (H : Heap) (locs : List Loc), va_P D vwCl (VW K ad I14 G A33 L) H → va_S (vF ad s.heap.size) s.heap H locs → ∀ (ls : Array Slot), lv_has ls 7 [(0, .ref (ad 318)), (1, .int a1), (2, .int a2), (4, .int v13), (5, .int v32)] → W p l e ({ frames := 4, cells := 0, slots := 0, locals := 114 }) s m ([.ref (ad 318), .int a1, .int a2, .int a3] : List Value).toArray below meth c H locs 0 0 (MQ below (va_Qi (fun (r : Int32) (u : Mem) => r = r0 ∧ u = (I0, G, A0, L)) (vB D K ad) (vF ad s.heap.size)) ([.ref (ad 318), .int a1, .int a2, .int a3] : List Value).toArray s 0 0 (vF ad s.heap.size)) (F0 m 205 ls []) := by
                intro v32 A33 h H locs hP hS ls hl
                subst ek31
                refine lv_iload hx hb dX7_whatIs_205 (lv_at hl 4 rfl) ?_
                refine lv_bipush (v := (-9)) hx hb dX7_whatIs_207 (by decide) ?_
                refine lv_icmp_ne (tgt := 220) hx hb dX7_whatIs_209 (by decide) (fun c_34 => ?_) (fun c_34 => ?_)
                · have h := iN c_34 h
                  refine lv_aload_n hx hb dX7_whatIs_220 rfl (lv_at hl 0 rfl) ?_
                  refine lv_dup hx hb dX7_whatIs_221 rfl ?_
                  refine vgI hx hb hts hi7 hown hK hP (318) (by decide) (show kd 318 = 7 by decide) (C := RX7) (T := TX7) (N := 79) rfl 65 (by decide) (by decide) (by decide) (by decide) (hts (.fieldLink RX7 278 "CrateHelpersModel" "boundNow" "I") (by decide +kernel)) (fun _ h9 => h9) dX7_whatIs_222 ?_
                  refine lv_aload_n hx hb dX7_whatIs_225 rfl (lv_at hl 0 rfl) ?_
                  refine lv_iload_n hx hb dX7_whatIs_226 rfl (lv_at hl 1 rfl) ?_
                  refine lv_iload hx hb dX7_whatIs_227 (lv_at hl 3 rfl) ?_
                  refine lv_iload hx hb dX7_whatIs_229 (lv_at hl 4 rfl) ?_
                  obtain ⟨r35, hc36, h⟩ := Option.bind_eq_some_iff.mp h
                  refine ecV (As := [.int a1, .int v13, .int v32]) (rest := [.int (I14 318 65), .ref (ad 318)]) ⟨hx, hb, hml, hown, hts⟩ (e_X7_costAt l D K ad hap0 a1 v13 v32 I14 G A33 L r35 hc36) (cwV 3 hts gX7_whatIs_X7_costAt rfl rfl rfl (by decide +kernel) ⟨Nat.le_of_ble_eq_true rfl, Nat.le_of_ble_eq_true rfl⟩) hK hP hS (by decide) (show kd 318 = 7 by decide) (by decide) rfl rfl rfl hl.1 (Nat.le_of_ble_eq_true rfl) (Nat.le_of_ble_eq_true rfl) (Nat.le_of_ble_eq_true rfl) dX7_whatIs_231 (fun H locs hP hS => ?_) rfl
                  have hP : va_P D vwCl (VW K ad I14 G A33 L) H := hP
                  refine lv_iadd hx hb dX7_whatIs_234 ?_
                  refine vpI (v := ((I14 318 65) + r35)) (ty := .int) hx hb hts hi7 tyX7 tyX7_ok nmX7 hown hK hP hap hS (318) (by decide) (show kd 318 = 7 by decide) (C := RX7) (T := TX7) (N := 79) rfl 65 (by decide) (by decide) (by decide) (by decide) (hts (.fieldLink RX7 278 "CrateHelpersModel" "boundNow" "I") (by decide +kernel)) (fun _ h9 => h9) rfl (by decide +kernel) rfl rfl dX7_whatIs_235 (fun H locs hP hS => ?_)
                  obtain ⟨I37, eI37, h⟩ := bd_e h
                  rw [← eI37] at hP
                  have hP : va_P D vwCl (VW K ad I37 G A33 L) H := hP
                  refine lv_iinc (v := (v13 + 1)) (lv' := [(4, .int (v13 + 1)), (0, .ref (ad 318)), (1, .int a1), (2, .int a2), (5, .int v32)]) hx hb dX7_whatIs_238 hl (k := 3) rfl rfl (by decide) rfl (fun ls hl => ?_)
                  refine lv_goto (tgt := 88) hx hb dX7_whatIs_241 (by decide) ?_
                  exact ih12 (v13 + 1) I37 A33 h _ _ hP hS ls (lv_sub hl [0, 1, 2, 3] rfl)
                · have h := ip c_34 h
                  exact kk16 v13 I14 A33 h _ _ hP hS ls (lv_sub hl [0, 3] rfl)
              have lp27 : ∀ (n : Nat) (v28 : Int32) (v29 : Int32) (A30 : Nat → Nat → Int32), f_X7_whatIs_L138 v13 a1 a2 I14 k31 n v28 v29 A30 = some (r0, I0, A0) → ∀ (H : Heap) (locs : List Loc), va_P D vwCl (VW K ad I14 G A30 L) H → va_S (vF ad s.heap.size) s.heap H locs → ∀ (ls : Array Slot), lv_has ls 7 [(6, .int v28), (5, .int v29), (4, .int v13), (0, .ref (ad 318)), (1, .int a1), (2, .int a2)] → W p l e ({ frames := 4, cells := 0, slots := 0, locals := 114 }) s m ([.ref (ad 318), .int a1, .int a2, .int a3] : List Value).toArray below meth c H locs 0 0 (MQ below (va_Qi (fun (r : Int32) (u : Mem) => r = r0 ∧ u = (I0, G, A0, L)) (vB D K ad) (vF ad s.heap.size)) ([.ref (ad 318), .int a1, .int a2, .int a3] : List Value).toArray s 0 0 (vF ad s.heap.size)) (F0 m 138 ls []) := by
                intro n
                induction n with
                | zero => intro v28 v29 A30 h; exact absurd h (by rw [f_X7_whatIs_L138]; exact nofun)
                | succ n ih27 =>
                  intro v28 v29 A30 h H locs hP hS ls hl
                  rw [f_X7_whatIs_L138] at h
                  refine lv_iload hx hb dX7_whatIs_138 (lv_at hl 0 rfl) ?_
                  refine lv_aload_n hx hb dX7_whatIs_140 rfl (lv_at hl 3 rfl) ?_
                  refine vgC hx hb hts hi7 hown hK hP (318) (by decide) (show kd 318 = 7 by decide) (C := RX7) (T := TX7) (N := 79) rfl 5 (by decide) (by decide) (by decide) (by decide) (321) rfl (hts (.fieldLink RX7 16 "CrateHelpersModel" "values" "[I") (by decide +kernel)) (fun _ h9 => h9) dX7_whatIs_141 ?_
                  refine lv_bipush (v := 6) hx hb dX7_whatIs_144 (by decide) ?_
                  refine lv_iload_n hx hb dX7_whatIs_146 rfl (lv_at hl 4 rfl) ?_
                  refine lv_imul hx hb dX7_whatIs_147 ?_
                  refine lv_iload hx hb dX7_whatIs_148 (lv_at hl 2 rfl) ?_
                  refine lv_iadd hx hb dX7_whatIs_150 ?_
                  obtain ⟨hn38, h⟩ := gk h
                  refine xiald hx hb hK hP (321) (by decide) (show kd 321 = 8 by decide) (by rw [show ln 321 = 30 by decide]; exact hn38) dX7_whatIs_151 ?_
                  refine lv_icmp_ge (tgt := 205) hx hb dX7_whatIs_152 (by decide) (fun c_39 => ?_) (fun c_39 => ?_)
                  · have h := iN (Int32.not_lt.mpr c_39) h
                    exact kk31 v29 A30 h _ _ hP hS ls (lv_sub hl [3, 4, 5, 2, 1] rfl)
                  · have h := ip (Int32.not_le.mp c_39) h
                    refine lv_aload_n hx hb dX7_whatIs_155 rfl (lv_at hl 3 rfl) ?_
                    refine lv_iload_n hx hb dX7_whatIs_156 rfl (lv_at hl 4 rfl) ?_
                    refine lv_iload hx hb dX7_whatIs_157 (lv_at hl 2 rfl) ?_
                    refine lv_iload hx hb dX7_whatIs_159 (lv_at hl 0 rfl) ?_
                    obtain ⟨⟨r40, A41⟩, hc42, h⟩ := Option.bind_eq_some_iff.mp h
                    refine ecV (As := [.int a1, .int v13, .int v28]) (rest := []) ⟨hx, hb, hml, hown, hts⟩ (e_X7_isOut l D K ad hap0 a1 v13 v28 I14 G A30 L r40 A41 hc42) (cwV 3 hts gX7_whatIs_X7_isOut rfl rfl rfl (by decide +kernel) ⟨Nat.le_of_ble_eq_true rfl, Nat.le_of_ble_eq_true rfl⟩) hK hP hS (by decide) (show kd 318 = 7 by decide) (by decide) rfl rfl rfl hl.1 (Nat.le_of_ble_eq_true rfl) (Nat.le_of_ble_eq_true rfl) (Nat.le_of_ble_eq_true rfl) dX7_whatIs_161 (fun H locs hP hS => ?_) rfl
                    have hP : va_P D vwCl (VW K ad I14 G A41 L) H := hP
                    refine lv_if_ne (tgt := 199) hx hb dX7_whatIs_164 (by decide) (fun c_43 => ?_) (fun c_43 => ?_)
                    · have h := iN c_43 h
                      refine lv_iinc (v := (v28 + 1)) (lv' := [(6, .int (v28 + 1)), (5, .int v29), (4, .int v13), (0, .ref (ad 318)), (1, .int a1), (2, .int a2)]) hx hb dX7_whatIs_199 hl (k := 0) rfl rfl (by decide) rfl (fun ls hl => ?_)
                      refine lv_goto (tgt := 138) hx hb dX7_whatIs_202 (by decide) ?_
                      exact ih27 (v28 + 1) v29 A41 h _ _ hP hS ls (lv_sub hl [0, 1, 2, 3, 4, 5] rfl)
                    · have h := ip c_43 h
                      refine lv_iload hx hb dX7_whatIs_167 (lv_at hl 1 rfl) ?_
                      refine lv_bipush (v := (-9)) hx hb dX7_whatIs_169 (by decide) ?_
                      refine lv_icmp_eq (tgt := 195) hx hb dX7_whatIs_171 (by decide) (fun c_44 => ?_) (fun c_44 => ?_)
                      · have h := ip c_44 h
                        refine lv_iload hx hb dX7_whatIs_195 (lv_at hl 0 rfl) ?_
                        refine lv_istore (lv' := [(5, .int v28), (6, .int v28), (4, .int v13), (0, .ref (ad 318)), (1, .int a1), (2, .int a2)]) hx hb dX7_whatIs_197 hl (by decide) rfl (fun ls hl => ?_)
                        refine lv_iinc (v := (v28 + 1)) (lv' := [(6, .int (v28 + 1)), (5, .int v28), (4, .int v13), (0, .ref (ad 318)), (1, .int a1), (2, .int a2)]) hx hb dX7_whatIs_199 hl (k := 1) rfl rfl (by decide) rfl (fun ls hl => ?_)
                        refine lv_goto (tgt := 138) hx hb dX7_whatIs_202 (by decide) ?_
                        exact ih27 (v28 + 1) v28 A41 h _ _ hP hS ls (lv_sub hl [0, 1, 2, 3, 4, 5] rfl)
                      · have h := iN c_44 h
                        refine lv_aload_n hx hb dX7_whatIs_174 rfl (lv_at hl 3 rfl) ?_
                        refine lv_iload_n hx hb dX7_whatIs_175 rfl (lv_at hl 4 rfl) ?_
                        refine lv_iload hx hb dX7_whatIs_176 (lv_at hl 2 rfl) ?_
                        refine lv_iload hx hb dX7_whatIs_178 (lv_at hl 0 rfl) ?_
                        obtain ⟨r45, hc46, h⟩ := Option.bind_eq_some_iff.mp h
                        refine ecV (As := [.int a1, .int v13, .int v28]) (rest := []) ⟨hx, hb, hml, hown, hts⟩ (e_X7_costAt l D K ad hap0 a1 v13 v28 I14 G A41 L r45 hc46) (cwV 3 hts gX7_whatIs_X7_costAt rfl rfl rfl (by decide +kernel) ⟨Nat.le_of_ble_eq_true rfl, Nat.le_of_ble_eq_true rfl⟩) hK hP hS (by decide) (show kd 318 = 7 by decide) (by decide) rfl rfl rfl hl.1 (Nat.le_of_ble_eq_true rfl) (Nat.le_of_ble_eq_true rfl) (Nat.le_of_ble_eq_true rfl) dX7_whatIs_180 (fun H locs hP hS => ?_) rfl
                        have hP : va_P D vwCl (VW K ad I14 G A41 L) H := hP
                        refine lv_aload_n hx hb dX7_whatIs_183 rfl (lv_at hl 3 rfl) ?_
                        refine lv_iload_n hx hb dX7_whatIs_184 rfl (lv_at hl 4 rfl) ?_
                        refine lv_iload hx hb dX7_whatIs_185 (lv_at hl 2 rfl) ?_
                        refine lv_iload hx hb dX7_whatIs_187 (lv_at hl 1 rfl) ?_
                        obtain ⟨r47, hc48, h⟩ := Option.bind_eq_some_iff.mp h
                        refine ecV (As := [.int a1, .int v13, .int v29]) (rest := [.int r45]) ⟨hx, hb, hml, hown, hts⟩ (e_X7_costAt l D K ad hap0 a1 v13 v29 I14 G A41 L r47 hc48) (cwV 3 hts gX7_whatIs_X7_costAt rfl rfl rfl (by decide +kernel) ⟨Nat.le_of_ble_eq_true rfl, Nat.le_of_ble_eq_true rfl⟩) hK hP hS (by decide) (show kd 318 = 7 by decide) (by decide) rfl rfl rfl hl.1 (Nat.le_of_ble_eq_true rfl) (Nat.le_of_ble_eq_true rfl) (Nat.le_of_ble_eq_true rfl) dX7_whatIs_189 (fun H locs hP hS => ?_) rfl
                        have hP : va_P D vwCl (VW K ad I14 G A41 L) H := hP
                        refine lv_icmp_ge (tgt := 199) hx hb dX7_whatIs_192 (by decide) (fun c_49 => ?_) (fun c_49 => ?_)
                        · have h := iN (Int32.not_lt.mpr c_49) h
                          refine lv_iinc (v := (v28 + 1)) (lv' := [(6, .int (v28 + 1)), (5, .int v29), (4, .int v13), (0, .ref (ad 318)), (1, .int a1), (2, .int a2)]) hx hb dX7_whatIs_199 hl (k := 0) rfl rfl (by decide) rfl (fun ls hl => ?_)
                          refine lv_goto (tgt := 138) hx hb dX7_whatIs_202 (by decide) ?_
                          exact ih27 (v28 + 1) v29 A41 h _ _ hP hS ls (lv_sub hl [0, 1, 2, 3, 4, 5] rfl)
                        · have h := ip (Int32.not_le.mp c_49) h
                          refine lv_iload hx hb dX7_whatIs_195 (lv_at hl 0 rfl) ?_
                          refine lv_istore (lv' := [(5, .int v28), (6, .int v28), (4, .int v13), (0, .ref (ad 318)), (1, .int a1), (2, .int a2)]) hx hb dX7_whatIs_197 hl (by decide) rfl (fun ls hl => ?_)
                          refine lv_iinc (v := (v28 + 1)) (lv' := [(6, .int (v28 + 1)), (5, .int v28), (4, .int v13), (0, .ref (ad 318)), (1, .int a1), (2, .int a2)]) hx hb dX7_whatIs_199 hl (k := 1) rfl rfl (by decide) rfl (fun ls hl => ?_)
                          refine lv_goto (tgt := 138) hx hb dX7_whatIs_202 (by decide) ?_
                          exact ih27 (v28 + 1) v28 A41 h _ _ hP hS ls (lv_sub hl [0, 1, 2, 3, 4, 5] rfl)
              exact lp27 FU 0 (-9) A15 h _ _ hP hS ls (lv_sub hl [0, 1, 2, 3, 4, 5] rfl)
            · have h := ip (Int32.not_le.mp c_26) h
              refine lv_aload_n hx hb dX7_whatIs_105 rfl (lv_at hl 1 rfl) ?_
              refine lv_dup hx hb dX7_whatIs_106 rfl ?_
              refine vgI hx hb hts hi7 hown hK hP (318) (by decide) (show kd 318 = 7 by decide) (C := RX7) (T := TX7) (N := 79) rfl 65 (by decide) (by decide) (by decide) (by decide) (hts (.fieldLink RX7 278 "CrateHelpersModel" "boundNow" "I") (by decide +kernel)) (fun _ h9 => h9) dX7_whatIs_107 ?_
              refine lv_aload_n hx hb dX7_whatIs_110 rfl (lv_at hl 1 rfl) ?_
              refine lv_iload_n hx hb dX7_whatIs_111 rfl (lv_at hl 2 rfl) ?_
              refine lv_iload hx hb dX7_whatIs_112 (lv_at hl 0 rfl) ?_
              refine lv_aload_n hx hb dX7_whatIs_114 rfl (lv_at hl 1 rfl) ?_
              refine vgC hx hb hts hi7 hown hK hP (318) (by decide) (show kd 318 = 7 by decide) (C := RX7) (T := TX7) (N := 79) rfl 63 (by decide) (by decide) (by decide) (by decide) (364) rfl (hts (.fieldLink RX7 159 "CrateHelpersModel" "now" "[I") (by decide +kernel)) (fun _ h9 => h9) dX7_whatIs_115 ?_
              refine lv_iload hx hb dX7_whatIs_118 (lv_at hl 0 rfl) ?_
              obtain ⟨hn50, h⟩ := gk h
              refine xiald hx hb hK hP (364) (by decide) (show kd 364 = 8 by decide) (by rw [show ln 364 = 6 by decide]; exact hn50) dX7_whatIs_120 ?_
              obtain ⟨r51, hc52, h⟩ := Option.bind_eq_some_iff.mp h
              refine ecV (As := [.int a1, .int v13, .int (A15 364 v13.toNatClampNeg)]) (rest := [.int (I14 318 65), .ref (ad 318)]) ⟨hx, hb, hml, hown, hts⟩ (e_X7_costAt l D K ad hap0 a1 v13 (A15 364 v13.toNatClampNeg) I14 G A15 L r51 hc52) (cwV 3 hts gX7_whatIs_X7_costAt rfl rfl rfl (by decide +kernel) ⟨Nat.le_of_ble_eq_true rfl, Nat.le_of_ble_eq_true rfl⟩) hK hP hS (by decide) (show kd 318 = 7 by decide) (by decide) rfl rfl rfl hl.1 (Nat.le_of_ble_eq_true rfl) (Nat.le_of_ble_eq_true rfl) (Nat.le_of_ble_eq_true rfl) dX7_whatIs_121 (fun H locs hP hS => ?_) rfl
              have hP : va_P D vwCl (VW K ad I14 G A15 L) H := hP
              refine lv_iadd hx hb dX7_whatIs_124 ?_
              refine vpI (v := ((I14 318 65) + r51)) (ty := .int) hx hb hts hi7 tyX7 tyX7_ok nmX7 hown hK hP hap hS (318) (by decide) (show kd 318 = 7 by decide) (C := RX7) (T := TX7) (N := 79) rfl 65 (by decide) (by decide) (by decide) (by decide) (hts (.fieldLink RX7 278 "CrateHelpersModel" "boundNow" "I") (by decide +kernel)) (fun _ h9 => h9) rfl (by decide +kernel) rfl rfl dX7_whatIs_125 (fun H locs hP hS => ?_)
              obtain ⟨I53, eI53, h⟩ := bd_e h
              rw [← eI53] at hP
              have hP : va_P D vwCl (VW K ad I53 G A15 L) H := hP
              refine lv_goto (tgt := 238) hx hb dX7_whatIs_128 (by decide) ?_
              refine lv_iinc (v := (v13 + 1)) (lv' := [(4, .int (v13 + 1)), (0, .ref (ad 318)), (1, .int a1), (2, .int a2)]) hx hb dX7_whatIs_238 hl (k := 0) rfl rfl (by decide) rfl (fun ls hl => ?_)
              refine lv_goto (tgt := 88) hx hb dX7_whatIs_241 (by decide) ?_
              exact ih12 (v13 + 1) I53 A15 h _ _ hP hS ls (lv_sub hl [0, 1, 2, 3] rfl)
      exact lp12 FU 0 I11 A h _ _ hP hS ls (lv_sub hl [0, 1, 2, 3] rfl)
    have lp5 : ∀ (n : Nat) (v6 : Int32), f_X7_whatIs_L23 a1 a2 a3 I3 A k7 k10 n v6 = some (r0, I0, A0) → ∀ (H : Heap) (locs : List Loc), va_P D vwCl (VW K ad I3 G A L) H → va_S (vF ad s.heap.size) s.heap H locs → ∀ (ls : Array Slot), lv_has ls 7 [(4, .int v6), (0, .ref (ad 318)), (1, .int a1), (2, .int a2), (3, .int a3)] → W p l e ({ frames := 4, cells := 0, slots := 0, locals := 114 }) s m ([.ref (ad 318), .int a1, .int a2, .int a3] : List Value).toArray below meth c H locs 0 0 (MQ below (va_Qi (fun (r : Int32) (u : Mem) => r = r0 ∧ u = (I0, G, A0, L)) (vB D K ad) (vF ad s.heap.size)) ([.ref (ad 318), .int a1, .int a2, .int a3] : List Value).toArray s 0 0 (vF ad s.heap.size)) (F0 m 23 ls []) := by
      intro n
      induction n with
      | zero => intro v6 h; exact absurd h (by rw [f_X7_whatIs_L23]; exact nofun)
      | succ n ih5 =>
        intro v6 h H locs hP hS ls hl
        rw [f_X7_whatIs_L23] at h
        refine lv_iload hx hb dX7_whatIs_23 (lv_at hl 0 rfl) ?_
        refine lv_iconst (v := 1) hx hb dX7_whatIs_25 (by decide) ?_
        refine lv_iadd hx hb dX7_whatIs_26 ?_
        refine lv_iload_n hx hb dX7_whatIs_27 rfl (lv_at hl 3 rfl) ?_
        refine lv_icmp_ge (tgt := 80) hx hb dX7_whatIs_28 (by decide) (fun c_54 => ?_) (fun c_54 => ?_)
        · have h := iN (Int32.not_lt.mpr c_54) h
          exact kk10 () h _ _ hP hS ls (lv_sub hl [1, 2, 3] rfl)
        · have h := ip (Int32.not_le.mp c_54) h
          refine lv_iload_n hx hb dX7_whatIs_31 rfl (lv_at hl 4 rfl) ?_
          refine lv_if_eq (tgt := 80) hx hb dX7_whatIs_32 (by decide) (fun c_55 => ?_) (fun c_55 => ?_)
          · have h := ip c_55 h
            exact kk10 () h _ _ hP hS ls (lv_sub hl [1, 2, 3] rfl)
          · have h := iN c_55 h
            refine lv_aload_n hx hb dX7_whatIs_35 rfl (lv_at hl 1 rfl) ?_
            refine vgC hx hb hts hi7 hown hK hP (318) (by decide) (show kd 318 = 7 by decide) (C := RX7) (T := TX7) (N := 79) rfl 63 (by decide) (by decide) (by decide) (by decide) (364) rfl (hts (.fieldLink RX7 159 "CrateHelpersModel" "now" "[I") (by decide +kernel)) (fun _ h9 => h9) dX7_whatIs_36 ?_
            refine lv_iload hx hb dX7_whatIs_39 (lv_at hl 0 rfl) ?_
            obtain ⟨hn56, h⟩ := gk h
            refine xiald hx hb hK hP (364) (by decide) (show kd 364 = 8 by decide) (by rw [show ln 364 = 6 by decide]; exact hn56) dX7_whatIs_41 ?_
            refine lv_aload_n hx hb dX7_whatIs_42 rfl (lv_at hl 1 rfl) ?_
            refine vgC hx hb hts hi7 hown hK hP (318) (by decide) (show kd 318 = 7 by decide) (C := RX7) (T := TX7) (N := 79) rfl 63 (by decide) (by decide) (by decide) (by decide) (364) rfl (hts (.fieldLink RX7 159 "CrateHelpersModel" "now" "[I") (by decide +kernel)) (fun _ h9 => h9) dX7_whatIs_43 ?_
            refine lv_iload_n hx hb dX7_whatIs_46 rfl (lv_at hl 3 rfl) ?_
            refine lv_iconst (v := 1) hx hb dX7_whatIs_47 (by decide) ?_
            refine lv_isub hx hb dX7_whatIs_48 ?_
            obtain ⟨hn57, h⟩ := gk h
            refine xiald hx hb hK hP (364) (by decide) (show kd 364 = 8 by decide) (by rw [show ln 364 = 6 by decide]; exact hn57) dX7_whatIs_49 ?_
            refine lv_icmp_le (tgt := 74) hx hb dX7_whatIs_50 (by decide) (fun c_58 => ?_) (fun c_58 => ?_)
            · have h := iN (Int32.not_lt.mpr c_58) h
              refine lv_iinc (v := (v6 + 1)) (lv' := [(4, .int (v6 + 1)), (0, .ref (ad 318)), (1, .int a1), (2, .int a2), (3, .int a3)]) hx hb dX7_whatIs_74 hl (k := 0) rfl rfl (by decide) rfl (fun ls hl => ?_)
              refine lv_goto (tgt := 23) hx hb dX7_whatIs_77 (by decide) ?_
              exact ih5 (v6 + 1) h _ _ hP hS ls (lv_sub hl [0, 1, 2, 3, 4] rfl)
            · have h := ip (Int32.not_le.mp c_58) h
              refine lv_aload_n hx hb dX7_whatIs_53 rfl (lv_at hl 1 rfl) ?_
              refine lv_iload_n hx hb dX7_whatIs_54 rfl (lv_at hl 2 rfl) ?_
              refine lv_iload hx hb dX7_whatIs_55 (lv_at hl 0 rfl) ?_
              refine lv_iload_n hx hb dX7_whatIs_57 rfl (lv_at hl 3 rfl) ?_
              refine lv_iconst (v := 1) hx hb dX7_whatIs_58 (by decide) ?_
              refine lv_isub hx hb dX7_whatIs_59 ?_
              obtain ⟨r59, hc60, h⟩ := Option.bind_eq_some_iff.mp h
              refine ecV (As := [.int a1, .int v6, .int (a2 - 1)]) (rest := []) ⟨hx, hb, hml, hown, hts⟩ (e_X7_areLike l D K ad hap0 a1 v6 (a2 - 1) I3 G A L r59 hc60) (cwV 3 hts gX7_whatIs_X7_areLike rfl rfl rfl (by decide +kernel) ⟨Nat.le_of_ble_eq_true rfl, Nat.le_of_ble_eq_true rfl⟩) hK hP hS (by decide) (show kd 318 = 7 by decide) (by decide) rfl rfl rfl hl.1 (Nat.le_of_ble_eq_true rfl) (Nat.le_of_ble_eq_true rfl) (Nat.le_of_ble_eq_true rfl) dX7_whatIs_60 (fun H locs hP hS => ?_) rfl
              have hP : va_P D vwCl (VW K ad I3 G A L) H := hP
              refine lv_if_eq (tgt := 74) hx hb dX7_whatIs_63 (by decide) (fun c_61 => ?_) (fun c_61 => ?_)
              · have h := ip c_61 h
                refine lv_iinc (v := (v6 + 1)) (lv' := [(4, .int (v6 + 1)), (0, .ref (ad 318)), (1, .int a1), (2, .int a2), (3, .int a3)]) hx hb dX7_whatIs_74 hl (k := 0) rfl rfl (by decide) rfl (fun ls hl => ?_)
                refine lv_goto (tgt := 23) hx hb dX7_whatIs_77 (by decide) ?_
                exact ih5 (v6 + 1) h _ _ hP hS ls (lv_sub hl [0, 1, 2, 3, 4] rfl)
              · have h := iN c_61 h
                exact kk7 v6 h _ _ hP hS ls (lv_sub hl [1, 0] rfl)
    exact lp5 FU 0 h _ _ hP hS ls (lv_sub hl [0, 1, 2, 3, 4] rfl)
  · have h := iN c_4 h
    refine lv_iconst (v := 1) hx hb dX7_whatIs_18 (by decide) ?_
    exact W.iret (v := 1) hx hb hr (fun t9 ht9 hW9 => ⟨⟨1, (I3, G, A, L), rfl, by cases h; exact ⟨rfl, rfl⟩, by rw [ht9]; exact hP, va_K.moved hW9.alike hK⟩, hS.F ht9⟩) hS.2.2 dX7_whatIs_19
set_option maxHeartbeats 4000000 in
set_option maxRecDepth 100000 in
theorem e_X7_begins (l : Launch) (D : va_G) (K : Nat → ClassId) (ad : Nat → Nat) (hap0 : apart ad (fun _ => True)) (a1 : Int32) (a2 : Int32) (I : Nat → Nat → Int32) (G : Nat → Nat → Nat) (A : Nat → Nat → Int32) (L : Nat → Nat → Int64) (I0 : Nat → Nat → Int32) (A0 : Nat → Nat → Int32) (h : f_X7_begins I A a1 a2 = some (I0, A0)) : Cv l D K ad yX7_begins wsX7_begins 5 143 [.ref (ad 318), .int a1, .int a2] (I, G, A, L) (fun (u : Mem) => u = (I0, G, A0, L)) := by
  intro sz
  refine Met.ofW (cc := cX7_begins) (maxL := 4) (ret := none) (by decide) rfl ?_
  intro p e s m args below meth c s₁ Bd hml hv0
  obtain ⟨rfl, hsz, hP, hK⟩ := hv0
  have hx := Bd.exec
  have hb := Bd.bytes
  have hr := Bd.returns
  have hts := atoms_spec (ws := wsX7_begins) Bd.pre
  have hown : s.vm.findClass RX7 = some m.cls := findClass_of_methodNamed Bd.named
  have hlocks := Bd.notSynchronized
  have hi7 : ∀ w ∈ u_ws RX7 TX7 79, w ∈ wsX7_begins := fun w h => List.mem_cons_of_mem _ (List.mem_append_right _ h)
  subst hsz
  have hap := vF_ap hap0 s.heap.size
  have hS : va_S (vF ad s.heap.size) s.heap s.heap [] := va_S.rf
  have hP : va_P D vwCl (VW K ad I G A L) s.heap := hP
  have hl := lv_entry ([.ref (ad 318), .int a1, .int a2]) (n := 4) (Nat.le_of_ble_eq_true rfl)
  rw [lg_entry_eq]
  generalize (lg_sl ([.ref (ad 318), .int a1, .int a2]) ++ List.replicate (4 - (lg_sl ([.ref (ad 318), .int a1, .int a2])).length) Slot.unset).toArray = ls at hl ⊢
  have hl : lv_has ls 4 [(0, .ref (ad 318)), (1, .int a1), (2, .int a2)] := hl
  rw [f_X7_begins] at h
  refine lv_aload_n hx hb dX7_begins_0 rfl (lv_at hl 0 rfl) ?_
  refine lv_iconst (v := 0) hx hb dX7_begins_1 (by decide) ?_
  refine vpI (v := 0) (ty := .int) hx hb hts hi7 tyX7 tyX7_ok nmX7 hown hK hP hap hS (318) (by decide) (show kd 318 = 7 by decide) (C := RX7) (T := TX7) (N := 79) rfl 29 (by decide) (by decide) (by decide) (by decide) (hts (.fieldLink RX7 284 "CrateHelpersModel" "nodes" "I") (by decide +kernel)) (fun _ h9 => h9) rfl (by decide +kernel) rfl rfl dX7_begins_2 (fun H locs hP hS => ?_)
  obtain ⟨I1, eI1, h⟩ := bd_e h
  rw [← eI1] at hP
  have hP : va_P D vwCl (VW K ad I1 G A L) H := hP
  refine lv_aload_n hx hb dX7_begins_5 rfl (lv_at hl 0 rfl) ?_
  refine lv_iconst (v := 0) hx hb dX7_begins_6 (by decide) ?_
  refine vpI (v := 0) (ty := .int) hx hb hts hi7 tyX7 tyX7_ok nmX7 hown hK hP hap hS (318) (by decide) (show kd 318 = 7 by decide) (C := RX7) (T := TX7) (N := 79) rfl 30 (by decide) (by decide) (by decide) (by decide) (hts (.fieldLink RX7 287 "CrateHelpersModel" "done" "I") (by decide +kernel)) (fun _ h9 => h9) rfl (by decide +kernel) rfl rfl dX7_begins_7 (fun H locs hP hS => ?_)
  obtain ⟨I2, eI2, h⟩ := bd_e h
  rw [← eI2] at hP
  have hP : va_P D vwCl (VW K ad I2 G A L) H := hP
  refine lv_aload_n hx hb dX7_begins_10 rfl (lv_at hl 0 rfl) ?_
  refine lv_iconst (v := 0) hx hb dX7_begins_11 (by decide) ?_
  refine vpI (v := 0) (ty := .int) hx hb hts hi7 tyX7 tyX7_ok nmX7 hown hK hP hap hS (318) (by decide) (show kd 318 = 7 by decide) (C := RX7) (T := TX7) (N := 79) rfl 31 (by decide) (by decide) (by decide) (by decide) (hts (.fieldLink RX7 303 "CrateHelpersModel" "taken" "I") (by decide +kernel)) (fun _ h9 => h9) rfl (by decide +kernel) rfl rfl dX7_begins_12 (fun H locs hP hS => ?_)
  obtain ⟨I3, eI3, h⟩ := bd_e h
  rw [← eI3] at hP
  have hP : va_P D vwCl (VW K ad I3 G A L) H := hP
  refine lv_iconst (v := 0) hx hb dX7_begins_15 (by decide) ?_
  refine lv_istore_n (lv' := [(3, .int 0), (0, .ref (ad 318)), (1, .int a1), (2, .int a2)]) hx hb dX7_begins_16 rfl hl (by decide) rfl (fun ls hl => ?_)
  obtain ⟨k7, ek7, h⟩ := bd_e h
  have kk7 : ∀ (A8 : Nat → Nat → Int32), k7 A8 = some (I0, A0) → ∀ (H : Heap) (locs : List Loc), va_P D vwCl (VW K ad I3 G A8 L) H → va_S (vF ad s.heap.size) s.heap H locs → ∀ (ls : Array Slot), lv_has ls 4 [(0, .ref (ad 318)), (1, .int a1), (2, .int a2)] → W p l e ({ frames := 5, cells := 0, slots := 0, locals := 143 }) s m ([.ref (ad 318), .int a1, .int a2] : List Value).toArray below meth c H locs 0 0 (MQ below (va_Qv (fun (u : Mem) => u = (I0, G, A0, L)) (vB D K ad) (vF ad s.heap.size)) ([.ref (ad 318), .int a1, .int a2] : List Value).toArray s 0 0 (vF ad s.heap.size)) (F0 m 37 ls []) := by
    intro A8 h H locs hP hS ls hl
    subst ek7
    refine lv_aload_n hx hb dX7_begins_37 rfl (lv_at hl 0 rfl) ?_
    refine lv_iload_n hx hb dX7_begins_38 rfl (lv_at hl 1 rfl) ?_
    refine lv_iconst (v := 0) hx hb dX7_begins_39 (by decide) ?_
    refine lv_iload_n hx hb dX7_begins_40 rfl (lv_at hl 2 rfl) ?_
    obtain ⟨⟨r9, I10, A11⟩, hc12, h⟩ := Option.bind_eq_some_iff.mp h
    refine ecV (As := [.int a1, .int 0, .int a2]) (rest := []) ⟨hx, hb, hml, hown, hts⟩ (e_X7_whatIs l D K ad hap0 a1 0 a2 I3 G A8 L r9 I10 A11 hc12) (cwV 3 hts gX7_begins_X7_whatIs rfl rfl rfl (by decide +kernel) ⟨Nat.le_of_ble_eq_true rfl, Nat.le_of_ble_eq_true rfl⟩) hK hP hS (by decide) (show kd 318 = 7 by decide) (by decide) rfl rfl rfl hl.1 (Nat.le_of_ble_eq_true rfl) (Nat.le_of_ble_eq_true rfl) (Nat.le_of_ble_eq_true rfl) dX7_begins_41 (fun H locs hP hS => ?_) rfl
    have hP : va_P D vwCl (VW K ad I10 G A11 L) H := hP
    refine lv_if_ne (tgt := 54) hx hb dX7_begins_44 (by decide) (fun c_13 => ?_) (fun c_13 => ?_)
    · have h := iN c_13 h
      exact W.vret hx hb hr (fun t9 ht9 hW9 => ⟨⟨(I10, G, A11, L), rfl, by cases h; rfl, by rw [ht9]; exact hP, va_K.moved hW9.alike hK⟩, hS.F ht9⟩) hS.2.2 dX7_begins_54
    · have h := ip c_13 h
      refine lv_aload_n hx hb dX7_begins_47 rfl (lv_at hl 0 rfl) ?_
      refine lv_iconst (v := 0) hx hb dX7_begins_48 (by decide) ?_
      refine lv_bipush (v := (-9)) hx hb dX7_begins_49 (by decide) ?_
      obtain ⟨⟨I14, A15⟩, hc16, h⟩ := Option.bind_eq_some_iff.mp h
      refine ecVv (As := [.int 0, .int (-9)]) (rest := []) ⟨hx, hb, hml, hown, hts⟩ (e_X7_addNode l D K ad hap0 0 (-9) I10 G A11 L I14 A15 hc16) (cwV 2 hts gX7_begins_X7_addNode rfl rfl rfl (by decide +kernel) ⟨Nat.le_of_ble_eq_true rfl, Nat.le_of_ble_eq_true rfl⟩) hK hP hS (by decide) (show kd 318 = 7 by decide) (by decide) rfl rfl rfl hl.1 (Nat.le_of_ble_eq_true rfl) (Nat.le_of_ble_eq_true rfl) (Nat.le_of_ble_eq_true rfl) dX7_begins_51 (fun H locs hP hS => ?_) rfl
      have hP : va_P D vwCl (VW K ad I14 G A15 L) H := hP
      exact W.vret hx hb hr (fun t9 ht9 hW9 => ⟨⟨(I14, G, A15, L), rfl, by cases h; rfl, by rw [ht9]; exact hP, va_K.moved hW9.alike hK⟩, hS.F ht9⟩) hS.2.2 dX7_begins_54
  have lp4 : ∀ (n : Nat) (v5 : Int32) (A6 : Nat → Nat → Int32), f_X7_begins_L17 a1 a2 I3 k7 n v5 A6 = some (I0, A0) → ∀ (H : Heap) (locs : List Loc), va_P D vwCl (VW K ad I3 G A6 L) H → va_S (vF ad s.heap.size) s.heap H locs → ∀ (ls : Array Slot), lv_has ls 4 [(3, .int v5), (0, .ref (ad 318)), (1, .int a1), (2, .int a2)] → W p l e ({ frames := 5, cells := 0, slots := 0, locals := 143 }) s m ([.ref (ad 318), .int a1, .int a2] : List Value).toArray below meth c H locs 0 0 (MQ below (va_Qv (fun (u : Mem) => u = (I0, G, A0, L)) (vB D K ad) (vF ad s.heap.size)) ([.ref (ad 318), .int a1, .int a2] : List Value).toArray s 0 0 (vF ad s.heap.size)) (F0 m 17 ls []) := by
    intro n
    induction n with
    | zero => intro v5 A6 h; exact absurd h (by rw [f_X7_begins_L17]; exact nofun)
    | succ n ih4 =>
      intro v5 A6 h H locs hP hS ls hl
      rw [f_X7_begins_L17] at h
      refine lv_iload_n hx hb dX7_begins_17 rfl (lv_at hl 0 rfl) ?_
      refine lv_bipush (v := 6) hx hb dX7_begins_18 (by decide) ?_
      refine lv_icmp_ge (tgt := 37) hx hb dX7_begins_20 (by decide) (fun c_17 => ?_) (fun c_17 => ?_)
      · have h := iN (Int32.not_lt.mpr c_17) h
        exact kk7 A6 h _ _ hP hS ls (lv_sub hl [1, 2, 3] rfl)
      · have h := ip (Int32.not_le.mp c_17) h
        refine lv_aload_n hx hb dX7_begins_23 rfl (lv_at hl 1 rfl) ?_
        refine vgC hx hb hts hi7 hown hK hP (318) (by decide) (show kd 318 = 7 by decide) (C := RX7) (T := TX7) (N := 79) rfl 63 (by decide) (by decide) (by decide) (by decide) (364) rfl (hts (.fieldLink RX7 159 "CrateHelpersModel" "now" "[I") (by decide +kernel)) (fun _ h9 => h9) dX7_begins_24 ?_
        refine lv_iload_n hx hb dX7_begins_27 rfl (lv_at hl 0 rfl) ?_
        refine lv_bipush (v := (-9)) hx hb dX7_begins_28 (by decide) ?_
        obtain ⟨hn18, h⟩ := gk h
        refine xiast hx hb hK hP hap hS (364) (by decide) (show kd 364 = 8 by decide) (by rw [show ln 364 = 6 by decide]; exact hn18) dX7_begins_30 (fun H locs hP hS => ?_)
        obtain ⟨A19, eA19, h⟩ := bd_e h
        rw [← eA19] at hP
        have hP : va_P D vwCl (VW K ad I3 G A19 L) H := hP
        refine lv_iinc (v := (v5 + 1)) (lv' := [(3, .int (v5 + 1)), (0, .ref (ad 318)), (1, .int a1), (2, .int a2)]) hx hb dX7_begins_31 hl (k := 0) rfl rfl (by decide) rfl (fun ls hl => ?_)
        refine lv_goto (tgt := 17) hx hb dX7_begins_34 (by decide) ?_
        exact ih4 (v5 + 1) A19 h _ _ hP hS ls (lv_sub hl [0, 1, 2, 3] rfl)
  exact lp4 FU 0 A h _ _ hP hS ls (lv_sub hl [0, 1, 2, 3] rfl)
set_option maxHeartbeats 4000000 in
set_option maxRecDepth 100000 in
theorem e_X7_changes (l : Launch) (D : va_G) (K : Nat → ClassId) (ad : Nat → Nat) (hap0 : apart ad (fun _ => True)) (a1 : Int32) (I : Nat → Nat → Int32) (G : Nat → Nat → Nat) (A : Nat → Nat → Int32) (L : Nat → Nat → Int64) (I0 : Nat → Nat → Int32) (A0 : Nat → Nat → Int32) (h : f_X7_changes I A a1 = some (I0, A0)) : Cv l D K ad yX7_changes wsX7_changes 0 0 [.ref (ad 318), .int a1] (I, G, A, L) (fun (u : Mem) => u = (I0, G, A0, L)) := by
  intro sz
  refine Met.ofW (cc := cX7_changes) (maxL := 2) (ret := none) (by decide) rfl ?_
  intro p e s m args below meth c s₁ Bd hml hv0
  obtain ⟨rfl, hsz, hP, hK⟩ := hv0
  have hx := Bd.exec
  have hb := Bd.bytes
  have hr := Bd.returns
  have hts := atoms_spec (ws := wsX7_changes) Bd.pre
  have hown : s.vm.findClass RX7 = some m.cls := findClass_of_methodNamed Bd.named
  have hlocks := Bd.notSynchronized
  have hi7 : ∀ w ∈ u_ws RX7 TX7 79, w ∈ wsX7_changes := fun w h => List.mem_cons_of_mem _ (List.mem_append_right _ h)
  subst hsz
  have hap := vF_ap hap0 s.heap.size
  have hS : va_S (vF ad s.heap.size) s.heap s.heap [] := va_S.rf
  have hP : va_P D vwCl (VW K ad I G A L) s.heap := hP
  have hl := lv_entry ([.ref (ad 318), .int a1]) (n := 2) (Nat.le_of_ble_eq_true rfl)
  rw [lg_entry_eq]
  generalize (lg_sl ([.ref (ad 318), .int a1]) ++ List.replicate (2 - (lg_sl ([.ref (ad 318), .int a1])).length) Slot.unset).toArray = ls at hl ⊢
  have hl : lv_has ls 2 [(0, .ref (ad 318)), (1, .int a1)] := hl
  rw [f_X7_changes] at h
  refine lv_aload_n hx hb dX7_changes_0 rfl (lv_at hl 0 rfl) ?_
  refine lv_dup hx hb dX7_changes_1 rfl ?_
  refine vgI hx hb hts hi7 hown hK hP (318) (by decide) (show kd 318 = 7 by decide) (C := RX7) (T := TX7) (N := 79) rfl 14 (by decide) (by decide) (by decide) (by decide) (hts (.fieldLink RX7 211 "CrateHelpersModel" "changes" "I") (by decide +kernel)) (fun _ h9 => h9) dX7_changes_2 ?_
  refine lv_iconst (v := 1) hx hb dX7_changes_5 (by decide) ?_
  refine lv_iadd hx hb dX7_changes_6 ?_
  refine vpI (v := ((I 318 14) + 1)) (ty := .int) hx hb hts hi7 tyX7 tyX7_ok nmX7 hown hK hP hap hS (318) (by decide) (show kd 318 = 7 by decide) (C := RX7) (T := TX7) (N := 79) rfl 14 (by decide) (by decide) (by decide) (by decide) (hts (.fieldLink RX7 211 "CrateHelpersModel" "changes" "I") (by decide +kernel)) (fun _ h9 => h9) rfl (by decide +kernel) rfl rfl dX7_changes_7 (fun H locs hP hS => ?_)
  obtain ⟨I1, eI1, h⟩ := bd_e h
  rw [← eI1] at hP
  have hP : va_P D vwCl (VW K ad I1 G A L) H := hP
  refine lv_aload_n hx hb dX7_changes_10 rfl (lv_at hl 0 rfl) ?_
  refine vgC hx hb hts hi7 hown hK hP (318) (by decide) (show kd 318 = 7 by decide) (C := RX7) (T := TX7) (N := 79) rfl 13 (by decide) (by decide) (by decide) (by decide) (329) rfl (hts (.fieldLink RX7 40 "CrateHelpersModel" "changed" "[I") (by decide +kernel)) (fun _ h9 => h9) dX7_changes_11 ?_
  refine lv_iload_n hx hb dX7_changes_14 rfl (lv_at hl 1 rfl) ?_
  refine lv_aload_n hx hb dX7_changes_15 rfl (lv_at hl 0 rfl) ?_
  refine vgI hx hb hts hi7 hown hK hP (318) (by decide) (show kd 318 = 7 by decide) (C := RX7) (T := TX7) (N := 79) rfl 14 (by decide) (by decide) (by decide) (by decide) (hts (.fieldLink RX7 211 "CrateHelpersModel" "changes" "I") (by decide +kernel)) (fun _ h9 => h9) dX7_changes_16 ?_
  obtain ⟨hn2, h⟩ := gk h
  refine xiast hx hb hK hP hap hS (329) (by decide) (show kd 329 = 8 by decide) (by rw [show ln 329 = 5 by decide]; exact hn2) dX7_changes_19 (fun H locs hP hS => ?_)
  obtain ⟨A3, eA3, h⟩ := bd_e h
  rw [← eA3] at hP
  have hP : va_P D vwCl (VW K ad I1 G A3 L) H := hP
  refine lv_aload_n hx hb dX7_changes_20 rfl (lv_at hl 0 rfl) ?_
  refine vgC hx hb hts hi7 hown hK hP (318) (by decide) (show kd 318 = 7 by decide) (C := RX7) (T := TX7) (N := 79) rfl 45 (by decide) (by decide) (by decide) (by decide) (351) rfl (hts (.fieldLink RX7 114 "CrateHelpersModel" "isTold" "[Z") (by decide +kernel)) (fun _ h9 => h9) dX7_changes_21 ?_
  refine lv_iload_n hx hb dX7_changes_24 rfl (lv_at hl 1 rfl) ?_
  refine lv_iconst (v := 0) hx hb dX7_changes_25 (by decide) ?_
  refine xzast hx hb hK hP hap hS (351) (by decide) (show kd 351 = 11 by decide) (by rw [show ln 351 = 5 by decide]; exact hn2) dX7_changes_26 (fun H locs hP hS => ?_)
  obtain ⟨A4, eA4, h⟩ := bd_e h
  rw [← eA4] at hP
  have hP : va_P D vwCl (VW K ad I1 G A4 L) H := hP
  refine lv_aload_n hx hb dX7_changes_27 rfl (lv_at hl 0 rfl) ?_
  refine vgC hx hb hts hi7 hown hK hP (318) (by decide) (show kd 318 = 7 by decide) (C := RX7) (T := TX7) (N := 79) rfl 46 (by decide) (by decide) (by decide) (by decide) (352) rfl (hts (.fieldLink RX7 117 "CrateHelpersModel" "hasAnswer" "[Z") (by decide +kernel)) (fun _ h9 => h9) dX7_changes_28 ?_
  refine lv_iload_n hx hb dX7_changes_31 rfl (lv_at hl 1 rfl) ?_
  refine lv_iconst (v := 0) hx hb dX7_changes_32 (by decide) ?_
  refine xzast hx hb hK hP hap hS (352) (by decide) (show kd 352 = 11 by decide) (by rw [show ln 352 = 5 by decide]; exact hn2) dX7_changes_33 (fun H locs hP hS => ?_)
  obtain ⟨A5, eA5, h⟩ := bd_e h
  rw [← eA5] at hP
  have hP : va_P D vwCl (VW K ad I1 G A5 L) H := hP
  exact W.vret hx hb hr (fun t9 ht9 hW9 => ⟨⟨(I1, G, A5, L), rfl, by cases h; rfl, by rw [ht9]; exact hP, va_K.moved hW9.alike hK⟩, hS.F ht9⟩) hS.2.2 dX7_changes_34
set_option maxHeartbeats 4000000 in
set_option maxRecDepth 100000 in
theorem e_X7_closed (l : Launch) (D : va_G) (K : Nat → ClassId) (ad : Nat → Nat) (hap0 : apart ad (fun _ => True)) (a1 : Int32) (a2 : Int32) (a3 : Int32) (I : Nat → Nat → Int32) (G : Nat → Nat → Nat) (A : Nat → Nat → Int32) (L : Nat → Nat → Int64) (r0 : Int32) (I0 : Nat → Nat → Int32) (h : f_X7_closed I A a1 a2 a3 = some (r0, I0)) : Ci l D K ad yX7_closed wsX7_closed 1 25 [.ref (ad 318), .int a1, .int a2, .int a3] (I, G, A, L) (fun (r : Int32) (u : Mem) => r = r0 ∧ u = (I0, G, A, L)) := by
  intro sz
  refine Met.ofW (cc := cX7_closed) (maxL := 4) (ret := (some .int)) (by decide) rfl ?_
  intro p e s m args below meth c s₁ Bd hml hv0
  obtain ⟨rfl, hsz, hP, hK⟩ := hv0
  have hx := Bd.exec
  have hb := Bd.bytes
  have hr := Bd.returns
  have hts := atoms_spec (ws := wsX7_closed) Bd.pre
  have hown : s.vm.findClass RX7 = some m.cls := findClass_of_methodNamed Bd.named
  have hlocks := Bd.notSynchronized
  have hi7 : ∀ w ∈ u_ws RX7 TX7 79, w ∈ wsX7_closed := fun w h => List.mem_cons_of_mem _ (List.mem_append_right _ h)
  subst hsz
  have hap := vF_ap hap0 s.heap.size
  have hS : va_S (vF ad s.heap.size) s.heap s.heap [] := va_S.rf
  have hP : va_P D vwCl (VW K ad I G A L) s.heap := hP
  have hl := lv_entry ([.ref (ad 318), .int a1, .int a2, .int a3]) (n := 4) (Nat.le_of_ble_eq_true rfl)
  rw [lg_entry_eq]
  generalize (lg_sl ([.ref (ad 318), .int a1, .int a2, .int a3]) ++ List.replicate (4 - (lg_sl ([.ref (ad 318), .int a1, .int a2, .int a3])).length) Slot.unset).toArray = ls at hl ⊢
  have hl : lv_has ls 4 [(0, .ref (ad 318)), (1, .int a1), (2, .int a2), (3, .int a3)] := hl
  rw [f_X7_closed] at h
  refine lv_aload_n hx hb dX7_closed_0 rfl (lv_at hl 0 rfl) ?_
  refine lv_iconst (v := 0) hx hb dX7_closed_1 (by decide) ?_
  refine vpI (v := 0) (ty := .int) hx hb hts hi7 tyX7 tyX7_ok nmX7 hown hK hP hap hS (318) (by decide) (show kd 318 = 7 by decide) (C := RX7) (T := TX7) (N := 79) rfl 0 (by decide) (by decide) (by decide) (by decide) (hts (.fieldLink RX7 201 "CrateHelpersModel" "thrown" "I") (by decide +kernel)) (fun _ h9 => h9) rfl (by decide +kernel) rfl rfl dX7_closed_2 (fun H locs hP hS => ?_)
  obtain ⟨I1, eI1, h⟩ := bd_e h
  rw [← eI1] at hP
  have hP : va_P D vwCl (VW K ad I1 G A L) H := hP
  refine lv_iload_n hx hb dX7_closed_5 rfl (lv_at hl 3 rfl) ?_
  refine lv_iconst (v := 0) hx hb dX7_closed_6 (by decide) ?_
  refine lv_iconst (v := 1) hx hb dX7_closed_7 (by decide) ?_
  obtain ⟨r2, hc3, h⟩ := Option.bind_eq_some_iff.mp h
  refine ecS (As := [.int a3, .int 0, .int 1]) (rest := []) ⟨hx, hb, hml, hown, hts⟩ (e_X7_in l D K ad hap0 a3 0 1 I1 G A L r2 hc3) (va_cwS 3 hts gX7_closed_X7_in rfl rfl rfl (by decide +kernel) ⟨Nat.le_of_ble_eq_true rfl, Nat.le_of_ble_eq_true rfl⟩) hK hP hS rfl hl.1 (Nat.le_of_ble_eq_true rfl) (Nat.le_of_ble_eq_true rfl) (Nat.le_of_ble_eq_true rfl) dX7_closed_8 (fun H locs hP hS => ?_) rfl
  have hP : va_P D vwCl (VW K ad I1 G A L) H := hP
  refine lv_if_ne (tgt := 16) hx hb dX7_closed_11 (by decide) (fun c_4 => ?_) (fun c_4 => ?_)
  · have h := iN c_4 h
    refine lv_iload_n hx hb dX7_closed_16 rfl (lv_at hl 1 rfl) ?_
    refine lv_iconst (v := 0) hx hb dX7_closed_17 (by decide) ?_
    refine lv_aload_n hx hb dX7_closed_18 rfl (lv_at hl 0 rfl) ?_
    refine vgI hx hb hts hi7 hown hK hP (318) (by decide) (show kd 318 = 7 by decide) (C := RX7) (T := TX7) (N := 79) rfl 48 (by decide) (by decide) (by decide) (by decide) (hts (.fieldLink RX7 313 "CrateHelpersModel" "walked" "I") (by decide +kernel)) (fun _ h9 => h9) dX7_closed_19 ?_
    refine lv_iconst (v := 1) hx hb dX7_closed_22 (by decide) ?_
    refine lv_isub hx hb dX7_closed_23 ?_
    obtain ⟨r5, hc6, h⟩ := Option.bind_eq_some_iff.mp h
    refine ecS (As := [.int a1, .int 0, .int ((I1 318 48) - 1)]) (rest := []) ⟨hx, hb, hml, hown, hts⟩ (e_X7_in l D K ad hap0 a1 0 ((I1 318 48) - 1) I1 G A L r5 hc6) (va_cwS 3 hts gX7_closed_X7_in rfl rfl rfl (by decide +kernel) ⟨Nat.le_of_ble_eq_true rfl, Nat.le_of_ble_eq_true rfl⟩) hK hP hS rfl hl.1 (Nat.le_of_ble_eq_true rfl) (Nat.le_of_ble_eq_true rfl) (Nat.le_of_ble_eq_true rfl) dX7_closed_24 (fun H locs hP hS => ?_) rfl
    have hP : va_P D vwCl (VW K ad I1 G A L) H := hP
    refine lv_if_eq (tgt := 46) hx hb dX7_closed_27 (by decide) (fun c_7 => ?_) (fun c_7 => ?_)
    · have h := ip c_7 h
      refine lv_bipush (v := (-9)) hx hb dX7_closed_46 (by decide) ?_
      exact W.iret (v := (-9)) hx hb hr (fun t9 ht9 hW9 => ⟨⟨(-9), (I1, G, A, L), rfl, by cases h; exact ⟨rfl, rfl⟩, by rw [ht9]; exact hP, va_K.moved hW9.alike hK⟩, hS.F ht9⟩) hS.2.2 dX7_closed_48
    · have h := iN c_7 h
      refine lv_iload_n hx hb dX7_closed_30 rfl (lv_at hl 2 rfl) ?_
      refine lv_iconst (v := 0) hx hb dX7_closed_31 (by decide) ?_
      refine lv_aload_n hx hb dX7_closed_32 rfl (lv_at hl 0 rfl) ?_
      refine vgC hx hb hts hi7 hown hK hP (318) (by decide) (show kd 318 = 7 by decide) (C := RX7) (T := TX7) (N := 79) rfl 54 (by decide) (by decide) (by decide) (by decide) (359) rfl (hts (.fieldLink RX7 138 "CrateHelpersModel" "walkedValues" "[I") (by decide +kernel)) (fun _ h9 => h9) dX7_closed_33 ?_
      refine lv_iload_n hx hb dX7_closed_36 rfl (lv_at hl 1 rfl) ?_
      obtain ⟨hn8, h⟩ := gk h
      refine xiald hx hb hK hP (359) (by decide) (show kd 359 = 8 by decide) (by rw [show ln 359 = 250 by decide]; exact hn8) dX7_closed_37 ?_
      refine lv_iconst (v := 1) hx hb dX7_closed_38 (by decide) ?_
      refine lv_isub hx hb dX7_closed_39 ?_
      obtain ⟨r9, hc10, h⟩ := Option.bind_eq_some_iff.mp h
      refine ecS (As := [.int a2, .int 0, .int ((A 359 a1.toNatClampNeg) - 1)]) (rest := []) ⟨hx, hb, hml, hown, hts⟩ (e_X7_in l D K ad hap0 a2 0 ((A 359 a1.toNatClampNeg) - 1) I1 G A L r9 hc10) (va_cwS 3 hts gX7_closed_X7_in rfl rfl rfl (by decide +kernel) ⟨Nat.le_of_ble_eq_true rfl, Nat.le_of_ble_eq_true rfl⟩) hK hP hS rfl hl.1 (Nat.le_of_ble_eq_true rfl) (Nat.le_of_ble_eq_true rfl) (Nat.le_of_ble_eq_true rfl) dX7_closed_40 (fun H locs hP hS => ?_) rfl
      have hP : va_P D vwCl (VW K ad I1 G A L) H := hP
      refine lv_if_ne (tgt := 49) hx hb dX7_closed_43 (by decide) (fun c_11 => ?_) (fun c_11 => ?_)
      · have h := iN c_11 h
        refine lv_iload_n hx hb dX7_closed_49 rfl (lv_at hl 3 rfl) ?_
        refine lv_if_ne (tgt := 67) hx hb dX7_closed_50 (by decide) (fun c_12 => ?_) (fun c_12 => ?_)
        · have h := iN c_12 h
          refine lv_aload_n hx hb dX7_closed_67 rfl (lv_at hl 0 rfl) ?_
          refine vgC hx hb hts hi7 hown hK hP (318) (by decide) (show kd 318 = 7 by decide) (C := RX7) (T := TX7) (N := 79) rfl 56 (by decide) (by decide) (by decide) (by decide) (361) rfl (hts (.fieldLink RX7 144 "CrateHelpersModel" "walkedReason" "[I") (by decide +kernel)) (fun _ h9 => h9) dX7_closed_68 ?_
          refine lv_bipush (v := 6) hx hb dX7_closed_71 (by decide) ?_
          refine lv_iload_n hx hb dX7_closed_73 rfl (lv_at hl 1 rfl) ?_
          refine lv_imul hx hb dX7_closed_74 ?_
          refine lv_iload_n hx hb dX7_closed_75 rfl (lv_at hl 2 rfl) ?_
          refine lv_iadd hx hb dX7_closed_76 ?_
          obtain ⟨hn13, h⟩ := gk h
          refine xiald hx hb hK hP (361) (by decide) (show kd 361 = 8 by decide) (by rw [show ln 361 = 1500 by decide]; exact hn13) dX7_closed_77 ?_
          exact W.iret (v := (A 361 (((6 * a1) + a2).toNatClampNeg))) hx hb hr (fun t9 ht9 hW9 => ⟨⟨(A 361 (((6 * a1) + a2).toNatClampNeg)), (I1, G, A, L), rfl, by cases h; exact ⟨rfl, rfl⟩, by rw [ht9]; exact hP, va_K.moved hW9.alike hK⟩, hS.F ht9⟩) hS.2.2 dX7_closed_78
        · have h := ip c_12 h
          refine lv_aload_n hx hb dX7_closed_53 rfl (lv_at hl 0 rfl) ?_
          refine vgC hx hb hts hi7 hown hK hP (318) (by decide) (show kd 318 = 7 by decide) (C := RX7) (T := TX7) (N := 79) rfl 55 (by decide) (by decide) (by decide) (by decide) (360) rfl (hts (.fieldLink RX7 141 "CrateHelpersModel" "walkedClosing" "[I") (by decide +kernel)) (fun _ h9 => h9) dX7_closed_54 ?_
          refine lv_bipush (v := 6) hx hb dX7_closed_57 (by decide) ?_
          refine lv_iload_n hx hb dX7_closed_59 rfl (lv_at hl 1 rfl) ?_
          refine lv_imul hx hb dX7_closed_60 ?_
          refine lv_iload_n hx hb dX7_closed_61 rfl (lv_at hl 2 rfl) ?_
          refine lv_iadd hx hb dX7_closed_62 ?_
          obtain ⟨hn14, h⟩ := gk h
          refine xiald hx hb hK hP (360) (by decide) (show kd 360 = 8 by decide) (by rw [show ln 360 = 1500 by decide]; exact hn14) dX7_closed_63 ?_
          refine lv_goto (tgt := 78) hx hb dX7_closed_64 (by decide) ?_
          exact W.iret (v := (A 360 (((6 * a1) + a2).toNatClampNeg))) hx hb hr (fun t9 ht9 hW9 => ⟨⟨(A 360 (((6 * a1) + a2).toNatClampNeg)), (I1, G, A, L), rfl, by cases h; exact ⟨rfl, rfl⟩, by rw [ht9]; exact hP, va_K.moved hW9.alike hK⟩, hS.F ht9⟩) hS.2.2 dX7_closed_78
      · have h := ip c_11 h
        refine lv_bipush (v := (-9)) hx hb dX7_closed_46 (by decide) ?_
        exact W.iret (v := (-9)) hx hb hr (fun t9 ht9 hW9 => ⟨⟨(-9), (I1, G, A, L), rfl, by cases h; exact ⟨rfl, rfl⟩, by rw [ht9]; exact hP, va_K.moved hW9.alike hK⟩, hS.F ht9⟩) hS.2.2 dX7_closed_48
  · have h := ip c_4 h
    refine lv_iconst (v := (-1)) hx hb dX7_closed_14 (by decide) ?_
    exact W.iret (v := (-1)) hx hb hr (fun t9 ht9 hW9 => ⟨⟨(-1), (I1, G, A, L), rfl, by cases h; exact ⟨rfl, rfl⟩, by rw [ht9]; exact hP, va_K.moved hW9.alike hK⟩, hS.F ht9⟩) hS.2.2 dX7_closed_15
set_option maxHeartbeats 4000000 in
set_option maxRecDepth 100000 in
theorem e_X7_isValue (l : Launch) (D : va_G) (K : Nat → ClassId) (ad : Nat → Nat) (hap0 : apart ad (fun _ => True)) (a1 : Int32) (a2 : Int32) (a3 : Int32) (I : Nat → Nat → Int32) (G : Nat → Nat → Nat) (A : Nat → Nat → Int32) (L : Nat → Nat → Int64) (r0 : Int32) (h : f_X7_isValue I A a1 a2 a3 = some r0) : Ci l D K ad yX7_isValue wsX7_isValue 2 49 [.ref (ad 318), .int a1, .int a2, .int a3] (I, G, A, L) (fun (r : Int32) (u : Mem) => r = r0 ∧ u = (I, G, A, L)) := by
  intro sz
  refine Met.ofW (cc := cX7_isValue) (maxL := 4) (ret := (some .boolean)) (by decide) rfl ?_
  intro p e s m args below meth c s₁ Bd hml hv0
  obtain ⟨rfl, hsz, hP, hK⟩ := hv0
  have hx := Bd.exec
  have hb := Bd.bytes
  have hr := Bd.returns
  have hts := atoms_spec (ws := wsX7_isValue) Bd.pre
  have hown : s.vm.findClass RX7 = some m.cls := findClass_of_methodNamed Bd.named
  have hlocks := Bd.notSynchronized
  have hi7 : ∀ w ∈ u_ws RX7 TX7 79, w ∈ wsX7_isValue := fun w h => List.mem_cons_of_mem _ (List.mem_append_right _ h)
  subst hsz
  have hap := vF_ap hap0 s.heap.size
  have hS : va_S (vF ad s.heap.size) s.heap s.heap [] := va_S.rf
  have hP : va_P D vwCl (VW K ad I G A L) s.heap := hP
  have hl := lv_entry ([.ref (ad 318), .int a1, .int a2, .int a3]) (n := 4) (Nat.le_of_ble_eq_true rfl)
  rw [lg_entry_eq]
  generalize (lg_sl ([.ref (ad 318), .int a1, .int a2, .int a3]) ++ List.replicate (4 - (lg_sl ([.ref (ad 318), .int a1, .int a2, .int a3])).length) Slot.unset).toArray = ls at hl ⊢
  have hl : lv_has ls 4 [(0, .ref (ad 318)), (1, .int a1), (2, .int a2), (3, .int a3)] := hl
  rw [f_X7_isValue] at h
  refine lv_aload_n hx hb dX7_isValue_0 rfl (lv_at hl 0 rfl) ?_
  refine lv_iload_n hx hb dX7_isValue_1 rfl (lv_at hl 1 rfl) ?_
  obtain ⟨r1, hc2, h⟩ := Option.bind_eq_some_iff.mp h
  refine ecV (As := [.int a1]) (rest := []) ⟨hx, hb, hml, hown, hts⟩ (e_X7_isProblem l D K ad hap0 a1 I G A L r1 hc2) (cwV 1 hts gX7_isValue_X7_isProblem rfl rfl rfl (by decide +kernel) ⟨Nat.le_of_ble_eq_true rfl, Nat.le_of_ble_eq_true rfl⟩) hK hP hS (by decide) (show kd 318 = 7 by decide) (by decide) rfl rfl rfl hl.1 (Nat.le_of_ble_eq_true rfl) (Nat.le_of_ble_eq_true rfl) (Nat.le_of_ble_eq_true rfl) dX7_isValue_2 (fun H locs hP hS => ?_) rfl
  have hP : va_P D vwCl (VW K ad I G A L) H := hP
  refine lv_if_eq (tgt := 49) hx hb dX7_isValue_5 (by decide) (fun c_3 => ?_) (fun c_3 => ?_)
  · have h := ip c_3 h
    refine lv_iconst (v := 0) hx hb dX7_isValue_49 (by decide) ?_
    exact W.zret (v := 0) hx hb hr (by decide) (fun t9 ht9 hW9 => ⟨⟨0, (I, G, A, L), rfl, by cases h; exact ⟨rfl, rfl⟩, by rw [ht9]; exact hP, va_K.moved hW9.alike hK⟩, hS.F ht9⟩) hS.2.2 dX7_isValue_50
  · have h := iN c_3 h
    refine lv_iload_n hx hb dX7_isValue_8 rfl (lv_at hl 2 rfl) ?_
    refine lv_iconst (v := 0) hx hb dX7_isValue_9 (by decide) ?_
    refine lv_aload_n hx hb dX7_isValue_10 rfl (lv_at hl 0 rfl) ?_
    refine vgC hx hb hts hi7 hown hK hP (318) (by decide) (show kd 318 = 7 by decide) (C := RX7) (T := TX7) (N := 79) rfl 3 (by decide) (by decide) (by decide) (by decide) (319) rfl (hts (.fieldLink RX7 7 "CrateHelpersModel" "variables" "[I") (by decide +kernel)) (fun _ h9 => h9) dX7_isValue_11 ?_
    refine lv_iload_n hx hb dX7_isValue_14 rfl (lv_at hl 1 rfl) ?_
    obtain ⟨hn4, h⟩ := gk h
    refine xiald hx hb hK hP (319) (by decide) (show kd 319 = 8 by decide) (by rw [show ln 319 = 5 by decide]; exact hn4) dX7_isValue_15 ?_
    refine lv_iconst (v := 1) hx hb dX7_isValue_16 (by decide) ?_
    refine lv_isub hx hb dX7_isValue_17 ?_
    obtain ⟨r5, hc6, h⟩ := Option.bind_eq_some_iff.mp h
    refine ecS (As := [.int a2, .int 0, .int ((A 319 a1.toNatClampNeg) - 1)]) (rest := []) ⟨hx, hb, hml, hown, hts⟩ (e_X7_in l D K ad hap0 a2 0 ((A 319 a1.toNatClampNeg) - 1) I G A L r5 hc6) (va_cwS 3 hts gX7_isValue_X7_in rfl rfl rfl (by decide +kernel) ⟨Nat.le_of_ble_eq_true rfl, Nat.le_of_ble_eq_true rfl⟩) hK hP hS rfl hl.1 (Nat.le_of_ble_eq_true rfl) (Nat.le_of_ble_eq_true rfl) (Nat.le_of_ble_eq_true rfl) dX7_isValue_18 (fun H locs hP hS => ?_) rfl
    have hP : va_P D vwCl (VW K ad I G A L) H := hP
    refine lv_if_eq (tgt := 49) hx hb dX7_isValue_21 (by decide) (fun c_7 => ?_) (fun c_7 => ?_)
    · have h := ip c_7 h
      refine lv_iconst (v := 0) hx hb dX7_isValue_49 (by decide) ?_
      exact W.zret (v := 0) hx hb hr (by decide) (fun t9 ht9 hW9 => ⟨⟨0, (I, G, A, L), rfl, by cases h; exact ⟨rfl, rfl⟩, by rw [ht9]; exact hP, va_K.moved hW9.alike hK⟩, hS.F ht9⟩) hS.2.2 dX7_isValue_50
    · have h := iN c_7 h
      refine lv_iload_n hx hb dX7_isValue_24 rfl (lv_at hl 3 rfl) ?_
      refine lv_iconst (v := 0) hx hb dX7_isValue_25 (by decide) ?_
      refine lv_aload_n hx hb dX7_isValue_26 rfl (lv_at hl 0 rfl) ?_
      refine vgC hx hb hts hi7 hown hK hP (318) (by decide) (show kd 318 = 7 by decide) (C := RX7) (T := TX7) (N := 79) rfl 5 (by decide) (by decide) (by decide) (by decide) (321) rfl (hts (.fieldLink RX7 16 "CrateHelpersModel" "values" "[I") (by decide +kernel)) (fun _ h9 => h9) dX7_isValue_27 ?_
      refine lv_bipush (v := 6) hx hb dX7_isValue_30 (by decide) ?_
      refine lv_iload_n hx hb dX7_isValue_32 rfl (lv_at hl 1 rfl) ?_
      refine lv_imul hx hb dX7_isValue_33 ?_
      refine lv_iload_n hx hb dX7_isValue_34 rfl (lv_at hl 2 rfl) ?_
      refine lv_iadd hx hb dX7_isValue_35 ?_
      obtain ⟨hn8, h⟩ := gk h
      refine xiald hx hb hK hP (321) (by decide) (show kd 321 = 8 by decide) (by rw [show ln 321 = 30 by decide]; exact hn8) dX7_isValue_36 ?_
      refine lv_iconst (v := 1) hx hb dX7_isValue_37 (by decide) ?_
      refine lv_isub hx hb dX7_isValue_38 ?_
      obtain ⟨r9, hc10, h⟩ := Option.bind_eq_some_iff.mp h
      refine ecS (As := [.int a3, .int 0, .int ((A 321 (((6 * a1) + a2).toNatClampNeg)) - 1)]) (rest := []) ⟨hx, hb, hml, hown, hts⟩ (e_X7_in l D K ad hap0 a3 0 ((A 321 (((6 * a1) + a2).toNatClampNeg)) - 1) I G A L r9 hc10) (va_cwS 3 hts gX7_isValue_X7_in rfl rfl rfl (by decide +kernel) ⟨Nat.le_of_ble_eq_true rfl, Nat.le_of_ble_eq_true rfl⟩) hK hP hS rfl hl.1 (Nat.le_of_ble_eq_true rfl) (Nat.le_of_ble_eq_true rfl) (Nat.le_of_ble_eq_true rfl) dX7_isValue_39 (fun H locs hP hS => ?_) rfl
      have hP : va_P D vwCl (VW K ad I G A L) H := hP
      refine lv_if_eq (tgt := 49) hx hb dX7_isValue_42 (by decide) (fun c_11 => ?_) (fun c_11 => ?_)
      · have h := ip c_11 h
        refine lv_iconst (v := 0) hx hb dX7_isValue_49 (by decide) ?_
        exact W.zret (v := 0) hx hb hr (by decide) (fun t9 ht9 hW9 => ⟨⟨0, (I, G, A, L), rfl, by cases h; exact ⟨rfl, rfl⟩, by rw [ht9]; exact hP, va_K.moved hW9.alike hK⟩, hS.F ht9⟩) hS.2.2 dX7_isValue_50
      · have h := iN c_11 h
        refine lv_iconst (v := 1) hx hb dX7_isValue_45 (by decide) ?_
        refine lv_goto (tgt := 50) hx hb dX7_isValue_46 (by decide) ?_
        exact W.zret (v := 1) hx hb hr (by decide) (fun t9 ht9 hW9 => ⟨⟨1, (I, G, A, L), rfl, by cases h; exact ⟨rfl, rfl⟩, by rw [ht9]; exact hP, va_K.moved hW9.alike hK⟩, hS.F ht9⟩) hS.2.2 dX7_isValue_50
set_option maxHeartbeats 4000000 in
set_option maxRecDepth 100000 in
theorem e_X7_cost (l : Launch) (D : va_G) (K : Nat → ClassId) (ad : Nat → Nat) (hap0 : apart ad (fun _ => True)) (a1 : Int32) (a2 : Int32) (a3 : Int32) (a4 : Int32) (I : Nat → Nat → Int32) (G : Nat → Nat → Nat) (A : Nat → Nat → Int32) (L : Nat → Nat → Int64) (r0 : Int32) (I0 : Nat → Nat → Int32) (A0 : Nat → Nat → Int32) (h : f_X7_cost I A a1 a2 a3 a4 = some (r0, I0, A0)) : Ci l D K ad yX7_cost wsX7_cost 3 75 [.ref (ad 318), .int a1, .int a2, .int a3, .int a4] (I, G, A, L) (fun (r : Int32) (u : Mem) => r = r0 ∧ u = (I0, G, A0, L)) := by
  intro sz
  refine Met.ofW (cc := cX7_cost) (maxL := 7) (ret := (some .int)) (by decide) rfl ?_
  intro p e s m args below meth c s₁ Bd hml hv0
  obtain ⟨rfl, hsz, hP, hK⟩ := hv0
  have hx := Bd.exec
  have hb := Bd.bytes
  have hr := Bd.returns
  have hts := atoms_spec (ws := wsX7_cost) Bd.pre
  have hown : s.vm.findClass RX7 = some m.cls := findClass_of_methodNamed Bd.named
  have hlocks := Bd.notSynchronized
  have hi7 : ∀ w ∈ u_ws RX7 TX7 79, w ∈ wsX7_cost := fun w h => List.mem_cons_of_mem _ (List.mem_append_right _ h)
  subst hsz
  have hap := vF_ap hap0 s.heap.size
  have hS : va_S (vF ad s.heap.size) s.heap s.heap [] := va_S.rf
  have hP : va_P D vwCl (VW K ad I G A L) s.heap := hP
  have hl := lv_entry ([.ref (ad 318), .int a1, .int a2, .int a3, .int a4]) (n := 7) (Nat.le_of_ble_eq_true rfl)
  rw [lg_entry_eq]
  generalize (lg_sl ([.ref (ad 318), .int a1, .int a2, .int a3, .int a4]) ++ List.replicate (7 - (lg_sl ([.ref (ad 318), .int a1, .int a2, .int a3, .int a4])).length) Slot.unset).toArray = ls at hl ⊢
  have hl : lv_has ls 7 [(0, .ref (ad 318)), (1, .int a1), (2, .int a2), (3, .int a3), (4, .int a4)] := hl
  rw [f_X7_cost] at h
  refine lv_aload_n hx hb dX7_cost_0 rfl (lv_at hl 0 rfl) ?_
  refine lv_iconst (v := 0) hx hb dX7_cost_1 (by decide) ?_
  refine vpI (v := 0) (ty := .int) hx hb hts hi7 tyX7 tyX7_ok nmX7 hown hK hP hap hS (318) (by decide) (show kd 318 = 7 by decide) (C := RX7) (T := TX7) (N := 79) rfl 0 (by decide) (by decide) (by decide) (by decide) (hts (.fieldLink RX7 201 "CrateHelpersModel" "thrown" "I") (by decide +kernel)) (fun _ h9 => h9) rfl (by decide +kernel) rfl rfl dX7_cost_2 (fun H locs hP hS => ?_)
  obtain ⟨I1, eI1, h⟩ := bd_e h
  rw [← eI1] at hP
  have hP : va_P D vwCl (VW K ad I1 G A L) H := hP
  refine lv_aload_n hx hb dX7_cost_5 rfl (lv_at hl 0 rfl) ?_
  refine lv_iconst (v := 0) hx hb dX7_cost_6 (by decide) ?_
  refine vpI (v := 0) (ty := .int) hx hb hts hi7 tyX7 tyX7_ok nmX7 hown hK hP hap hS (318) (by decide) (show kd 318 = 7 by decide) (C := RX7) (T := TX7) (N := 79) rfl 1 (by decide) (by decide) (by decide) (by decide) (hts (.fieldLink RX7 221 "CrateHelpersModel" "status" "I") (by decide +kernel)) (fun _ h9 => h9) rfl (by decide +kernel) rfl rfl dX7_cost_7 (fun H locs hP hS => ?_)
  obtain ⟨I2, eI2, h⟩ := bd_e h
  rw [← eI2] at hP
  have hP : va_P D vwCl (VW K ad I2 G A L) H := hP
  refine lv_aload_n hx hb dX7_cost_10 rfl (lv_at hl 0 rfl) ?_
  refine lv_iload_n hx hb dX7_cost_11 rfl (lv_at hl 1 rfl) ?_
  refine lv_iload_n hx hb dX7_cost_12 rfl (lv_at hl 2 rfl) ?_
  refine lv_iload_n hx hb dX7_cost_13 rfl (lv_at hl 3 rfl) ?_
  obtain ⟨r3, hc4, h⟩ := Option.bind_eq_some_iff.mp h
  refine ecV (As := [.int a1, .int a2, .int a3]) (rest := []) ⟨hx, hb, hml, hown, hts⟩ (e_X7_isValue l D K ad hap0 a1 a2 a3 I2 G A L r3 hc4) (cwV 3 hts gX7_cost_X7_isValue rfl rfl rfl (by decide +kernel) ⟨Nat.le_of_ble_eq_true rfl, Nat.le_of_ble_eq_true rfl⟩) hK hP hS (by decide) (show kd 318 = 7 by decide) (by decide) rfl rfl rfl hl.1 (Nat.le_of_ble_eq_true rfl) (Nat.le_of_ble_eq_true rfl) (Nat.le_of_ble_eq_true rfl) dX7_cost_14 (fun H locs hP hS => ?_) rfl
  have hP : va_P D vwCl (VW K ad I2 G A L) H := hP
  refine lv_if_eq (tgt := 32) hx hb dX7_cost_17 (by decide) (fun c_5 => ?_) (fun c_5 => ?_)
  · have h := ip c_5 h
    refine lv_aload_n hx hb dX7_cost_32 rfl (lv_at hl 0 rfl) ?_
    refine lv_iconst (v := (-1)) hx hb dX7_cost_33 (by decide) ?_
    obtain ⟨⟨r6, I7⟩, hc8, h⟩ := Option.bind_eq_some_iff.mp h
    refine ecV (As := [.int (-1)]) (rest := []) ⟨hx, hb, hml, hown, hts⟩ (e_X7_no l D K ad hap0 (-1) I2 G A L r6 I7 hc8) (cwV 1 hts gX7_cost_X7_no rfl rfl rfl (by decide +kernel) ⟨Nat.le_of_ble_eq_true rfl, Nat.le_of_ble_eq_true rfl⟩) hK hP hS (by decide) (show kd 318 = 7 by decide) (by decide) rfl rfl rfl hl.1 (Nat.le_of_ble_eq_true rfl) (Nat.le_of_ble_eq_true rfl) (Nat.le_of_ble_eq_true rfl) dX7_cost_34 (fun H locs hP hS => ?_) rfl
    have hP : va_P D vwCl (VW K ad I7 G A L) H := hP
    exact W.iret (v := r6) hx hb hr (fun t9 ht9 hW9 => ⟨⟨r6, (I7, G, A, L), rfl, by cases h; exact ⟨rfl, rfl⟩, by rw [ht9]; exact hP, va_K.moved hW9.alike hK⟩, hS.F ht9⟩) hS.2.2 dX7_cost_37
  · have h := iN c_5 h
    refine lv_iload hx hb dX7_cost_20 (lv_at hl 4 rfl) ?_
    refine lv_ldc (v := (-100000)) hx hb hown (hts (.constant RX7 228 (-100000)) (by decide +kernel)) dX7_cost_22 ?_
    refine lv_ldc (v := 100000) hx hb hown (hts (.constant RX7 229 100000) (by decide +kernel)) dX7_cost_24 ?_
    obtain ⟨r9, hc10, h⟩ := Option.bind_eq_some_iff.mp h
    refine ecS (As := [.int a4, .int (-100000), .int 100000]) (rest := []) ⟨hx, hb, hml, hown, hts⟩ (e_X7_in l D K ad hap0 a4 (-100000) 100000 I2 G A L r9 hc10) (va_cwS 3 hts gX7_cost_X7_in rfl rfl rfl (by decide +kernel) ⟨Nat.le_of_ble_eq_true rfl, Nat.le_of_ble_eq_true rfl⟩) hK hP hS rfl hl.1 (Nat.le_of_ble_eq_true rfl) (Nat.le_of_ble_eq_true rfl) (Nat.le_of_ble_eq_true rfl) dX7_cost_26 (fun H locs hP hS => ?_) rfl
    have hP : va_P D vwCl (VW K ad I2 G A L) H := hP
    refine lv_if_ne (tgt := 38) hx hb dX7_cost_29 (by decide) (fun c_11 => ?_) (fun c_11 => ?_)
    · have h := iN c_11 h
      refine lv_aload_n hx hb dX7_cost_38 rfl (lv_at hl 0 rfl) ?_
      refine vgI hx hb hts hi7 hown hK hP (318) (by decide) (show kd 318 = 7 by decide) (C := RX7) (T := TX7) (N := 79) rfl 23 (by decide) (by decide) (by decide) (by decide) (hts (.fieldLink RX7 62 "CrateHelpersModel" "under" "I") (by decide +kernel)) (fun _ h9 => h9) dX7_cost_39 ?_
      refine lv_bipush (v := (-9)) hx hb dX7_cost_42 (by decide) ?_
      refine lv_icmp_eq (tgt := 54) hx hb dX7_cost_44 (by decide) (fun c_12 => ?_) (fun c_12 => ?_)
      · have h := ip c_12 h
        refine lv_aload_n hx hb dX7_cost_54 rfl (lv_at hl 0 rfl) ?_
        refine vgC hx hb hts hi7 hown hK hP (318) (by decide) (show kd 318 = 7 by decide) (C := RX7) (T := TX7) (N := 79) rfl 6 (by decide) (by decide) (by decide) (by decide) (322) rfl (hts (.fieldLink RX7 19 "CrateHelpersModel" "kinds" "[I") (by decide +kernel)) (fun _ h9 => h9) dX7_cost_55 ?_
        refine lv_bipush (v := 6) hx hb dX7_cost_58 (by decide) ?_
        refine lv_iload_n hx hb dX7_cost_60 rfl (lv_at hl 1 rfl) ?_
        refine lv_imul hx hb dX7_cost_61 ?_
        refine lv_iload_n hx hb dX7_cost_62 rfl (lv_at hl 2 rfl) ?_
        refine lv_iadd hx hb dX7_cost_63 ?_
        obtain ⟨hn13, h⟩ := gk h
        refine xiald hx hb hK hP (322) (by decide) (show kd 322 = 8 by decide) (by rw [show ln 322 = 30 by decide]; exact hn13) dX7_cost_64 ?_
        refine lv_istore (lv' := [(5, .int (A 322 (((6 * a1) + a2).toNatClampNeg))), (0, .ref (ad 318)), (1, .int a1), (2, .int a2), (3, .int a3), (4, .int a4)]) hx hb dX7_cost_65 hl (by decide) rfl (fun ls hl => ?_)
        refine lv_iload hx hb dX7_cost_67 (lv_at hl 0 rfl) ?_
        obtain ⟨j17, ej17, h⟩ := bd_e h
        have kj17 : ∀ (z16 : Int32), j17 z16 = some (r0, I0, A0) → ∀ (H : Heap) (locs : List Loc), va_P D vwCl (VW K ad I2 G A L) H → va_S (vF ad s.heap.size) s.heap H locs → ∀ (ls : Array Slot), lv_has ls 7 [(0, .ref (ad 318)), (1, .int a1), (2, .int a2), (3, .int a3)] → W p l e ({ frames := 3, cells := 0, slots := 0, locals := 75 }) s m ([.ref (ad 318), .int a1, .int a2, .int a3, .int a4] : List Value).toArray below meth c H locs 0 0 (MQ below (va_Qi (fun (r : Int32) (u : Mem) => r = r0 ∧ u = (I0, G, A0, L)) (vB D K ad) (vF ad s.heap.size)) ([.ref (ad 318), .int a1, .int a2, .int a3, .int a4] : List Value).toArray s 0 0 (vF ad s.heap.size)) (F0 m 106 ls [.int z16]) := by
          intro z16 h H locs hP hS ls hl
          subst ej17
          refine lv_istore (lv' := [(6, .int z16), (0, .ref (ad 318)), (1, .int a1), (2, .int a2), (3, .int a3)]) hx hb dX7_cost_106 hl (by decide) rfl (fun ls hl => ?_)
          refine lv_aload_n hx hb dX7_cost_108 rfl (lv_at hl 1 rfl) ?_
          refine vgC hx hb hts hi7 hown hK hP (318) (by decide) (show kd 318 = 7 by decide) (C := RX7) (T := TX7) (N := 79) rfl 7 (by decide) (by decide) (by decide) (by decide) (323) rfl (hts (.fieldLink RX7 22 "CrateHelpersModel" "costs" "[I") (by decide +kernel)) (fun _ h9 => h9) dX7_cost_109 ?_
          refine lv_bipush (v := 36) hx hb dX7_cost_112 (by decide) ?_
          refine lv_iload_n hx hb dX7_cost_114 rfl (lv_at hl 2 rfl) ?_
          refine lv_imul hx hb dX7_cost_115 ?_
          refine lv_bipush (v := 6) hx hb dX7_cost_116 (by decide) ?_
          refine lv_iload_n hx hb dX7_cost_118 rfl (lv_at hl 3 rfl) ?_
          refine lv_imul hx hb dX7_cost_119 ?_
          refine lv_iadd hx hb dX7_cost_120 ?_
          refine lv_iload_n hx hb dX7_cost_121 rfl (lv_at hl 4 rfl) ?_
          refine lv_iadd hx hb dX7_cost_122 ?_
          refine lv_iload hx hb dX7_cost_123 (lv_at hl 0 rfl) ?_
          obtain ⟨hn18, h⟩ := gk h
          refine xiast hx hb hK hP hap hS (323) (by decide) (show kd 323 = 8 by decide) (by rw [show ln 323 = 180 by decide]; exact hn18) dX7_cost_125 (fun H locs hP hS => ?_)
          obtain ⟨A19, eA19, h⟩ := bd_e h
          rw [← eA19] at hP
          have hP : va_P D vwCl (VW K ad I2 G A19 L) H := hP
          refine lv_aload_n hx hb dX7_cost_126 rfl (lv_at hl 1 rfl) ?_
          refine lv_iload_n hx hb dX7_cost_127 rfl (lv_at hl 2 rfl) ?_
          obtain ⟨⟨I20, A21⟩, hc22, h⟩ := Option.bind_eq_some_iff.mp h
          refine ecVv (As := [.int a1]) (rest := []) ⟨hx, hb, hml, hown, hts⟩ (e_X7_changes l D K ad hap0 a1 I2 G A19 L I20 A21 hc22) (cwV 1 hts gX7_cost_X7_changes rfl rfl rfl (by decide +kernel) ⟨Nat.le_of_ble_eq_true rfl, Nat.le_of_ble_eq_true rfl⟩) hK hP hS (by decide) (show kd 318 = 7 by decide) (by decide) rfl rfl rfl hl.1 (Nat.le_of_ble_eq_true rfl) (Nat.le_of_ble_eq_true rfl) (Nat.le_of_ble_eq_true rfl) dX7_cost_128 (fun H locs hP hS => ?_) rfl
          have hP : va_P D vwCl (VW K ad I20 G A21 L) H := hP
          refine lv_iload hx hb dX7_cost_131 (lv_at hl 0 rfl) ?_
          exact W.iret (v := z16) hx hb hr (fun t9 ht9 hW9 => ⟨⟨z16, (I20, G, A21, L), rfl, by cases h; exact ⟨rfl, rfl⟩, by rw [ht9]; exact hP, va_K.moved hW9.alike hK⟩, hS.F ht9⟩) hS.2.2 dX7_cost_133
        refine lv_if_ne (tgt := 78) hx hb dX7_cost_69 (by decide) (fun c_23 => ?_) (fun c_23 => ?_)
        · have h := iN c_23 h
          refine lv_iload hx hb dX7_cost_78 (lv_at hl 0 rfl) ?_
          refine lv_iconst (v := 1) hx hb dX7_cost_80 (by decide) ?_
          refine lv_icmp_ne (tgt := 90) hx hb dX7_cost_81 (by decide) (fun c_24 => ?_) (fun c_24 => ?_)
          · have h := iN c_24 h
            refine lv_iload hx hb dX7_cost_90 (lv_at hl 0 rfl) ?_
            refine lv_iconst (v := 2) hx hb dX7_cost_92 (by decide) ?_
            refine lv_icmp_ne (tgt := 104) hx hb dX7_cost_93 (by decide) (fun c_25 => ?_) (fun c_25 => ?_)
            · have h := iN c_25 h
              refine lv_iload hx hb dX7_cost_104 (lv_at hl 5 rfl) ?_
              exact kj17 a4 h _ _ hP hS ls (lv_sub hl [1, 2, 3, 4] rfl)
            · have h := ip c_25 h
              refine lv_iload hx hb dX7_cost_96 (lv_at hl 5 rfl) ?_
              refine lv_ldc (v := 65535) hx hb hown (hts (.constant RX7 234 65535) (by decide +kernel)) dX7_cost_98 ?_
              refine lv_iand hx hb dX7_cost_100 ?_
              refine lv_goto (tgt := 106) hx hb dX7_cost_101 (by decide) ?_
              exact kj17 (a4 &&& 65535) h _ _ hP hS ls (lv_sub hl [1, 2, 3, 4] rfl)
          · have h := ip c_24 h
            refine lv_iload hx hb dX7_cost_84 (lv_at hl 5 rfl) ?_
            refine lv_i2s hx hb dX7_cost_86 rfl ?_
            refine lv_goto (tgt := 106) hx hb dX7_cost_87 (by decide) ?_
            exact kj17 a4.toInt16.toInt32 h _ _ hP hS ls (lv_sub hl [1, 2, 3, 4] rfl)
        · have h := ip c_23 h
          refine lv_iload hx hb dX7_cost_72 (lv_at hl 5 rfl) ?_
          refine lv_i2b hx hb dX7_cost_74 rfl ?_
          refine lv_goto (tgt := 106) hx hb dX7_cost_75 (by decide) ?_
          exact kj17 a4.toInt8.toInt32 h _ _ hP hS ls (lv_sub hl [1, 2, 3, 4] rfl)
      · have h := iN c_12 h
        refine lv_aload_n hx hb dX7_cost_47 rfl (lv_at hl 0 rfl) ?_
        refine lv_bipush (v := (-2)) hx hb dX7_cost_48 (by decide) ?_
        obtain ⟨⟨r26, I27⟩, hc28, h⟩ := Option.bind_eq_some_iff.mp h
        refine ecV (As := [.int (-2)]) (rest := []) ⟨hx, hb, hml, hown, hts⟩ (e_X7_no l D K ad hap0 (-2) I2 G A L r26 I27 hc28) (cwV 1 hts gX7_cost_X7_no rfl rfl rfl (by decide +kernel) ⟨Nat.le_of_ble_eq_true rfl, Nat.le_of_ble_eq_true rfl⟩) hK hP hS (by decide) (show kd 318 = 7 by decide) (by decide) rfl rfl rfl hl.1 (Nat.le_of_ble_eq_true rfl) (Nat.le_of_ble_eq_true rfl) (Nat.le_of_ble_eq_true rfl) dX7_cost_50 (fun H locs hP hS => ?_) rfl
        have hP : va_P D vwCl (VW K ad I27 G A L) H := hP
        exact W.iret (v := r26) hx hb hr (fun t9 ht9 hW9 => ⟨⟨r26, (I27, G, A, L), rfl, by cases h; exact ⟨rfl, rfl⟩, by rw [ht9]; exact hP, va_K.moved hW9.alike hK⟩, hS.F ht9⟩) hS.2.2 dX7_cost_53
    · have h := ip c_11 h
      refine lv_aload_n hx hb dX7_cost_32 rfl (lv_at hl 0 rfl) ?_
      refine lv_iconst (v := (-1)) hx hb dX7_cost_33 (by decide) ?_
      obtain ⟨⟨r29, I30⟩, hc31, h⟩ := Option.bind_eq_some_iff.mp h
      refine ecV (As := [.int (-1)]) (rest := []) ⟨hx, hb, hml, hown, hts⟩ (e_X7_no l D K ad hap0 (-1) I2 G A L r29 I30 hc31) (cwV 1 hts gX7_cost_X7_no rfl rfl rfl (by decide +kernel) ⟨Nat.le_of_ble_eq_true rfl, Nat.le_of_ble_eq_true rfl⟩) hK hP hS (by decide) (show kd 318 = 7 by decide) (by decide) rfl rfl rfl hl.1 (Nat.le_of_ble_eq_true rfl) (Nat.le_of_ble_eq_true rfl) (Nat.le_of_ble_eq_true rfl) dX7_cost_34 (fun H locs hP hS => ?_) rfl
      have hP : va_P D vwCl (VW K ad I30 G A L) H := hP
      exact W.iret (v := r29) hx hb hr (fun t9 ht9 hW9 => ⟨⟨r29, (I30, G, A, L), rfl, by cases h; exact ⟨rfl, rfl⟩, by rw [ht9]; exact hP, va_K.moved hW9.alike hK⟩, hS.F ht9⟩) hS.2.2 dX7_cost_37

/-! part 51.r04 -/
set_option maxHeartbeats 4000000 in
set_option maxRecDepth 100000 in
theorem e_X7_costs (l : Launch) (D : va_G) (K : Nat → ClassId) (ad : Nat → Nat) (hap0 : apart ad (fun _ => True)) (a1 : Int32) (a2 : Int32) (a3 : Int32) (I : Nat → Nat → Int32) (G : Nat → Nat → Nat) (A : Nat → Nat → Int32) (L : Nat → Nat → Int64) (r0 : Int32) (I0 : Nat → Nat → Int32) (h : f_X7_costs I A a1 a2 a3 = some (r0, I0)) : Ci l D K ad yX7_costs wsX7_costs 3 75 [.ref (ad 318), .int a1, .int a2, .int a3] (I, G, A, L) (fun (r : Int32) (u : Mem) => r = r0 ∧ u = (I0, G, A, L)) := by
  intro sz
  refine Met.ofW (cc := cX7_costs) (maxL := 4) (ret := (some .int)) (by decide) rfl ?_
  intro p e s m args below meth c s₁ Bd hml hv0
  obtain ⟨rfl, hsz, hP, hK⟩ := hv0
  have hx := Bd.exec
  have hb := Bd.bytes
  have hr := Bd.returns
  have hts := atoms_spec (ws := wsX7_costs) Bd.pre
  have hown : s.vm.findClass RX7 = some m.cls := findClass_of_methodNamed Bd.named
  have hlocks := Bd.notSynchronized
  have hi7 : ∀ w ∈ u_ws RX7 TX7 79, w ∈ wsX7_costs := fun w h => List.mem_cons_of_mem _ (List.mem_append_right _ h)
  subst hsz
  have hap := vF_ap hap0 s.heap.size
  have hS : va_S (vF ad s.heap.size) s.heap s.heap [] := va_S.rf
  have hP : va_P D vwCl (VW K ad I G A L) s.heap := hP
  have hl := lv_entry ([.ref (ad 318), .int a1, .int a2, .int a3]) (n := 4) (Nat.le_of_ble_eq_true rfl)
  rw [lg_entry_eq]
  generalize (lg_sl ([.ref (ad 318), .int a1, .int a2, .int a3]) ++ List.replicate (4 - (lg_sl ([.ref (ad 318), .int a1, .int a2, .int a3])).length) Slot.unset).toArray = ls at hl ⊢
  have hl : lv_has ls 4 [(0, .ref (ad 318)), (1, .int a1), (2, .int a2), (3, .int a3)] := hl
  rw [f_X7_costs] at h
  refine lv_aload_n hx hb dX7_costs_0 rfl (lv_at hl 0 rfl) ?_
  refine lv_iconst (v := 0) hx hb dX7_costs_1 (by decide) ?_
  refine vpI (v := 0) (ty := .int) hx hb hts hi7 tyX7 tyX7_ok nmX7 hown hK hP hap hS (318) (by decide) (show kd 318 = 7 by decide) (C := RX7) (T := TX7) (N := 79) rfl 0 (by decide) (by decide) (by decide) (by decide) (hts (.fieldLink RX7 201 "CrateHelpersModel" "thrown" "I") (by decide +kernel)) (fun _ h9 => h9) rfl (by decide +kernel) rfl rfl dX7_costs_2 (fun H locs hP hS => ?_)
  obtain ⟨I1, eI1, h⟩ := bd_e h
  rw [← eI1] at hP
  have hP : va_P D vwCl (VW K ad I1 G A L) H := hP
  refine lv_aload_n hx hb dX7_costs_5 rfl (lv_at hl 0 rfl) ?_
  refine lv_iconst (v := 0) hx hb dX7_costs_6 (by decide) ?_
  refine vpI (v := 0) (ty := .int) hx hb hts hi7 tyX7 tyX7_ok nmX7 hown hK hP hap hS (318) (by decide) (show kd 318 = 7 by decide) (C := RX7) (T := TX7) (N := 79) rfl 1 (by decide) (by decide) (by decide) (by decide) (hts (.fieldLink RX7 221 "CrateHelpersModel" "status" "I") (by decide +kernel)) (fun _ h9 => h9) rfl (by decide +kernel) rfl rfl dX7_costs_7 (fun H locs hP hS => ?_)
  obtain ⟨I2, eI2, h⟩ := bd_e h
  rw [← eI2] at hP
  have hP : va_P D vwCl (VW K ad I2 G A L) H := hP
  refine lv_aload_n hx hb dX7_costs_10 rfl (lv_at hl 0 rfl) ?_
  refine lv_iload_n hx hb dX7_costs_11 rfl (lv_at hl 1 rfl) ?_
  refine lv_iload_n hx hb dX7_costs_12 rfl (lv_at hl 2 rfl) ?_
  refine lv_iload_n hx hb dX7_costs_13 rfl (lv_at hl 3 rfl) ?_
  obtain ⟨r3, hc4, h⟩ := Option.bind_eq_some_iff.mp h
  refine ecV (As := [.int a1, .int a2, .int a3]) (rest := []) ⟨hx, hb, hml, hown, hts⟩ (e_X7_isValue l D K ad hap0 a1 a2 a3 I2 G A L r3 hc4) (cwV 3 hts gX7_costs_X7_isValue rfl rfl rfl (by decide +kernel) ⟨Nat.le_of_ble_eq_true rfl, Nat.le_of_ble_eq_true rfl⟩) hK hP hS (by decide) (show kd 318 = 7 by decide) (by decide) rfl rfl rfl hl.1 (Nat.le_of_ble_eq_true rfl) (Nat.le_of_ble_eq_true rfl) (Nat.le_of_ble_eq_true rfl) dX7_costs_14 (fun H locs hP hS => ?_) rfl
  have hP : va_P D vwCl (VW K ad I2 G A L) H := hP
  refine lv_if_eq (tgt := 30) hx hb dX7_costs_17 (by decide) (fun c_5 => ?_) (fun c_5 => ?_)
  · have h := ip c_5 h
    refine lv_aload_n hx hb dX7_costs_30 rfl (lv_at hl 0 rfl) ?_
    refine lv_iconst (v := (-1)) hx hb dX7_costs_31 (by decide) ?_
    obtain ⟨⟨r6, I7⟩, hc8, h⟩ := Option.bind_eq_some_iff.mp h
    refine ecV (As := [.int (-1)]) (rest := []) ⟨hx, hb, hml, hown, hts⟩ (e_X7_no l D K ad hap0 (-1) I2 G A L r6 I7 hc8) (cwV 1 hts gX7_costs_X7_no rfl rfl rfl (by decide +kernel) ⟨Nat.le_of_ble_eq_true rfl, Nat.le_of_ble_eq_true rfl⟩) hK hP hS (by decide) (show kd 318 = 7 by decide) (by decide) rfl rfl rfl hl.1 (Nat.le_of_ble_eq_true rfl) (Nat.le_of_ble_eq_true rfl) (Nat.le_of_ble_eq_true rfl) dX7_costs_32 (fun H locs hP hS => ?_) rfl
    have hP : va_P D vwCl (VW K ad I7 G A L) H := hP
    exact W.iret (v := r6) hx hb hr (fun t9 ht9 hW9 => ⟨⟨r6, (I7, G, A, L), rfl, by cases h; exact ⟨rfl, rfl⟩, by rw [ht9]; exact hP, va_K.moved hW9.alike hK⟩, hS.F ht9⟩) hS.2.2 dX7_costs_35
  · have h := iN c_5 h
    refine lv_aload_n hx hb dX7_costs_20 rfl (lv_at hl 0 rfl) ?_
    refine lv_iload_n hx hb dX7_costs_21 rfl (lv_at hl 1 rfl) ?_
    refine lv_iload_n hx hb dX7_costs_22 rfl (lv_at hl 2 rfl) ?_
    refine lv_iload_n hx hb dX7_costs_23 rfl (lv_at hl 3 rfl) ?_
    obtain ⟨r9, hc10, h⟩ := Option.bind_eq_some_iff.mp h
    refine ecV (As := [.int a1, .int a2, .int a3]) (rest := []) ⟨hx, hb, hml, hown, hts⟩ (e_X7_costAt l D K ad hap0 a1 a2 a3 I2 G A L r9 hc10) (cwV 3 hts gX7_costs_X7_costAt rfl rfl rfl (by decide +kernel) ⟨Nat.le_of_ble_eq_true rfl, Nat.le_of_ble_eq_true rfl⟩) hK hP hS (by decide) (show kd 318 = 7 by decide) (by decide) rfl rfl rfl hl.1 (Nat.le_of_ble_eq_true rfl) (Nat.le_of_ble_eq_true rfl) (Nat.le_of_ble_eq_true rfl) dX7_costs_24 (fun H locs hP hS => ?_) rfl
    have hP : va_P D vwCl (VW K ad I2 G A L) H := hP
    refine lv_goto (tgt := 35) hx hb dX7_costs_27 (by decide) ?_
    exact W.iret (v := r9) hx hb hr (fun t9 ht9 hW9 => ⟨⟨r9, (I2, G, A, L), rfl, by cases h; exact ⟨rfl, rfl⟩, by rw [ht9]; exact hP, va_K.moved hW9.alike hK⟩, hS.F ht9⟩) hS.2.2 dX7_costs_35
set_option maxHeartbeats 4000000 in
set_option maxRecDepth 100000 in
theorem e_X7_count (l : Launch) (D : va_G) (K : Nat → ClassId) (ad : Nat → Nat) (hap0 : apart ad (fun _ => True)) (a1 : Int32) (I : Nat → Nat → Int32) (G : Nat → Nat → Nat) (A : Nat → Nat → Int32) (L : Nat → Nat → Int64) (r0 : Int32) (I0 : Nat → Nat → Int32) (h : f_X7_count I a1 = some (r0, I0)) : Ci l D K ad yX7_count wsX7_count 0 0 [.ref (ad 318), .int a1] (I, G, A, L) (fun (r : Int32) (u : Mem) => r = r0 ∧ u = (I0, G, A, L)) := by
  intro sz
  refine Met.ofW (cc := cX7_count) (maxL := 2) (ret := (some .int)) (by decide) rfl ?_
  intro p e s m args below meth c s₁ Bd hml hv0
  obtain ⟨rfl, hsz, hP, hK⟩ := hv0
  have hx := Bd.exec
  have hb := Bd.bytes
  have hr := Bd.returns
  have hts := atoms_spec (ws := wsX7_count) Bd.pre
  have hown : s.vm.findClass RX7 = some m.cls := findClass_of_methodNamed Bd.named
  have hlocks := Bd.notSynchronized
  have hi7 : ∀ w ∈ u_ws RX7 TX7 79, w ∈ wsX7_count := fun w h => List.mem_cons_of_mem _ (List.mem_append_right _ h)
  subst hsz
  have hap := vF_ap hap0 s.heap.size
  have hS : va_S (vF ad s.heap.size) s.heap s.heap [] := va_S.rf
  have hP : va_P D vwCl (VW K ad I G A L) s.heap := hP
  have hl := lv_entry ([.ref (ad 318), .int a1]) (n := 2) (Nat.le_of_ble_eq_true rfl)
  rw [lg_entry_eq]
  generalize (lg_sl ([.ref (ad 318), .int a1]) ++ List.replicate (2 - (lg_sl ([.ref (ad 318), .int a1])).length) Slot.unset).toArray = ls at hl ⊢
  have hl : lv_has ls 2 [(0, .ref (ad 318)), (1, .int a1)] := hl
  rw [f_X7_count] at h
  refine lv_aload_n hx hb dX7_count_0 rfl (lv_at hl 0 rfl) ?_
  refine lv_iconst (v := 0) hx hb dX7_count_1 (by decide) ?_
  refine vpI (v := 0) (ty := .int) hx hb hts hi7 tyX7 tyX7_ok nmX7 hown hK hP hap hS (318) (by decide) (show kd 318 = 7 by decide) (C := RX7) (T := TX7) (N := 79) rfl 0 (by decide) (by decide) (by decide) (by decide) (hts (.fieldLink RX7 201 "CrateHelpersModel" "thrown" "I") (by decide +kernel)) (fun _ h9 => h9) rfl (by decide +kernel) rfl rfl dX7_count_2 (fun H locs hP hS => ?_)
  obtain ⟨I1, eI1, h⟩ := bd_e h
  rw [← eI1] at hP
  have hP : va_P D vwCl (VW K ad I1 G A L) H := hP
  refine lv_iload_n hx hb dX7_count_5 rfl (lv_at hl 1 rfl) ?_
  rcases sw_7 a1 with hs2 | hs2 | hs2 | hs2 | hs2 | hs2 | hs2 | hs2 | hs2
  · have h := ip hs2 h
    refine W_top hs2 ?_
    refine lv_tableIn (off := 46) (tgt := 52) hx hb dX7_count_6 (by decide) (by decide) (by decide) (by decide) ?_
    refine lv_aload_n hx hb dX7_count_52 rfl (lv_at hl 0 rfl) ?_
    refine vgI hx hb hts hi7 hown hK hP (318) (by decide) (show kd 318 = 7 by decide) (C := RX7) (T := TX7) (N := 79) rfl 2 (by decide) (by decide) (by decide) (by decide) (hts (.fieldLink RX7 204 "CrateHelpersModel" "problems" "I") (by decide +kernel)) (fun _ h9 => h9) dX7_count_53 ?_
    exact W.iret (v := (I1 318 2)) hx hb hr (fun t9 ht9 hW9 => ⟨⟨(I1 318 2), (I1, G, A, L), rfl, by cases h; exact ⟨rfl, rfl⟩, by rw [ht9]; exact hP, va_K.moved hW9.alike hK⟩, hS.F ht9⟩) hS.2.2 dX7_count_56
  · have h := iN (by rw [hs2]; decide) h
    have h := ip hs2 h
    refine W_top hs2 ?_
    refine lv_tableIn (off := 51) (tgt := 57) hx hb dX7_count_6 (by decide) (by decide) (by decide) (by decide) ?_
    refine lv_aload_n hx hb dX7_count_57 rfl (lv_at hl 0 rfl) ?_
    refine vgI hx hb hts hi7 hown hK hP (318) (by decide) (show kd 318 = 7 by decide) (C := RX7) (T := TX7) (N := 79) rfl 19 (by decide) (by decide) (by decide) (by decide) (hts (.fieldLink RX7 246 "CrateHelpersModel" "limit" "I") (by decide +kernel)) (fun _ h9 => h9) dX7_count_58 ?_
    exact W.iret (v := (I1 318 19)) hx hb hr (fun t9 ht9 hW9 => ⟨⟨(I1 318 19), (I1, G, A, L), rfl, by cases h; exact ⟨rfl, rfl⟩, by rw [ht9]; exact hP, va_K.moved hW9.alike hK⟩, hS.F ht9⟩) hS.2.2 dX7_count_61
  · have h := iN (by rw [hs2]; decide) h
    have h := iN (by rw [hs2]; decide) h
    have h := ip hs2 h
    refine W_top hs2 ?_
    refine lv_tableIn (off := 56) (tgt := 62) hx hb dX7_count_6 (by decide) (by decide) (by decide) (by decide) ?_
    refine lv_aload_n hx hb dX7_count_62 rfl (lv_at hl 0 rfl) ?_
    refine vgI hx hb hts hi7 hown hK hP (318) (by decide) (show kd 318 = 7 by decide) (C := RX7) (T := TX7) (N := 79) rfl 15 (by decide) (by decide) (by decide) (by decide) (hts (.fieldLink RX7 43 "CrateHelpersModel" "helpers" "I") (by decide +kernel)) (fun _ h9 => h9) dX7_count_63 ?_
    exact W.iret (v := (I1 318 15)) hx hb hr (fun t9 ht9 hW9 => ⟨⟨(I1 318 15), (I1, G, A, L), rfl, by cases h; exact ⟨rfl, rfl⟩, by rw [ht9]; exact hP, va_K.moved hW9.alike hK⟩, hS.F ht9⟩) hS.2.2 dX7_count_66
  · have h := iN (by rw [hs2]; decide) h
    have h := iN (by rw [hs2]; decide) h
    have h := iN (by rw [hs2]; decide) h
    have h := ip hs2 h
    refine W_top hs2 ?_
    refine lv_tableIn (off := 61) (tgt := 67) hx hb dX7_count_6 (by decide) (by decide) (by decide) (by decide) ?_
    refine lv_aload_n hx hb dX7_count_67 rfl (lv_at hl 0 rfl) ?_
    refine vgI hx hb hts hi7 hown hK hP (318) (by decide) (show kd 318 = 7 by decide) (C := RX7) (T := TX7) (N := 79) rfl 18 (by decide) (by decide) (by decide) (by decide) (hts (.fieldLink RX7 243 "CrateHelpersModel" "scheduled" "I") (by decide +kernel)) (fun _ h9 => h9) dX7_count_68 ?_
    exact W.iret (v := (I1 318 18)) hx hb hr (fun t9 ht9 hW9 => ⟨⟨(I1 318 18), (I1, G, A, L), rfl, by cases h; exact ⟨rfl, rfl⟩, by rw [ht9]; exact hP, va_K.moved hW9.alike hK⟩, hS.F ht9⟩) hS.2.2 dX7_count_71
  · have h := iN (by rw [hs2]; decide) h
    have h := iN (by rw [hs2]; decide) h
    have h := iN (by rw [hs2]; decide) h
    have h := iN (by rw [hs2]; decide) h
    have h := ip hs2 h
    refine W_top hs2 ?_
    refine lv_tableIn (off := 66) (tgt := 72) hx hb dX7_count_6 (by decide) (by decide) (by decide) (by decide) ?_
    refine lv_aload_n hx hb dX7_count_72 rfl (lv_at hl 0 rfl) ?_
    refine vgI hx hb hts hi7 hown hK hP (318) (by decide) (show kd 318 = 7 by decide) (C := RX7) (T := TX7) (N := 79) rfl 23 (by decide) (by decide) (by decide) (by decide) (hts (.fieldLink RX7 62 "CrateHelpersModel" "under" "I") (by decide +kernel)) (fun _ h9 => h9) dX7_count_73 ?_
    exact W.iret (v := (I1 318 23)) hx hb hr (fun t9 ht9 hW9 => ⟨⟨(I1 318 23), (I1, G, A, L), rfl, by cases h; exact ⟨rfl, rfl⟩, by rw [ht9]; exact hP, va_K.moved hW9.alike hK⟩, hS.F ht9⟩) hS.2.2 dX7_count_76
  · have h := iN (by rw [hs2]; decide) h
    have h := iN (by rw [hs2]; decide) h
    have h := iN (by rw [hs2]; decide) h
    have h := iN (by rw [hs2]; decide) h
    have h := iN (by rw [hs2]; decide) h
    have h := ip hs2 h
    refine W_top hs2 ?_
    refine lv_tableIn (off := 71) (tgt := 77) hx hb dX7_count_6 (by decide) (by decide) (by decide) (by decide) ?_
    refine lv_aload_n hx hb dX7_count_77 rfl (lv_at hl 0 rfl) ?_
    refine vgI hx hb hts hi7 hown hK hP (318) (by decide) (show kd 318 = 7 by decide) (C := RX7) (T := TX7) (N := 79) rfl 23 (by decide) (by decide) (by decide) (by decide) (hts (.fieldLink RX7 62 "CrateHelpersModel" "under" "I") (by decide +kernel)) (fun _ h9 => h9) dX7_count_78 ?_
    refine lv_bipush (v := (-9)) hx hb dX7_count_81 (by decide) ?_
    refine lv_icmp_ne (tgt := 90) hx hb dX7_count_83 (by decide) (fun c_3 => ?_) (fun c_3 => ?_)
    · have h := iN c_3 h
      refine lv_aload_n hx hb dX7_count_90 rfl (lv_at hl 0 rfl) ?_
      refine vgI hx hb hts hi7 hown hK hP (318) (by decide) (show kd 318 = 7 by decide) (C := RX7) (T := TX7) (N := 79) rfl 29 (by decide) (by decide) (by decide) (by decide) (hts (.fieldLink RX7 284 "CrateHelpersModel" "nodes" "I") (by decide +kernel)) (fun _ h9 => h9) dX7_count_91 ?_
      exact W.iret (v := (I1 318 29)) hx hb hr (fun t9 ht9 hW9 => ⟨⟨(I1 318 29), (I1, G, A, L), rfl, by cases h; exact ⟨rfl, rfl⟩, by rw [ht9]; exact hP, va_K.moved hW9.alike hK⟩, hS.F ht9⟩) hS.2.2 dX7_count_94
    · have h := ip c_3 h
      refine lv_iconst (v := 0) hx hb dX7_count_86 (by decide) ?_
      refine lv_goto (tgt := 94) hx hb dX7_count_87 (by decide) ?_
      exact W.iret (v := 0) hx hb hr (fun t9 ht9 hW9 => ⟨⟨0, (I1, G, A, L), rfl, by cases h; exact ⟨rfl, rfl⟩, by rw [ht9]; exact hP, va_K.moved hW9.alike hK⟩, hS.F ht9⟩) hS.2.2 dX7_count_94
  · have h := iN (by rw [hs2]; decide) h
    have h := iN (by rw [hs2]; decide) h
    have h := iN (by rw [hs2]; decide) h
    have h := iN (by rw [hs2]; decide) h
    have h := iN (by rw [hs2]; decide) h
    have h := iN (by rw [hs2]; decide) h
    have h := ip hs2 h
    refine W_top hs2 ?_
    refine lv_tableIn (off := 89) (tgt := 95) hx hb dX7_count_6 (by decide) (by decide) (by decide) (by decide) ?_
    refine lv_aload_n hx hb dX7_count_95 rfl (lv_at hl 0 rfl) ?_
    refine vgI hx hb hts hi7 hown hK hP (318) (by decide) (show kd 318 = 7 by decide) (C := RX7) (T := TX7) (N := 79) rfl 23 (by decide) (by decide) (by decide) (by decide) (hts (.fieldLink RX7 62 "CrateHelpersModel" "under" "I") (by decide +kernel)) (fun _ h9 => h9) dX7_count_96 ?_
    refine lv_bipush (v := (-9)) hx hb dX7_count_99 (by decide) ?_
    refine lv_icmp_ne (tgt := 108) hx hb dX7_count_101 (by decide) (fun c_4 => ?_) (fun c_4 => ?_)
    · have h := iN c_4 h
      refine lv_aload_n hx hb dX7_count_108 rfl (lv_at hl 0 rfl) ?_
      refine vgI hx hb hts hi7 hown hK hP (318) (by decide) (show kd 318 = 7 by decide) (C := RX7) (T := TX7) (N := 79) rfl 30 (by decide) (by decide) (by decide) (by decide) (hts (.fieldLink RX7 287 "CrateHelpersModel" "done" "I") (by decide +kernel)) (fun _ h9 => h9) dX7_count_109 ?_
      exact W.iret (v := (I1 318 30)) hx hb hr (fun t9 ht9 hW9 => ⟨⟨(I1 318 30), (I1, G, A, L), rfl, by cases h; exact ⟨rfl, rfl⟩, by rw [ht9]; exact hP, va_K.moved hW9.alike hK⟩, hS.F ht9⟩) hS.2.2 dX7_count_112
    · have h := ip c_4 h
      refine lv_iconst (v := 0) hx hb dX7_count_104 (by decide) ?_
      refine lv_goto (tgt := 112) hx hb dX7_count_105 (by decide) ?_
      exact W.iret (v := 0) hx hb hr (fun t9 ht9 hW9 => ⟨⟨0, (I1, G, A, L), rfl, by cases h; exact ⟨rfl, rfl⟩, by rw [ht9]; exact hP, va_K.moved hW9.alike hK⟩, hS.F ht9⟩) hS.2.2 dX7_count_112
  · have h := iN (by rw [hs2]; decide) h
    have h := iN (by rw [hs2]; decide) h
    have h := iN (by rw [hs2]; decide) h
    have h := iN (by rw [hs2]; decide) h
    have h := iN (by rw [hs2]; decide) h
    have h := iN (by rw [hs2]; decide) h
    have h := iN (by rw [hs2]; decide) h
    have h := ip hs2 h
    refine W_top hs2 ?_
    refine lv_tableIn (off := 107) (tgt := 113) hx hb dX7_count_6 (by decide) (by decide) (by decide) (by decide) ?_
    refine lv_aload_n hx hb dX7_count_113 rfl (lv_at hl 0 rfl) ?_
    refine vgI hx hb hts hi7 hown hK hP (318) (by decide) (show kd 318 = 7 by decide) (C := RX7) (T := TX7) (N := 79) rfl 23 (by decide) (by decide) (by decide) (by decide) (hts (.fieldLink RX7 62 "CrateHelpersModel" "under" "I") (by decide +kernel)) (fun _ h9 => h9) dX7_count_114 ?_
    refine lv_bipush (v := (-9)) hx hb dX7_count_117 (by decide) ?_
    refine lv_icmp_ne (tgt := 126) hx hb dX7_count_119 (by decide) (fun c_5 => ?_) (fun c_5 => ?_)
    · have h := iN c_5 h
      refine lv_aload_n hx hb dX7_count_126 rfl (lv_at hl 0 rfl) ?_
      refine vgI hx hb hts hi7 hown hK hP (318) (by decide) (show kd 318 = 7 by decide) (C := RX7) (T := TX7) (N := 79) rfl 31 (by decide) (by decide) (by decide) (by decide) (hts (.fieldLink RX7 303 "CrateHelpersModel" "taken" "I") (by decide +kernel)) (fun _ h9 => h9) dX7_count_127 ?_
      exact W.iret (v := (I1 318 31)) hx hb hr (fun t9 ht9 hW9 => ⟨⟨(I1 318 31), (I1, G, A, L), rfl, by cases h; exact ⟨rfl, rfl⟩, by rw [ht9]; exact hP, va_K.moved hW9.alike hK⟩, hS.F ht9⟩) hS.2.2 dX7_count_130
    · have h := ip c_5 h
      refine lv_iconst (v := 0) hx hb dX7_count_122 (by decide) ?_
      refine lv_goto (tgt := 130) hx hb dX7_count_123 (by decide) ?_
      exact W.iret (v := 0) hx hb hr (fun t9 ht9 hW9 => ⟨⟨0, (I1, G, A, L), rfl, by cases h; exact ⟨rfl, rfl⟩, by rw [ht9]; exact hP, va_K.moved hW9.alike hK⟩, hS.F ht9⟩) hS.2.2 dX7_count_130
  · have h := iN (fun q => by rw [q] at hs2; exact absurd hs2 (by decide)) h
    have h := iN (fun q => by rw [q] at hs2; exact absurd hs2 (by decide)) h
    have h := iN (fun q => by rw [q] at hs2; exact absurd hs2 (by decide)) h
    have h := iN (fun q => by rw [q] at hs2; exact absurd hs2 (by decide)) h
    have h := iN (fun q => by rw [q] at hs2; exact absurd hs2 (by decide)) h
    have h := iN (fun q => by rw [q] at hs2; exact absurd hs2 (by decide)) h
    have h := iN (fun q => by rw [q] at hs2; exact absurd hs2 (by decide)) h
    have h := iN (fun q => by rw [q] at hs2; exact absurd hs2 (by decide)) h
    refine lv_tableOut (tgt := 131) hx hb dX7_count_6 hs2 (by decide) ?_
    refine lv_iconst (v := (-1)) hx hb dX7_count_131 (by decide) ?_
    exact W.iret (v := (-1)) hx hb hr (fun t9 ht9 hW9 => ⟨⟨(-1), (I1, G, A, L), rfl, by cases h; exact ⟨rfl, rfl⟩, by rw [ht9]; exact hP, va_K.moved hW9.alike hK⟩, hS.F ht9⟩) hS.2.2 dX7_count_132
set_option maxHeartbeats 4000000 in
set_option maxRecDepth 100000 in
theorem e_X7_isAhead (l : Launch) (D : va_G) (K : Nat → ClassId) (ad : Nat → Nat) (hap0 : apart ad (fun _ => True)) (a1 : Int32) (a2 : Int32) (I : Nat → Nat → Int32) (G : Nat → Nat → Nat) (A : Nat → Nat → Int32) (L : Nat → Nat → Int64) (r0 : Int32) (h : f_X7_isAhead A a1 a2 = some r0) : Ci l D K ad yX7_isAhead wsX7_isAhead 0 0 [.ref (ad 318), .int a1, .int a2] (I, G, A, L) (fun (r : Int32) (u : Mem) => r = r0 ∧ u = (I, G, A, L)) := by
  intro sz
  refine Met.ofW (cc := cX7_isAhead) (maxL := 3) (ret := (some .boolean)) (by decide) rfl ?_
  intro p e s m args below meth c s₁ Bd hml hv0
  obtain ⟨rfl, hsz, hP, hK⟩ := hv0
  have hx := Bd.exec
  have hb := Bd.bytes
  have hr := Bd.returns
  have hts := atoms_spec (ws := wsX7_isAhead) Bd.pre
  have hown : s.vm.findClass RX7 = some m.cls := findClass_of_methodNamed Bd.named
  have hlocks := Bd.notSynchronized
  have hi7 : ∀ w ∈ u_ws RX7 TX7 79, w ∈ wsX7_isAhead := fun w h => List.mem_cons_of_mem _ (List.mem_append_right _ h)
  subst hsz
  have hap := vF_ap hap0 s.heap.size
  have hS : va_S (vF ad s.heap.size) s.heap s.heap [] := va_S.rf
  have hP : va_P D vwCl (VW K ad I G A L) s.heap := hP
  have hl := lv_entry ([.ref (ad 318), .int a1, .int a2]) (n := 3) (Nat.le_of_ble_eq_true rfl)
  rw [lg_entry_eq]
  generalize (lg_sl ([.ref (ad 318), .int a1, .int a2]) ++ List.replicate (3 - (lg_sl ([.ref (ad 318), .int a1, .int a2])).length) Slot.unset).toArray = ls at hl ⊢
  have hl : lv_has ls 3 [(0, .ref (ad 318)), (1, .int a1), (2, .int a2)] := hl
  rw [f_X7_isAhead] at h
  refine lv_aload_n hx hb dX7_isAhead_0 rfl (lv_at hl 0 rfl) ?_
  refine vgC hx hb hts hi7 hown hK hP (318) (by decide) (show kd 318 = 7 by decide) (C := RX7) (T := TX7) (N := 79) rfl 35 (by decide) (by decide) (by decide) (by decide) (341) rfl (hts (.fieldLink RX7 83 "CrateHelpersModel" "bound" "[I") (by decide +kernel)) (fun _ h9 => h9) dX7_isAhead_1 ?_
  refine lv_iload_n hx hb dX7_isAhead_4 rfl (lv_at hl 1 rfl) ?_
  obtain ⟨hn1, h⟩ := gk h
  refine xiald hx hb hK hP (341) (by decide) (show kd 341 = 8 by decide) (by rw [show ln 341 = 2000 by decide]; exact hn1) dX7_isAhead_5 ?_
  refine lv_aload_n hx hb dX7_isAhead_6 rfl (lv_at hl 0 rfl) ?_
  refine vgC hx hb hts hi7 hown hK hP (318) (by decide) (show kd 318 = 7 by decide) (C := RX7) (T := TX7) (N := 79) rfl 35 (by decide) (by decide) (by decide) (by decide) (341) rfl (hts (.fieldLink RX7 83 "CrateHelpersModel" "bound" "[I") (by decide +kernel)) (fun _ h9 => h9) dX7_isAhead_7 ?_
  refine lv_iload_n hx hb dX7_isAhead_10 rfl (lv_at hl 2 rfl) ?_
  obtain ⟨hn2, h⟩ := gk h
  refine xiald hx hb hK hP (341) (by decide) (show kd 341 = 8 by decide) (by rw [show ln 341 = 2000 by decide]; exact hn2) dX7_isAhead_11 ?_
  refine lv_icmp_lt (tgt := 45) hx hb dX7_isAhead_12 (by decide) (fun c_3 => ?_) (fun c_3 => ?_)
  · have h := ip c_3 h
    refine lv_iconst (v := 1) hx hb dX7_isAhead_45 (by decide) ?_
    refine lv_goto (tgt := 50) hx hb dX7_isAhead_46 (by decide) ?_
    exact W.zret (v := 1) hx hb hr (by decide) (fun t9 ht9 hW9 => ⟨⟨1, (I, G, A, L), rfl, by cases h; exact ⟨rfl, rfl⟩, by rw [ht9]; exact hP, va_K.moved hW9.alike hK⟩, hS.F ht9⟩) hS.2.2 dX7_isAhead_50
  · have h := iN c_3 h
    refine lv_aload_n hx hb dX7_isAhead_15 rfl (lv_at hl 0 rfl) ?_
    refine vgC hx hb hts hi7 hown hK hP (318) (by decide) (show kd 318 = 7 by decide) (C := RX7) (T := TX7) (N := 79) rfl 35 (by decide) (by decide) (by decide) (by decide) (341) rfl (hts (.fieldLink RX7 83 "CrateHelpersModel" "bound" "[I") (by decide +kernel)) (fun _ h9 => h9) dX7_isAhead_16 ?_
    refine lv_iload_n hx hb dX7_isAhead_19 rfl (lv_at hl 1 rfl) ?_
    refine xiald hx hb hK hP (341) (by decide) (show kd 341 = 8 by decide) (by rw [show ln 341 = 2000 by decide]; exact hn1) dX7_isAhead_20 ?_
    refine lv_aload_n hx hb dX7_isAhead_21 rfl (lv_at hl 0 rfl) ?_
    refine vgC hx hb hts hi7 hown hK hP (318) (by decide) (show kd 318 = 7 by decide) (C := RX7) (T := TX7) (N := 79) rfl 35 (by decide) (by decide) (by decide) (by decide) (341) rfl (hts (.fieldLink RX7 83 "CrateHelpersModel" "bound" "[I") (by decide +kernel)) (fun _ h9 => h9) dX7_isAhead_22 ?_
    refine lv_iload_n hx hb dX7_isAhead_25 rfl (lv_at hl 2 rfl) ?_
    refine xiald hx hb hK hP (341) (by decide) (show kd 341 = 8 by decide) (by rw [show ln 341 = 2000 by decide]; exact hn2) dX7_isAhead_26 ?_
    refine lv_icmp_ne (tgt := 49) hx hb dX7_isAhead_27 (by decide) (fun c_4 => ?_) (fun c_4 => ?_)
    · have h := iN c_4 h
      refine lv_iconst (v := 0) hx hb dX7_isAhead_49 (by decide) ?_
      exact W.zret (v := 0) hx hb hr (by decide) (fun t9 ht9 hW9 => ⟨⟨0, (I, G, A, L), rfl, by cases h; exact ⟨rfl, rfl⟩, by rw [ht9]; exact hP, va_K.moved hW9.alike hK⟩, hS.F ht9⟩) hS.2.2 dX7_isAhead_50
    · have h := ip c_4 h
      refine lv_aload_n hx hb dX7_isAhead_30 rfl (lv_at hl 0 rfl) ?_
      refine vgC hx hb hts hi7 hown hK hP (318) (by decide) (show kd 318 = 7 by decide) (C := RX7) (T := TX7) (N := 79) rfl 34 (by decide) (by decide) (by decide) (by decide) (340) rfl (hts (.fieldLink RX7 80 "CrateHelpersModel" "key" "[I") (by decide +kernel)) (fun _ h9 => h9) dX7_isAhead_31 ?_
      refine lv_iload_n hx hb dX7_isAhead_34 rfl (lv_at hl 1 rfl) ?_
      refine xiald hx hb hK hP (340) (by decide) (show kd 340 = 8 by decide) (by rw [show ln 340 = 2000 by decide]; exact hn1) dX7_isAhead_35 ?_
      refine lv_aload_n hx hb dX7_isAhead_36 rfl (lv_at hl 0 rfl) ?_
      refine vgC hx hb hts hi7 hown hK hP (318) (by decide) (show kd 318 = 7 by decide) (C := RX7) (T := TX7) (N := 79) rfl 34 (by decide) (by decide) (by decide) (by decide) (340) rfl (hts (.fieldLink RX7 80 "CrateHelpersModel" "key" "[I") (by decide +kernel)) (fun _ h9 => h9) dX7_isAhead_37 ?_
      refine lv_iload_n hx hb dX7_isAhead_40 rfl (lv_at hl 2 rfl) ?_
      refine xiald hx hb hK hP (340) (by decide) (show kd 340 = 8 by decide) (by rw [show ln 340 = 2000 by decide]; exact hn2) dX7_isAhead_41 ?_
      refine lv_icmp_ge (tgt := 49) hx hb dX7_isAhead_42 (by decide) (fun c_5 => ?_) (fun c_5 => ?_)
      · have h := iN (Int32.not_lt.mpr c_5) h
        refine lv_iconst (v := 0) hx hb dX7_isAhead_49 (by decide) ?_
        exact W.zret (v := 0) hx hb hr (by decide) (fun t9 ht9 hW9 => ⟨⟨0, (I, G, A, L), rfl, by cases h; exact ⟨rfl, rfl⟩, by rw [ht9]; exact hP, va_K.moved hW9.alike hK⟩, hS.F ht9⟩) hS.2.2 dX7_isAhead_50
      · have h := ip (Int32.not_le.mp c_5) h
        refine lv_iconst (v := 1) hx hb dX7_isAhead_45 (by decide) ?_
        refine lv_goto (tgt := 50) hx hb dX7_isAhead_46 (by decide) ?_
        exact W.zret (v := 1) hx hb hr (by decide) (fun t9 ht9 hW9 => ⟨⟨1, (I, G, A, L), rfl, by cases h; exact ⟨rfl, rfl⟩, by rw [ht9]; exact hP, va_K.moved hW9.alike hK⟩, hS.F ht9⟩) hS.2.2 dX7_isAhead_50
set_option maxHeartbeats 4000000 in
set_option maxRecDepth 100000 in
theorem e_X7_nextOf (l : Launch) (D : va_G) (K : Nat → ClassId) (ad : Nat → Nat) (hap0 : apart ad (fun _ => True)) (I : Nat → Nat → Int32) (G : Nat → Nat → Nat) (A : Nat → Nat → Int32) (L : Nat → Nat → Int64) (r0 : Int32) (h : f_X7_nextOf I A = some r0) : Ci l D K ad yX7_nextOf wsX7_nextOf 1 25 [.ref (ad 318)] (I, G, A, L) (fun (r : Int32) (u : Mem) => r = r0 ∧ u = (I, G, A, L)) := by
  intro sz
  refine Met.ofW (cc := cX7_nextOf) (maxL := 4) (ret := (some .int)) (by decide) rfl ?_
  intro p e s m args below meth c s₁ Bd hml hv0
  obtain ⟨rfl, hsz, hP, hK⟩ := hv0
  have hx := Bd.exec
  have hb := Bd.bytes
  have hr := Bd.returns
  have hts := atoms_spec (ws := wsX7_nextOf) Bd.pre
  have hown : s.vm.findClass RX7 = some m.cls := findClass_of_methodNamed Bd.named
  have hlocks := Bd.notSynchronized
  have hi7 : ∀ w ∈ u_ws RX7 TX7 79, w ∈ wsX7_nextOf := fun w h => List.mem_cons_of_mem _ (List.mem_append_right _ h)
  subst hsz
  have hap := vF_ap hap0 s.heap.size
  have hS : va_S (vF ad s.heap.size) s.heap s.heap [] := va_S.rf
  have hP : va_P D vwCl (VW K ad I G A L) s.heap := hP
  have hl := lv_entry ([.ref (ad 318)]) (n := 4) (Nat.le_of_ble_eq_true rfl)
  rw [lg_entry_eq]
  generalize (lg_sl ([.ref (ad 318)]) ++ List.replicate (4 - (lg_sl ([.ref (ad 318)])).length) Slot.unset).toArray = ls at hl ⊢
  have hl : lv_has ls 4 [(0, .ref (ad 318))] := hl
  rw [f_X7_nextOf] at h
  refine lv_bipush (v := (-9)) hx hb dX7_nextOf_0 (by decide) ?_
  refine lv_istore_n (lv' := [(1, .int (-9)), (0, .ref (ad 318))]) hx hb dX7_nextOf_2 rfl hl (by decide) rfl (fun ls hl => ?_)
  refine lv_iconst (v := 0) hx hb dX7_nextOf_3 (by decide) ?_
  refine lv_istore_n (lv' := [(2, .int 0), (1, .int (-9)), (0, .ref (ad 318))]) hx hb dX7_nextOf_4 rfl hl (by decide) rfl (fun ls hl => ?_)
  obtain ⟨k4, ek4, h⟩ := bd_e h
  have kk4 : ∀ (v5 : Int32), k4 v5 = some r0 → ∀ (H : Heap) (locs : List Loc), va_P D vwCl (VW K ad I G A L) H → va_S (vF ad s.heap.size) s.heap H locs → ∀ (ls : Array Slot), lv_has ls 4 [(1, .int v5)] → W p l e ({ frames := 1, cells := 0, slots := 0, locals := 25 }) s m ([.ref (ad 318)] : List Value).toArray below meth c H locs 0 0 (MQ below (va_Qi (fun (r : Int32) (u : Mem) => r = r0 ∧ u = (I, G, A, L)) (vB D K ad) (vF ad s.heap.size)) ([.ref (ad 318)] : List Value).toArray s 0 0 (vF ad s.heap.size)) (F0 m 84 ls []) := by
    intro v5 h H locs hP hS ls hl
    subst ek4
    refine lv_iload_n hx hb dX7_nextOf_84 rfl (lv_at hl 0 rfl) ?_
    exact W.iret (v := v5) hx hb hr (fun t9 ht9 hW9 => ⟨⟨v5, (I, G, A, L), rfl, by cases h; exact ⟨rfl, rfl⟩, by rw [ht9]; exact hP, va_K.moved hW9.alike hK⟩, hS.F ht9⟩) hS.2.2 dX7_nextOf_85
  have lp1 : ∀ (n : Nat) (v2 : Int32) (v3 : Int32), f_X7_nextOf_L5 I A k4 n v2 v3 = some r0 → ∀ (H : Heap) (locs : List Loc), va_P D vwCl (VW K ad I G A L) H → va_S (vF ad s.heap.size) s.heap H locs → ∀ (ls : Array Slot), lv_has ls 4 [(2, .int v2), (1, .int v3), (0, .ref (ad 318))] → W p l e ({ frames := 1, cells := 0, slots := 0, locals := 25 }) s m ([.ref (ad 318)] : List Value).toArray below meth c H locs 0 0 (MQ below (va_Qi (fun (r : Int32) (u : Mem) => r = r0 ∧ u = (I, G, A, L)) (vB D K ad) (vF ad s.heap.size)) ([.ref (ad 318)] : List Value).toArray s 0 0 (vF ad s.heap.size)) (F0 m 5 ls []) := by
    intro n
    induction n with
    | zero => intro v2 v3 h; exact absurd h (by rw [f_X7_nextOf_L5]; exact nofun)
    | succ n ih1 =>
      intro v2 v3 h H locs hP hS ls hl
      rw [f_X7_nextOf_L5] at h
      refine lv_iload_n hx hb dX7_nextOf_5 rfl (lv_at hl 0 rfl) ?_
      refine lv_aload_n hx hb dX7_nextOf_6 rfl (lv_at hl 2 rfl) ?_
      refine vgI hx hb hts hi7 hown hK hP (318) (by decide) (show kd 318 = 7 by decide) (C := RX7) (T := TX7) (N := 79) rfl 29 (by decide) (by decide) (by decide) (by decide) (hts (.fieldLink RX7 284 "CrateHelpersModel" "nodes" "I") (by decide +kernel)) (fun _ h9 => h9) dX7_nextOf_7 ?_
      refine lv_icmp_ge (tgt := 84) hx hb dX7_nextOf_10 (by decide) (fun c_6 => ?_) (fun c_6 => ?_)
      · have h := iN (Int32.not_lt.mpr c_6) h
        exact kk4 v3 h _ _ hP hS ls (lv_sub hl [1] rfl)
      · have h := ip (Int32.not_le.mp c_6) h
        refine lv_aload_n hx hb dX7_nextOf_13 rfl (lv_at hl 2 rfl) ?_
        refine vgC hx hb hts hi7 hown hK hP (318) (by decide) (show kd 318 = 7 by decide) (C := RX7) (T := TX7) (N := 79) rfl 39 (by decide) (by decide) (by decide) (by decide) (345) rfl (hts (.fieldLink RX7 96 "CrateHelpersModel" "isTaken" "[Z") (by decide +kernel)) (fun _ h9 => h9) dX7_nextOf_14 ?_
        refine lv_iload_n hx hb dX7_nextOf_17 rfl (lv_at hl 0 rfl) ?_
        obtain ⟨hn7, h⟩ := gk h
        refine xzald hx hb hK hP (345) (by decide) (show kd 345 = 11 by decide) (by rw [show ln 345 = 2000 by decide]; exact hn7) dX7_nextOf_18 ?_
        obtain ⟨j12, ej12, h⟩ := bd_e h
        have kj12 : ∀ (z11 : Int32), j12 z11 = some r0 → ∀ (H : Heap) (locs : List Loc), va_P D vwCl (VW K ad I G A L) H → va_S (vF ad s.heap.size) s.heap H locs → ∀ (ls : Array Slot), lv_has ls 4 [(2, .int v2), (1, .int v3), (0, .ref (ad 318))] → W p l e ({ frames := 1, cells := 0, slots := 0, locals := 25 }) s m ([.ref (ad 318)] : List Value).toArray below meth c H locs 0 0 (MQ below (va_Qi (fun (r : Int32) (u : Mem) => r = r0 ∧ u = (I, G, A, L)) (vB D K ad) (vF ad s.heap.size)) ([.ref (ad 318)] : List Value).toArray s 0 0 (vF ad s.heap.size)) (F0 m 52 ls [.int z11]) := by
          intro z11 h H locs hP hS ls hl
          subst ej12
          refine lv_istore_n (lv' := [(3, .int z11), (2, .int v2), (1, .int v3), (0, .ref (ad 318))]) hx hb dX7_nextOf_52 rfl hl (by decide) rfl (fun ls hl => ?_)
          refine lv_iload_n hx hb dX7_nextOf_53 rfl (lv_at hl 0 rfl) ?_
          refine lv_if_eq (tgt := 76) hx hb dX7_nextOf_54 (by decide) (fun c_13 => ?_) (fun c_13 => ?_)
          · have h := ip c_13 h
            refine lv_iload_n hx hb dX7_nextOf_76 rfl (lv_at hl 2 rfl) ?_
            refine lv_istore_n (lv' := [(1, .int v3), (3, .int z11), (2, .int v2), (0, .ref (ad 318))]) hx hb dX7_nextOf_77 rfl hl (by decide) rfl (fun ls hl => ?_)
            refine lv_iinc (v := (v2 + 1)) (lv' := [(2, .int (v2 + 1)), (1, .int v3), (3, .int z11), (0, .ref (ad 318))]) hx hb dX7_nextOf_78 hl (k := 2) rfl rfl (by decide) rfl (fun ls hl => ?_)
            refine lv_goto (tgt := 5) hx hb dX7_nextOf_81 (by decide) ?_
            exact ih1 (v2 + 1) v3 h _ _ hP hS ls (lv_sub hl [0, 1, 3] rfl)
          · have h := iN c_13 h
            refine lv_iload_n hx hb dX7_nextOf_57 rfl (lv_at hl 2 rfl) ?_
            refine lv_bipush (v := (-9)) hx hb dX7_nextOf_58 (by decide) ?_
            refine lv_icmp_eq (tgt := 72) hx hb dX7_nextOf_60 (by decide) (fun c_14 => ?_) (fun c_14 => ?_)
            · have h := ip c_14 h
              refine lv_iload_n hx hb dX7_nextOf_72 rfl (lv_at hl 1 rfl) ?_
              refine lv_goto (tgt := 77) hx hb dX7_nextOf_73 (by decide) ?_
              refine lv_istore_n (lv' := [(1, .int v2), (3, .int z11), (2, .int v2), (0, .ref (ad 318))]) hx hb dX7_nextOf_77 rfl hl (by decide) rfl (fun ls hl => ?_)
              refine lv_iinc (v := (v2 + 1)) (lv' := [(2, .int (v2 + 1)), (1, .int v2), (3, .int z11), (0, .ref (ad 318))]) hx hb dX7_nextOf_78 hl (k := 2) rfl rfl (by decide) rfl (fun ls hl => ?_)
              refine lv_goto (tgt := 5) hx hb dX7_nextOf_81 (by decide) ?_
              exact ih1 (v2 + 1) v2 h _ _ hP hS ls (lv_sub hl [0, 1, 3] rfl)
            · have h := iN c_14 h
              refine lv_aload_n hx hb dX7_nextOf_63 rfl (lv_at hl 3 rfl) ?_
              refine lv_iload_n hx hb dX7_nextOf_64 rfl (lv_at hl 1 rfl) ?_
              refine lv_iload_n hx hb dX7_nextOf_65 rfl (lv_at hl 2 rfl) ?_
              obtain ⟨r15, hc16, h⟩ := Option.bind_eq_some_iff.mp h
              refine ecV (As := [.int v2, .int v3]) (rest := []) ⟨hx, hb, hml, hown, hts⟩ (e_X7_isAhead l D K ad hap0 v2 v3 I G A L r15 hc16) (cwV 2 hts gX7_nextOf_X7_isAhead rfl rfl rfl (by decide +kernel) ⟨Nat.le_of_ble_eq_true rfl, Nat.le_of_ble_eq_true rfl⟩) hK hP hS (by decide) (show kd 318 = 7 by decide) (by decide) rfl rfl rfl hl.1 (Nat.le_of_ble_eq_true rfl) (Nat.le_of_ble_eq_true rfl) (Nat.le_of_ble_eq_true rfl) dX7_nextOf_66 (fun H locs hP hS => ?_) rfl
              have hP : va_P D vwCl (VW K ad I G A L) H := hP
              refine lv_if_eq (tgt := 76) hx hb dX7_nextOf_69 (by decide) (fun c_17 => ?_) (fun c_17 => ?_)
              · have h := ip c_17 h
                refine lv_iload_n hx hb dX7_nextOf_76 rfl (lv_at hl 2 rfl) ?_
                refine lv_istore_n (lv' := [(1, .int v3), (3, .int z11), (2, .int v2), (0, .ref (ad 318))]) hx hb dX7_nextOf_77 rfl hl (by decide) rfl (fun ls hl => ?_)
                refine lv_iinc (v := (v2 + 1)) (lv' := [(2, .int (v2 + 1)), (1, .int v3), (3, .int z11), (0, .ref (ad 318))]) hx hb dX7_nextOf_78 hl (k := 2) rfl rfl (by decide) rfl (fun ls hl => ?_)
                refine lv_goto (tgt := 5) hx hb dX7_nextOf_81 (by decide) ?_
                exact ih1 (v2 + 1) v3 h _ _ hP hS ls (lv_sub hl [0, 1, 3] rfl)
              · have h := iN c_17 h
                refine lv_iload_n hx hb dX7_nextOf_72 rfl (lv_at hl 1 rfl) ?_
                refine lv_goto (tgt := 77) hx hb dX7_nextOf_73 (by decide) ?_
                refine lv_istore_n (lv' := [(1, .int v2), (3, .int z11), (2, .int v2), (0, .ref (ad 318))]) hx hb dX7_nextOf_77 rfl hl (by decide) rfl (fun ls hl => ?_)
                refine lv_iinc (v := (v2 + 1)) (lv' := [(2, .int (v2 + 1)), (1, .int v2), (3, .int z11), (0, .ref (ad 318))]) hx hb dX7_nextOf_78 hl (k := 2) rfl rfl (by decide) rfl (fun ls hl => ?_)
                refine lv_goto (tgt := 5) hx hb dX7_nextOf_81 (by decide) ?_
                exact ih1 (v2 + 1) v2 h _ _ hP hS ls (lv_sub hl [0, 1, 3] rfl)
        refine lv_if_ne (tgt := 51) hx hb dX7_nextOf_19 (by decide) (fun c_18 => ?_) (fun c_18 => ?_)
        · have h := iN c_18 h
          refine lv_iconst (v := 0) hx hb dX7_nextOf_51 (by decide) ?_
          exact kj12 0 h _ _ hP hS ls (lv_sub hl [0, 1, 2] rfl)
        · have h := ip c_18 h
          refine lv_aload_n hx hb dX7_nextOf_22 rfl (lv_at hl 2 rfl) ?_
          refine vgC hx hb hts hi7 hown hK hP (318) (by decide) (show kd 318 = 7 by decide) (C := RX7) (T := TX7) (N := 79) rfl 36 (by decide) (by decide) (by decide) (by decide) (342) rfl (hts (.fieldLink RX7 86 "CrateHelpersModel" "above" "[I") (by decide +kernel)) (fun _ h9 => h9) dX7_nextOf_23 ?_
          refine lv_iload_n hx hb dX7_nextOf_26 rfl (lv_at hl 0 rfl) ?_
          refine xiald hx hb hK hP (342) (by decide) (show kd 342 = 8 by decide) (by rw [show ln 342 = 2000 by decide]; exact hn7) dX7_nextOf_27 ?_
          refine lv_bipush (v := (-9)) hx hb dX7_nextOf_28 (by decide) ?_
          refine lv_icmp_eq (tgt := 47) hx hb dX7_nextOf_30 (by decide) (fun c_19 => ?_) (fun c_19 => ?_)
          · have h := ip c_19 h
            refine lv_iconst (v := 1) hx hb dX7_nextOf_47 (by decide) ?_
            refine lv_goto (tgt := 52) hx hb dX7_nextOf_48 (by decide) ?_
            exact kj12 1 h _ _ hP hS ls (lv_sub hl [0, 1, 2] rfl)
          · have h := iN c_19 h
            refine lv_aload_n hx hb dX7_nextOf_33 rfl (lv_at hl 2 rfl) ?_
            refine vgC hx hb hts hi7 hown hK hP (318) (by decide) (show kd 318 = 7 by decide) (C := RX7) (T := TX7) (N := 79) rfl 39 (by decide) (by decide) (by decide) (by decide) (345) rfl (hts (.fieldLink RX7 96 "CrateHelpersModel" "isTaken" "[Z") (by decide +kernel)) (fun _ h9 => h9) dX7_nextOf_34 ?_
            refine lv_aload_n hx hb dX7_nextOf_37 rfl (lv_at hl 2 rfl) ?_
            refine vgC hx hb hts hi7 hown hK hP (318) (by decide) (show kd 318 = 7 by decide) (C := RX7) (T := TX7) (N := 79) rfl 36 (by decide) (by decide) (by decide) (by decide) (342) rfl (hts (.fieldLink RX7 86 "CrateHelpersModel" "above" "[I") (by decide +kernel)) (fun _ h9 => h9) dX7_nextOf_38 ?_
            refine lv_iload_n hx hb dX7_nextOf_41 rfl (lv_at hl 0 rfl) ?_
            refine xiald hx hb hK hP (342) (by decide) (show kd 342 = 8 by decide) (by rw [show ln 342 = 2000 by decide]; exact hn7) dX7_nextOf_42 ?_
            obtain ⟨hn20, h⟩ := gk h
            refine xzald hx hb hK hP (345) (by decide) (show kd 345 = 11 by decide) (by rw [show ln 345 = 2000 by decide]; exact hn20) dX7_nextOf_43 ?_
            refine lv_if_eq (tgt := 51) hx hb dX7_nextOf_44 (by decide) (fun c_21 => ?_) (fun c_21 => ?_)
            · have h := ip c_21 h
              refine lv_iconst (v := 0) hx hb dX7_nextOf_51 (by decide) ?_
              exact kj12 0 h _ _ hP hS ls (lv_sub hl [0, 1, 2] rfl)
            · have h := iN c_21 h
              refine lv_iconst (v := 1) hx hb dX7_nextOf_47 (by decide) ?_
              refine lv_goto (tgt := 52) hx hb dX7_nextOf_48 (by decide) ?_
              exact kj12 1 h _ _ hP hS ls (lv_sub hl [0, 1, 2] rfl)
  exact lp1 FU 0 (-9) h _ _ hP hS ls (lv_sub hl [0, 1, 2] rfl)

/-! part 51.r05 -/
set_option maxHeartbeats 4000000 in
set_option maxRecDepth 100000 in
theorem e_X7_endsAs (l : Launch) (D : va_G) (K : Nat → ClassId) (ad : Nat → Nat) (hap0 : apart ad (fun _ => True)) (a1 : Int32) (a2 : Int32) (I : Nat → Nat → Int32) (G : Nat → Nat → Nat) (A : Nat → Nat → Int32) (L : Nat → Nat → Int64) (I0 : Nat → Nat → Int32) (A0 : Nat → Nat → Int32) (h : f_X7_endsAs I A a1 a2 = some (I0, A0)) : Cv l D K ad yX7_endsAs wsX7_endsAs 2 51 [.ref (ad 318), .int a1, .int a2] (I, G, A, L) (fun (u : Mem) => u = (I0, G, A0, L)) := by
  intro sz
  refine Met.ofW (cc := cX7_endsAs) (maxL := 8) (ret := none) (by decide) rfl ?_
  intro p e s m args below meth c s₁ Bd hml hv0
  obtain ⟨rfl, hsz, hP, hK⟩ := hv0
  have hx := Bd.exec
  have hb := Bd.bytes
  have hr := Bd.returns
  have hts := atoms_spec (ws := wsX7_endsAs) Bd.pre
  have hown : s.vm.findClass RX7 = some m.cls := findClass_of_methodNamed Bd.named
  have hlocks := Bd.notSynchronized
  have hi7 : ∀ w ∈ u_ws RX7 TX7 79, w ∈ wsX7_endsAs := fun w h => List.mem_cons_of_mem _ (List.mem_append_right _ h)
  subst hsz
  have hap := vF_ap hap0 s.heap.size
  have hS : va_S (vF ad s.heap.size) s.heap s.heap [] := va_S.rf
  have hP : va_P D vwCl (VW K ad I G A L) s.heap := hP
  have hl := lv_entry ([.ref (ad 318), .int a1, .int a2]) (n := 8) (Nat.le_of_ble_eq_true rfl)
  rw [lg_entry_eq]
  generalize (lg_sl ([.ref (ad 318), .int a1, .int a2]) ++ List.replicate (8 - (lg_sl ([.ref (ad 318), .int a1, .int a2])).length) Slot.unset).toArray = ls at hl ⊢
  have hl : lv_has ls 8 [(0, .ref (ad 318)), (1, .int a1), (2, .int a2)] := hl
  rw [f_X7_endsAs] at h
  refine lv_aload_n hx hb dX7_endsAs_0 rfl (lv_at hl 0 rfl) ?_
  obtain ⟨r1, hc2, h⟩ := Option.bind_eq_some_iff.mp h
  refine ecV (As := []) (rest := []) ⟨hx, hb, hml, hown, hts⟩ (e_X7_nextOf l D K ad hap0  I G A L r1 hc2) (cwV 0 hts gX7_endsAs_X7_nextOf rfl rfl rfl (by decide +kernel) ⟨Nat.le_of_ble_eq_true rfl, Nat.le_of_ble_eq_true rfl⟩) hK hP hS (by decide) (show kd 318 = 7 by decide) (by decide) rfl rfl rfl hl.1 (Nat.le_of_ble_eq_true rfl) (Nat.le_of_ble_eq_true rfl) (Nat.le_of_ble_eq_true rfl) dX7_endsAs_1 (fun H locs hP hS => ?_) rfl
  have hP : va_P D vwCl (VW K ad I G A L) H := hP
  refine lv_istore_n (lv' := [(3, .int r1), (0, .ref (ad 318)), (1, .int a1), (2, .int a2)]) hx hb dX7_endsAs_4 rfl hl (by decide) rfl (fun ls hl => ?_)
  refine lv_aload_n hx hb dX7_endsAs_5 rfl (lv_at hl 1 rfl) ?_
  refine vgI hx hb hts hi7 hown hK hP (318) (by decide) (show kd 318 = 7 by decide) (C := RX7) (T := TX7) (N := 79) rfl 31 (by decide) (by decide) (by decide) (by decide) (hts (.fieldLink RX7 303 "CrateHelpersModel" "taken" "I") (by decide +kernel)) (fun _ h9 => h9) dX7_endsAs_6 ?_
  obtain ⟨j5, ej5, h⟩ := bd_e h
  have kj5 : ∀ (z4 : Int32), j5 z4 = some (I0, A0) → ∀ (H : Heap) (locs : List Loc), va_P D vwCl (VW K ad I G A L) H → va_S (vF ad s.heap.size) s.heap H locs → ∀ (ls : Array Slot), lv_has ls 8 [(3, .int r1), (0, .ref (ad 318)), (1, .int a1), (2, .int a2)] → W p l e ({ frames := 2, cells := 0, slots := 0, locals := 51 }) s m ([.ref (ad 318), .int a1, .int a2] : List Value).toArray below meth c H locs 0 0 (MQ below (va_Qv (fun (u : Mem) => u = (I0, G, A0, L)) (vB D K ad) (vF ad s.heap.size)) ([.ref (ad 318), .int a1, .int a2] : List Value).toArray s 0 0 (vF ad s.heap.size)) (F0 m 28 ls [.int z4]) := by
    intro z4 h H locs hP hS ls hl
    subst ej5
    refine lv_istore (lv' := [(4, .int z4), (3, .int r1), (0, .ref (ad 318)), (1, .int a1), (2, .int a2)]) hx hb dX7_endsAs_28 hl (by decide) rfl (fun ls hl => ?_)
    refine lv_aload_n hx hb dX7_endsAs_30 rfl (lv_at hl 2 rfl) ?_
    refine vgC hx hb hts hi7 hown hK hP (318) (by decide) (show kd 318 = 7 by decide) (C := RX7) (T := TX7) (N := 79) rfl 44 (by decide) (by decide) (by decide) (by decide) (350) rfl (hts (.fieldLink RX7 111 "CrateHelpersModel" "toldAt" "[I") (by decide +kernel)) (fun _ h9 => h9) dX7_endsAs_31 ?_
    refine lv_bipush (v := 6) hx hb dX7_endsAs_34 (by decide) ?_
    refine lv_iload_n hx hb dX7_endsAs_36 rfl (lv_at hl 3 rfl) ?_
    refine lv_imul hx hb dX7_endsAs_37 ?_
    refine lv_iload_n hx hb dX7_endsAs_38 rfl (lv_at hl 4 rfl) ?_
    obtain ⟨hn6, h⟩ := gk h
    refine xiast hx hb hK hP hap hS (350) (by decide) (show kd 350 = 8 by decide) (by rw [show ln 350 = 30 by decide]; exact hn6) dX7_endsAs_39 (fun H locs hP hS => ?_)
    obtain ⟨A7, eA7, h⟩ := bd_e h
    rw [← eA7] at hP
    have hP : va_P D vwCl (VW K ad I G A7 L) H := hP
    refine lv_aload_n hx hb dX7_endsAs_40 rfl (lv_at hl 2 rfl) ?_
    refine vgC hx hb hts hi7 hown hK hP (318) (by decide) (show kd 318 = 7 by decide) (C := RX7) (T := TX7) (N := 79) rfl 44 (by decide) (by decide) (by decide) (by decide) (350) rfl (hts (.fieldLink RX7 111 "CrateHelpersModel" "toldAt" "[I") (by decide +kernel)) (fun _ h9 => h9) dX7_endsAs_41 ?_
    refine lv_bipush (v := 6) hx hb dX7_endsAs_44 (by decide) ?_
    refine lv_iload_n hx hb dX7_endsAs_46 rfl (lv_at hl 3 rfl) ?_
    refine lv_imul hx hb dX7_endsAs_47 ?_
    refine lv_iconst (v := 1) hx hb dX7_endsAs_48 (by decide) ?_
    refine lv_iadd hx hb dX7_endsAs_49 ?_
    refine lv_aload_n hx hb dX7_endsAs_50 rfl (lv_at hl 2 rfl) ?_
    refine vgI hx hb hts hi7 hown hK hP (318) (by decide) (show kd 318 = 7 by decide) (C := RX7) (T := TX7) (N := 79) rfl 31 (by decide) (by decide) (by decide) (by decide) (hts (.fieldLink RX7 303 "CrateHelpersModel" "taken" "I") (by decide +kernel)) (fun _ h9 => h9) dX7_endsAs_51 ?_
    obtain ⟨hn8, h⟩ := gk h
    refine xiast hx hb hK hP hap hS (350) (by decide) (show kd 350 = 8 by decide) (by rw [show ln 350 = 30 by decide]; exact hn8) dX7_endsAs_54 (fun H locs hP hS => ?_)
    obtain ⟨A9, eA9, h⟩ := bd_e h
    rw [← eA9] at hP
    have hP : va_P D vwCl (VW K ad I G A9 L) H := hP
    refine lv_aload_n hx hb dX7_endsAs_55 rfl (lv_at hl 2 rfl) ?_
    refine vgC hx hb hts hi7 hown hK hP (318) (by decide) (show kd 318 = 7 by decide) (C := RX7) (T := TX7) (N := 79) rfl 44 (by decide) (by decide) (by decide) (by decide) (350) rfl (hts (.fieldLink RX7 111 "CrateHelpersModel" "toldAt" "[I") (by decide +kernel)) (fun _ h9 => h9) dX7_endsAs_56 ?_
    refine lv_bipush (v := 6) hx hb dX7_endsAs_59 (by decide) ?_
    refine lv_iload_n hx hb dX7_endsAs_61 rfl (lv_at hl 3 rfl) ?_
    refine lv_imul hx hb dX7_endsAs_62 ?_
    refine lv_iconst (v := 2) hx hb dX7_endsAs_63 (by decide) ?_
    refine lv_iadd hx hb dX7_endsAs_64 ?_
    refine lv_aload_n hx hb dX7_endsAs_65 rfl (lv_at hl 2 rfl) ?_
    refine vgI hx hb hts hi7 hown hK hP (318) (by decide) (show kd 318 = 7 by decide) (C := RX7) (T := TX7) (N := 79) rfl 30 (by decide) (by decide) (by decide) (by decide) (hts (.fieldLink RX7 287 "CrateHelpersModel" "done" "I") (by decide +kernel)) (fun _ h9 => h9) dX7_endsAs_66 ?_
    obtain ⟨hn10, h⟩ := gk h
    refine xiast hx hb hK hP hap hS (350) (by decide) (show kd 350 = 8 by decide) (by rw [show ln 350 = 30 by decide]; exact hn10) dX7_endsAs_69 (fun H locs hP hS => ?_)
    obtain ⟨A11, eA11, h⟩ := bd_e h
    rw [← eA11] at hP
    have hP : va_P D vwCl (VW K ad I G A11 L) H := hP
    refine lv_aload_n hx hb dX7_endsAs_70 rfl (lv_at hl 2 rfl) ?_
    refine vgC hx hb hts hi7 hown hK hP (318) (by decide) (show kd 318 = 7 by decide) (C := RX7) (T := TX7) (N := 79) rfl 44 (by decide) (by decide) (by decide) (by decide) (350) rfl (hts (.fieldLink RX7 111 "CrateHelpersModel" "toldAt" "[I") (by decide +kernel)) (fun _ h9 => h9) dX7_endsAs_71 ?_
    refine lv_bipush (v := 6) hx hb dX7_endsAs_74 (by decide) ?_
    refine lv_iload_n hx hb dX7_endsAs_76 rfl (lv_at hl 3 rfl) ?_
    refine lv_imul hx hb dX7_endsAs_77 ?_
    refine lv_iconst (v := 3) hx hb dX7_endsAs_78 (by decide) ?_
    refine lv_iadd hx hb dX7_endsAs_79 ?_
    refine lv_aload_n hx hb dX7_endsAs_80 rfl (lv_at hl 2 rfl) ?_
    refine vgI hx hb hts hi7 hown hK hP (318) (by decide) (show kd 318 = 7 by decide) (C := RX7) (T := TX7) (N := 79) rfl 28 (by decide) (by decide) (by decide) (by decide) (hts (.fieldLink RX7 310 "CrateHelpersModel" "turns" "I") (by decide +kernel)) (fun _ h9 => h9) dX7_endsAs_81 ?_
    obtain ⟨hn12, h⟩ := gk h
    refine xiast hx hb hK hP hap hS (350) (by decide) (show kd 350 = 8 by decide) (by rw [show ln 350 = 30 by decide]; exact hn12) dX7_endsAs_84 (fun H locs hP hS => ?_)
    obtain ⟨A13, eA13, h⟩ := bd_e h
    rw [← eA13] at hP
    have hP : va_P D vwCl (VW K ad I G A13 L) H := hP
    refine lv_aload_n hx hb dX7_endsAs_85 rfl (lv_at hl 2 rfl) ?_
    refine vgC hx hb hts hi7 hown hK hP (318) (by decide) (show kd 318 = 7 by decide) (C := RX7) (T := TX7) (N := 79) rfl 44 (by decide) (by decide) (by decide) (by decide) (350) rfl (hts (.fieldLink RX7 111 "CrateHelpersModel" "toldAt" "[I") (by decide +kernel)) (fun _ h9 => h9) dX7_endsAs_86 ?_
    refine lv_bipush (v := 6) hx hb dX7_endsAs_89 (by decide) ?_
    refine lv_iload_n hx hb dX7_endsAs_91 rfl (lv_at hl 3 rfl) ?_
    refine lv_imul hx hb dX7_endsAs_92 ?_
    refine lv_iconst (v := 4) hx hb dX7_endsAs_93 (by decide) ?_
    refine lv_iadd hx hb dX7_endsAs_94 ?_
    refine lv_iload_n hx hb dX7_endsAs_95 rfl (lv_at hl 4 rfl) ?_
    refine lv_iconst (v := 1) hx hb dX7_endsAs_96 (by decide) ?_
    obtain ⟨j16, ej16, h⟩ := bd_e h
    have kj16 : ∀ (z15 : Int32), j16 z15 = some (I0, A0) → ∀ (H : Heap) (locs : List Loc), va_P D vwCl (VW K ad I G A13 L) H → va_S (vF ad s.heap.size) s.heap H locs → ∀ (ls : Array Slot), lv_has ls 8 [(4, .int z4), (3, .int r1), (0, .ref (ad 318)), (1, .int a1), (2, .int a2)] → W p l e ({ frames := 2, cells := 0, slots := 0, locals := 51 }) s m ([.ref (ad 318), .int a1, .int a2] : List Value).toArray below meth c H locs 0 0 (MQ below (va_Qv (fun (u : Mem) => u = (I0, G, A0, L)) (vB D K ad) (vF ad s.heap.size)) ([.ref (ad 318), .int a1, .int a2] : List Value).toArray s 0 0 (vF ad s.heap.size)) (F0 m 112 ls [.int z15, .int ((6 * a1) + 4), .ref (ad 350)]) := by
      intro z15 h H locs hP hS ls hl
      subst ej16
      obtain ⟨hn17, h⟩ := gk h
      refine xiast hx hb hK hP hap hS (350) (by decide) (show kd 350 = 8 by decide) (by rw [show ln 350 = 30 by decide]; exact hn17) dX7_endsAs_112 (fun H locs hP hS => ?_)
      obtain ⟨A18, eA18, h⟩ := bd_e h
      rw [← eA18] at hP
      have hP : va_P D vwCl (VW K ad I G A18 L) H := hP
      refine lv_aload_n hx hb dX7_endsAs_113 rfl (lv_at hl 2 rfl) ?_
      refine vgC hx hb hts hi7 hown hK hP (318) (by decide) (show kd 318 = 7 by decide) (C := RX7) (T := TX7) (N := 79) rfl 44 (by decide) (by decide) (by decide) (by decide) (350) rfl (hts (.fieldLink RX7 111 "CrateHelpersModel" "toldAt" "[I") (by decide +kernel)) (fun _ h9 => h9) dX7_endsAs_114 ?_
      refine lv_bipush (v := 6) hx hb dX7_endsAs_117 (by decide) ?_
      refine lv_iload_n hx hb dX7_endsAs_119 rfl (lv_at hl 3 rfl) ?_
      refine lv_imul hx hb dX7_endsAs_120 ?_
      refine lv_iconst (v := 5) hx hb dX7_endsAs_121 (by decide) ?_
      refine lv_iadd hx hb dX7_endsAs_122 ?_
      refine lv_iload_n hx hb dX7_endsAs_123 rfl (lv_at hl 4 rfl) ?_
      refine lv_iconst (v := 1) hx hb dX7_endsAs_124 (by decide) ?_
      obtain ⟨j23, ej23, h⟩ := bd_e h
      have kj23 : ∀ (z22 : Int32), j23 z22 = some (I0, A0) → ∀ (H : Heap) (locs : List Loc), va_P D vwCl (VW K ad I G A18 L) H → va_S (vF ad s.heap.size) s.heap H locs → ∀ (ls : Array Slot), lv_has ls 8 [(4, .int z4), (0, .ref (ad 318)), (1, .int a1), (2, .int a2)] → W p l e ({ frames := 2, cells := 0, slots := 0, locals := 51 }) s m ([.ref (ad 318), .int a1, .int a2] : List Value).toArray below meth c H locs 0 0 (MQ below (va_Qv (fun (u : Mem) => u = (I0, G, A0, L)) (vB D K ad) (vF ad s.heap.size)) ([.ref (ad 318), .int a1, .int a2] : List Value).toArray s 0 0 (vF ad s.heap.size)) (F0 m 155 ls [.int z22, .int ((6 * a1) + 5), .ref (ad 350)]) := by
        intro z22 h H locs hP hS ls hl
        subst ej23
        obtain ⟨hn24, h⟩ := gk h
        refine xiast hx hb hK hP hap hS (350) (by decide) (show kd 350 = 8 by decide) (by rw [show ln 350 = 30 by decide]; exact hn24) dX7_endsAs_155 (fun H locs hP hS => ?_)
        obtain ⟨A25, eA25, h⟩ := bd_e h
        rw [← eA25] at hP
        have hP : va_P D vwCl (VW K ad I G A25 L) H := hP
        refine lv_aload_n hx hb dX7_endsAs_156 rfl (lv_at hl 1 rfl) ?_
        refine vgC hx hb hts hi7 hown hK hP (318) (by decide) (show kd 318 = 7 by decide) (C := RX7) (T := TX7) (N := 79) rfl 45 (by decide) (by decide) (by decide) (by decide) (351) rfl (hts (.fieldLink RX7 114 "CrateHelpersModel" "isTold" "[Z") (by decide +kernel)) (fun _ h9 => h9) dX7_endsAs_157 ?_
        refine lv_iload_n hx hb dX7_endsAs_160 rfl (lv_at hl 2 rfl) ?_
        refine lv_iconst (v := 1) hx hb dX7_endsAs_161 (by decide) ?_
        obtain ⟨hn26, h⟩ := gk h
        refine xzast hx hb hK hP hap hS (351) (by decide) (show kd 351 = 11 by decide) (by rw [show ln 351 = 5 by decide]; exact hn26) dX7_endsAs_162 (fun H locs hP hS => ?_)
        obtain ⟨A27, eA27, h⟩ := bd_e h
        rw [← eA27] at hP
        have hP : va_P D vwCl (VW K ad I G A27 L) H := hP
        refine lv_aload_n hx hb dX7_endsAs_163 rfl (lv_at hl 1 rfl) ?_
        refine vgC hx hb hts hi7 hown hK hP (318) (by decide) (show kd 318 = 7 by decide) (C := RX7) (T := TX7) (N := 79) rfl 46 (by decide) (by decide) (by decide) (by decide) (352) rfl (hts (.fieldLink RX7 117 "CrateHelpersModel" "hasAnswer" "[Z") (by decide +kernel)) (fun _ h9 => h9) dX7_endsAs_164 ?_
        refine lv_iload_n hx hb dX7_endsAs_167 rfl (lv_at hl 2 rfl) ?_
        refine lv_iload_n hx hb dX7_endsAs_168 rfl (lv_at hl 3 rfl) ?_
        refine lv_iconst (v := 1) hx hb dX7_endsAs_169 (by decide) ?_
        obtain ⟨j29, ej29, h⟩ := bd_e h
        have kj29 : ∀ (z28 : Int32), j29 z28 = some (I0, A0) → ∀ (H : Heap) (locs : List Loc), va_P D vwCl (VW K ad I G A27 L) H → va_S (vF ad s.heap.size) s.heap H locs → ∀ (ls : Array Slot), lv_has ls 8 [(4, .int z4), (0, .ref (ad 318)), (1, .int a1), (2, .int a2)] → W p l e ({ frames := 2, cells := 0, slots := 0, locals := 51 }) s m ([.ref (ad 318), .int a1, .int a2] : List Value).toArray below meth c H locs 0 0 (MQ below (va_Qv (fun (u : Mem) => u = (I0, G, A0, L)) (vB D K ad) (vF ad s.heap.size)) ([.ref (ad 318), .int a1, .int a2] : List Value).toArray s 0 0 (vF ad s.heap.size)) (F0 m 178 ls [.int z28, .int a1, .ref (ad 352)]) := by
          intro z28 h H locs hP hS ls hl
          subst ej29
          refine xzast hx hb hK hP hap hS (352) (by decide) (show kd 352 = 11 by decide) (by rw [show ln 352 = 5 by decide]; exact hn26) dX7_endsAs_178 (fun H locs hP hS => ?_)
          obtain ⟨A30, eA30, h⟩ := bd_e h
          rw [← eA30] at hP
          have hP : va_P D vwCl (VW K ad I G A30 L) H := hP
          refine lv_iload_n hx hb dX7_endsAs_179 rfl (lv_at hl 3 rfl) ?_
          refine lv_iconst (v := 1) hx hb dX7_endsAs_180 (by decide) ?_
          obtain ⟨j41, ej41, h⟩ := bd_e h
          have kj41 : ∀ (A40 : Nat → Nat → Int32), j41 A40 = some (I0, A0) → ∀ (H : Heap) (locs : List Loc), va_P D vwCl (VW K ad I G A40 L) H → va_S (vF ad s.heap.size) s.heap H locs → ∀ (ls : Array Slot), lv_has ls 8 [(0, .ref (ad 318)), (1, .int a1)] → W p l e ({ frames := 2, cells := 0, slots := 0, locals := 51 }) s m ([.ref (ad 318), .int a1, .int a2] : List Value).toArray below meth c H locs 0 0 (MQ below (va_Qv (fun (u : Mem) => u = (I0, G, A0, L)) (vB D K ad) (vF ad s.heap.size)) ([.ref (ad 318), .int a1, .int a2] : List Value).toArray s 0 0 (vF ad s.heap.size)) (F0 m 225 ls []) := by
            intro A40 h H locs hP hS ls hl
            subst ej41
            refine lv_aload_n hx hb dX7_endsAs_225 rfl (lv_at hl 0 rfl) ?_
            refine lv_aload_n hx hb dX7_endsAs_226 rfl (lv_at hl 0 rfl) ?_
            refine vgI hx hb hts hi7 hown hK hP (318) (by decide) (show kd 318 = 7 by decide) (C := RX7) (T := TX7) (N := 79) rfl 31 (by decide) (by decide) (by decide) (by decide) (hts (.fieldLink RX7 303 "CrateHelpersModel" "taken" "I") (by decide +kernel)) (fun _ h9 => h9) dX7_endsAs_227 ?_
            refine vpI (v := (I 318 31)) (ty := .int) hx hb hts hi7 tyX7 tyX7_ok nmX7 hown hK hP hap hS (318) (by decide) (show kd 318 = 7 by decide) (C := RX7) (T := TX7) (N := 79) rfl 48 (by decide) (by decide) (by decide) (by decide) (hts (.fieldLink RX7 313 "CrateHelpersModel" "walked" "I") (by decide +kernel)) (fun _ h9 => h9) rfl (by decide +kernel) rfl rfl dX7_endsAs_230 (fun H locs hP hS => ?_)
            obtain ⟨I42, eI42, h⟩ := bd_e h
            rw [← eI42] at hP
            have hP : va_P D vwCl (VW K ad I42 G A40 L) H := hP
            refine lv_iconst (v := 0) hx hb dX7_endsAs_233 (by decide) ?_
            refine lv_istore (lv' := [(5, .int 0), (0, .ref (ad 318)), (1, .int a1)]) hx hb dX7_endsAs_234 hl (by decide) rfl (fun ls hl => ?_)
            obtain ⟨k46, ek46, h⟩ := bd_e h
            have kk46 : ∀ (A47 : Nat → Nat → Int32), k46 A47 = some (I0, A0) → ∀ (H : Heap) (locs : List Loc), va_P D vwCl (VW K ad I42 G A47 L) H → va_S (vF ad s.heap.size) s.heap H locs → ∀ (ls : Array Slot), lv_has ls 8 [(0, .ref (ad 318))] → W p l e ({ frames := 2, cells := 0, slots := 0, locals := 51 }) s m ([.ref (ad 318), .int a1, .int a2] : List Value).toArray below meth c H locs 0 0 (MQ below (va_Qv (fun (u : Mem) => u = (I0, G, A0, L)) (vB D K ad) (vF ad s.heap.size)) ([.ref (ad 318), .int a1, .int a2] : List Value).toArray s 0 0 (vF ad s.heap.size)) (F0 m 454 ls []) := by
              intro A47 h H locs hP hS ls hl
              subst ek46
              refine lv_aload_n hx hb dX7_endsAs_454 rfl (lv_at hl 0 rfl) ?_
              refine lv_bipush (v := (-9)) hx hb dX7_endsAs_455 (by decide) ?_
              refine vpI (v := (-9)) (ty := .int) hx hb hts hi7 tyX7 tyX7_ok nmX7 hown hK hP hap hS (318) (by decide) (show kd 318 = 7 by decide) (C := RX7) (T := TX7) (N := 79) rfl 23 (by decide) (by decide) (by decide) (by decide) (hts (.fieldLink RX7 62 "CrateHelpersModel" "under" "I") (by decide +kernel)) (fun _ h9 => h9) rfl (by decide +kernel) rfl rfl dX7_endsAs_457 (fun H locs hP hS => ?_)
              obtain ⟨I48, eI48, h⟩ := bd_e h
              rw [← eI48] at hP
              have hP : va_P D vwCl (VW K ad I48 G A47 L) H := hP
              exact W.vret hx hb hr (fun t9 ht9 hW9 => ⟨⟨(I48, G, A47, L), rfl, by cases h; rfl, by rw [ht9]; exact hP, va_K.moved hW9.alike hK⟩, hS.F ht9⟩) hS.2.2 dX7_endsAs_460
            have lp43 : ∀ (n : Nat) (v44 : Int32) (A45 : Nat → Nat → Int32), f_X7_endsAs_L236 a1 I42 k46 n v44 A45 = some (I0, A0) → ∀ (H : Heap) (locs : List Loc), va_P D vwCl (VW K ad I42 G A45 L) H → va_S (vF ad s.heap.size) s.heap H locs → ∀ (ls : Array Slot), lv_has ls 8 [(5, .int v44), (0, .ref (ad 318)), (1, .int a1)] → W p l e ({ frames := 2, cells := 0, slots := 0, locals := 51 }) s m ([.ref (ad 318), .int a1, .int a2] : List Value).toArray below meth c H locs 0 0 (MQ below (va_Qv (fun (u : Mem) => u = (I0, G, A0, L)) (vB D K ad) (vF ad s.heap.size)) ([.ref (ad 318), .int a1, .int a2] : List Value).toArray s 0 0 (vF ad s.heap.size)) (F0 m 236 ls []) := by
              intro n
              induction n with
              | zero => intro v44 A45 h; exact absurd h (by rw [f_X7_endsAs_L236]; exact nofun)
              | succ n ih43 =>
                intro v44 A45 h H locs hP hS ls hl
                rw [f_X7_endsAs_L236] at h
                refine lv_iload hx hb dX7_endsAs_236 (lv_at hl 0 rfl) ?_
                refine lv_aload_n hx hb dX7_endsAs_238 rfl (lv_at hl 1 rfl) ?_
                refine vgI hx hb hts hi7 hown hK hP (318) (by decide) (show kd 318 = 7 by decide) (C := RX7) (T := TX7) (N := 79) rfl 31 (by decide) (by decide) (by decide) (by decide) (hts (.fieldLink RX7 303 "CrateHelpersModel" "taken" "I") (by decide +kernel)) (fun _ h9 => h9) dX7_endsAs_239 ?_
                refine lv_icmp_ge (tgt := 454) hx hb dX7_endsAs_242 (by decide) (fun c_49 => ?_) (fun c_49 => ?_)
                · have h := iN (Int32.not_lt.mpr c_49) h
                  exact kk46 A45 h _ _ hP hS ls (lv_sub hl [1] rfl)
                · have h := ip (Int32.not_le.mp c_49) h
                  refine lv_aload_n hx hb dX7_endsAs_245 rfl (lv_at hl 1 rfl) ?_
                  refine vgC hx hb hts hi7 hown hK hP (318) (by decide) (show kd 318 = 7 by decide) (C := RX7) (T := TX7) (N := 79) rfl 40 (by decide) (by decide) (by decide) (by decide) (346) rfl (hts (.fieldLink RX7 99 "CrateHelpersModel" "order" "[I") (by decide +kernel)) (fun _ h9 => h9) dX7_endsAs_246 ?_
                  refine lv_iload hx hb dX7_endsAs_249 (lv_at hl 0 rfl) ?_
                  obtain ⟨hn50, h⟩ := gk h
                  refine xiald hx hb hK hP (346) (by decide) (show kd 346 = 8 by decide) (by rw [show ln 346 = 250 by decide]; exact hn50) dX7_endsAs_251 ?_
                  refine lv_istore (lv' := [(6, .int (A45 346 v44.toNatClampNeg)), (5, .int v44), (0, .ref (ad 318)), (1, .int a1)]) hx hb dX7_endsAs_252 hl (by decide) rfl (fun ls hl => ?_)
                  refine lv_aload_n hx hb dX7_endsAs_254 rfl (lv_at hl 2 rfl) ?_
                  refine vgC hx hb hts hi7 hown hK hP (318) (by decide) (show kd 318 = 7 by decide) (C := RX7) (T := TX7) (N := 79) rfl 49 (by decide) (by decide) (by decide) (by decide) (354) rfl (hts (.fieldLink RX7 123 "CrateHelpersModel" "walkedDepth" "[I") (by decide +kernel)) (fun _ h9 => h9) dX7_endsAs_255 ?_
                  refine lv_iload hx hb dX7_endsAs_258 (lv_at hl 1 rfl) ?_
                  refine lv_aload_n hx hb dX7_endsAs_260 rfl (lv_at hl 2 rfl) ?_
                  refine vgC hx hb hts hi7 hown hK hP (318) (by decide) (show kd 318 = 7 by decide) (C := RX7) (T := TX7) (N := 79) rfl 32 (by decide) (by decide) (by decide) (by decide) (338) rfl (hts (.fieldLink RX7 74 "CrateHelpersModel" "depth" "[I") (by decide +kernel)) (fun _ h9 => h9) dX7_endsAs_261 ?_
                  refine lv_iload hx hb dX7_endsAs_264 (lv_at hl 0 rfl) ?_
                  obtain ⟨hn51, h⟩ := gk h
                  refine xiald hx hb hK hP (338) (by decide) (show kd 338 = 8 by decide) (by rw [show ln 338 = 2000 by decide]; exact hn51) dX7_endsAs_266 ?_
                  refine xiast hx hb hK hP hap hS (354) (by decide) (show kd 354 = 8 by decide) (by rw [show ln 354 = 250 by decide]; exact hn50) dX7_endsAs_267 (fun H locs hP hS => ?_)
                  obtain ⟨A52, eA52, h⟩ := bd_e h
                  rw [← eA52] at hP
                  have hP : va_P D vwCl (VW K ad I42 G A52 L) H := hP
                  refine lv_aload_n hx hb dX7_endsAs_268 rfl (lv_at hl 2 rfl) ?_
                  refine vgC hx hb hts hi7 hown hK hP (318) (by decide) (show kd 318 = 7 by decide) (C := RX7) (T := TX7) (N := 79) rfl 51 (by decide) (by decide) (by decide) (by decide) (356) rfl (hts (.fieldLink RX7 129 "CrateHelpersModel" "walkedBound" "[I") (by decide +kernel)) (fun _ h9 => h9) dX7_endsAs_269 ?_
                  refine lv_iload hx hb dX7_endsAs_272 (lv_at hl 1 rfl) ?_
                  refine lv_aload_n hx hb dX7_endsAs_274 rfl (lv_at hl 2 rfl) ?_
                  refine vgC hx hb hts hi7 hown hK hP (318) (by decide) (show kd 318 = 7 by decide) (C := RX7) (T := TX7) (N := 79) rfl 35 (by decide) (by decide) (by decide) (by decide) (341) rfl (hts (.fieldLink RX7 83 "CrateHelpersModel" "bound" "[I") (by decide +kernel)) (fun _ h9 => h9) dX7_endsAs_275 ?_
                  refine lv_iload hx hb dX7_endsAs_278 (lv_at hl 0 rfl) ?_
                  refine xiald hx hb hK hP (341) (by decide) (show kd 341 = 8 by decide) (by rw [show ln 341 = 2000 by decide]; exact hn51) dX7_endsAs_280 ?_
                  refine xiast hx hb hK hP hap hS (356) (by decide) (show kd 356 = 8 by decide) (by rw [show ln 356 = 250 by decide]; exact hn50) dX7_endsAs_281 (fun H locs hP hS => ?_)
                  obtain ⟨A53, eA53, h⟩ := bd_e h
                  rw [← eA53] at hP
                  have hP : va_P D vwCl (VW K ad I42 G A53 L) H := hP
                  refine lv_aload_n hx hb dX7_endsAs_282 rfl (lv_at hl 2 rfl) ?_
                  refine vgC hx hb hts hi7 hown hK hP (318) (by decide) (show kd 318 = 7 by decide) (C := RX7) (T := TX7) (N := 79) rfl 52 (by decide) (by decide) (by decide) (by decide) (357) rfl (hts (.fieldLink RX7 132 "CrateHelpersModel" "walkedBy" "[I") (by decide +kernel)) (fun _ h9 => h9) dX7_endsAs_283 ?_
                  refine lv_iload hx hb dX7_endsAs_286 (lv_at hl 1 rfl) ?_
                  refine lv_aload_n hx hb dX7_endsAs_288 rfl (lv_at hl 2 rfl) ?_
                  refine vgC hx hb hts hi7 hown hK hP (318) (by decide) (show kd 318 = 7 by decide) (C := RX7) (T := TX7) (N := 79) rfl 37 (by decide) (by decide) (by decide) (by decide) (343) rfl (hts (.fieldLink RX7 89 "CrateHelpersModel" "holder" "[I") (by decide +kernel)) (fun _ h9 => h9) dX7_endsAs_289 ?_
                  refine lv_iload hx hb dX7_endsAs_292 (lv_at hl 0 rfl) ?_
                  refine xiald hx hb hK hP (343) (by decide) (show kd 343 = 8 by decide) (by rw [show ln 343 = 2000 by decide]; exact hn51) dX7_endsAs_294 ?_
                  refine xiast hx hb hK hP hap hS (357) (by decide) (show kd 357 = 8 by decide) (by rw [show ln 357 = 250 by decide]; exact hn50) dX7_endsAs_295 (fun H locs hP hS => ?_)
                  obtain ⟨A54, eA54, h⟩ := bd_e h
                  rw [← eA54] at hP
                  have hP : va_P D vwCl (VW K ad I42 G A54 L) H := hP
                  refine lv_aload_n hx hb dX7_endsAs_296 rfl (lv_at hl 2 rfl) ?_
                  refine vgC hx hb hts hi7 hown hK hP (318) (by decide) (show kd 318 = 7 by decide) (C := RX7) (T := TX7) (N := 79) rfl 53 (by decide) (by decide) (by decide) (by decide) (358) rfl (hts (.fieldLink RX7 135 "CrateHelpersModel" "walkedOpen" "[I") (by decide +kernel)) (fun _ h9 => h9) dX7_endsAs_297 ?_
                  refine lv_iload hx hb dX7_endsAs_300 (lv_at hl 1 rfl) ?_
                  refine lv_aload_n hx hb dX7_endsAs_302 rfl (lv_at hl 2 rfl) ?_
                  refine vgC hx hb hts hi7 hown hK hP (318) (by decide) (show kd 318 = 7 by decide) (C := RX7) (T := TX7) (N := 79) rfl 43 (by decide) (by decide) (by decide) (by decide) (349) rfl (hts (.fieldLink RX7 108 "CrateHelpersModel" "openBelow" "[I") (by decide +kernel)) (fun _ h9 => h9) dX7_endsAs_303 ?_
                  refine lv_iload hx hb dX7_endsAs_306 (lv_at hl 0 rfl) ?_
                  refine xiald hx hb hK hP (349) (by decide) (show kd 349 = 8 by decide) (by rw [show ln 349 = 2000 by decide]; exact hn51) dX7_endsAs_308 ?_
                  refine xiast hx hb hK hP hap hS (358) (by decide) (show kd 358 = 8 by decide) (by rw [show ln 358 = 250 by decide]; exact hn50) dX7_endsAs_309 (fun H locs hP hS => ?_)
                  obtain ⟨A55, eA55, h⟩ := bd_e h
                  rw [← eA55] at hP
                  have hP : va_P D vwCl (VW K ad I42 G A55 L) H := hP
                  refine lv_aload_n hx hb dX7_endsAs_310 rfl (lv_at hl 2 rfl) ?_
                  refine vgC hx hb hts hi7 hown hK hP (318) (by decide) (show kd 318 = 7 by decide) (C := RX7) (T := TX7) (N := 79) rfl 54 (by decide) (by decide) (by decide) (by decide) (359) rfl (hts (.fieldLink RX7 138 "CrateHelpersModel" "walkedValues" "[I") (by decide +kernel)) (fun _ h9 => h9) dX7_endsAs_311 ?_
                  refine lv_iload hx hb dX7_endsAs_314 (lv_at hl 1 rfl) ?_
                  refine lv_aload_n hx hb dX7_endsAs_316 rfl (lv_at hl 2 rfl) ?_
                  refine vgC hx hb hts hi7 hown hK hP (318) (by decide) (show kd 318 = 7 by decide) (C := RX7) (T := TX7) (N := 79) rfl 32 (by decide) (by decide) (by decide) (by decide) (338) rfl (hts (.fieldLink RX7 74 "CrateHelpersModel" "depth" "[I") (by decide +kernel)) (fun _ h9 => h9) dX7_endsAs_317 ?_
                  refine lv_iload hx hb dX7_endsAs_320 (lv_at hl 0 rfl) ?_
                  refine xiald hx hb hK hP (338) (by decide) (show kd 338 = 8 by decide) (by rw [show ln 338 = 2000 by decide]; exact hn51) dX7_endsAs_322 ?_
                  refine lv_aload_n hx hb dX7_endsAs_323 rfl (lv_at hl 2 rfl) ?_
                  refine vgC hx hb hts hi7 hown hK hP (318) (by decide) (show kd 318 = 7 by decide) (C := RX7) (T := TX7) (N := 79) rfl 3 (by decide) (by decide) (by decide) (by decide) (319) rfl (hts (.fieldLink RX7 7 "CrateHelpersModel" "variables" "[I") (by decide +kernel)) (fun _ h9 => h9) dX7_endsAs_324 ?_
                  refine lv_iload_n hx hb dX7_endsAs_327 rfl (lv_at hl 3 rfl) ?_
                  refine xiald hx hb hK hP (319) (by decide) (show kd 319 = 8 by decide) (by rw [show ln 319 = 5 by decide]; exact hn26) dX7_endsAs_328 ?_
                  obtain ⟨j58, ej58, h⟩ := bd_e h
                  have kj58 : ∀ (z57 : Int32), j58 z57 = some (I0, A0) → ∀ (H : Heap) (locs : List Loc), va_P D vwCl (VW K ad I42 G A55 L) H → va_S (vF ad s.heap.size) s.heap H locs → ∀ (ls : Array Slot), lv_has ls 8 [(6, .int (A45 346 v44.toNatClampNeg)), (5, .int v44), (0, .ref (ad 318)), (1, .int a1)] → W p l e ({ frames := 2, cells := 0, slots := 0, locals := 51 }) s m ([.ref (ad 318), .int a1, .int a2] : List Value).toArray below meth c H locs 0 0 (MQ below (va_Qv (fun (u : Mem) => u = (I0, G, A0, L)) (vB D K ad) (vF ad s.heap.size)) ([.ref (ad 318), .int a1, .int a2] : List Value).toArray s 0 0 (vF ad s.heap.size)) (F0 m 353 ls [.int z57, .int v44, .ref (ad 359)]) := by
                    intro z57 h H locs hP hS ls hl
                    subst ej58
                    refine xiast hx hb hK hP hap hS (359) (by decide) (show kd 359 = 8 by decide) (by rw [show ln 359 = 250 by decide]; exact hn50) dX7_endsAs_353 (fun H locs hP hS => ?_)
                    obtain ⟨A59, eA59, h⟩ := bd_e h
                    rw [← eA59] at hP
                    have hP : va_P D vwCl (VW K ad I42 G A59 L) H := hP
                    refine lv_iconst (v := 0) hx hb dX7_endsAs_354 (by decide) ?_
                    refine lv_istore (lv' := [(7, .int 0), (6, .int (A45 346 v44.toNatClampNeg)), (5, .int v44), (0, .ref (ad 318)), (1, .int a1)]) hx hb dX7_endsAs_355 hl (by decide) rfl (fun ls hl => ?_)
                    obtain ⟨k64, ek64, h⟩ := bd_e h
                    have kk64 : ∀ (A65 : Nat → Nat → Int32), k64 A65 = some (I0, A0) → ∀ (H : Heap) (locs : List Loc), va_P D vwCl (VW K ad I42 G A65 L) H → va_S (vF ad s.heap.size) s.heap H locs → ∀ (ls : Array Slot), lv_has ls 8 [(0, .ref (ad 318)), (1, .int a1), (5, .int v44)] → W p l e ({ frames := 2, cells := 0, slots := 0, locals := 51 }) s m ([.ref (ad 318), .int a1, .int a2] : List Value).toArray below meth c H locs 0 0 (MQ below (va_Qv (fun (u : Mem) => u = (I0, G, A0, L)) (vB D K ad) (vF ad s.heap.size)) ([.ref (ad 318), .int a1, .int a2] : List Value).toArray s 0 0 (vF ad s.heap.size)) (F0 m 448 ls []) := by
                      intro A65 h H locs hP hS ls hl
                      subst ek64
                      refine lv_iinc (v := (v44 + 1)) (lv' := [(5, .int (v44 + 1)), (0, .ref (ad 318)), (1, .int a1)]) hx hb dX7_endsAs_448 hl (k := 2) rfl rfl (by decide) rfl (fun ls hl => ?_)
                      refine lv_goto (tgt := 236) hx hb dX7_endsAs_451 (by decide) ?_
                      exact ih43 (v44 + 1) A65 h _ _ hP hS ls (lv_sub hl [0, 1, 2] rfl)
                    have lp60 : ∀ (n : Nat) (v61 : Int32) (v62 : Int32) (A63 : Nat → Nat → Int32), f_X7_endsAs_L357 v44 a1 I42 k64 n v61 v62 A63 = some (I0, A0) → ∀ (H : Heap) (locs : List Loc), va_P D vwCl (VW K ad I42 G A63 L) H → va_S (vF ad s.heap.size) s.heap H locs → ∀ (ls : Array Slot), lv_has ls 8 [(7, .int v61), (6, .int v62), (5, .int v44), (0, .ref (ad 318)), (1, .int a1)] → W p l e ({ frames := 2, cells := 0, slots := 0, locals := 51 }) s m ([.ref (ad 318), .int a1, .int a2] : List Value).toArray below meth c H locs 0 0 (MQ below (va_Qv (fun (u : Mem) => u = (I0, G, A0, L)) (vB D K ad) (vF ad s.heap.size)) ([.ref (ad 318), .int a1, .int a2] : List Value).toArray s 0 0 (vF ad s.heap.size)) (F0 m 357 ls []) := by
                      intro n
                      induction n with
                      | zero => intro v61 v62 A63 h; exact absurd h (by rw [f_X7_endsAs_L357]; exact nofun)
                      | succ n ih60 =>
                        intro v61 v62 A63 h H locs hP hS ls hl
                        rw [f_X7_endsAs_L357] at h
                        refine lv_iload hx hb dX7_endsAs_357 (lv_at hl 0 rfl) ?_
                        refine lv_bipush (v := 6) hx hb dX7_endsAs_359 (by decide) ?_
                        refine lv_icmp_ge (tgt := 448) hx hb dX7_endsAs_361 (by decide) (fun c_66 => ?_) (fun c_66 => ?_)
                        · have h := iN (Int32.not_lt.mpr c_66) h
                          exact kk64 A63 h _ _ hP hS ls (lv_sub hl [3, 4, 2] rfl)
                        · have h := ip (Int32.not_le.mp c_66) h
                          refine lv_aload_n hx hb dX7_endsAs_364 rfl (lv_at hl 3 rfl) ?_
                          refine vgC hx hb hts hi7 hown hK hP (318) (by decide) (show kd 318 = 7 by decide) (C := RX7) (T := TX7) (N := 79) rfl 50 (by decide) (by decide) (by decide) (by decide) (355) rfl (hts (.fieldLink RX7 126 "CrateHelpersModel" "walkedRow" "[I") (by decide +kernel)) (fun _ h9 => h9) dX7_endsAs_365 ?_
                          refine lv_bipush (v := 6) hx hb dX7_endsAs_368 (by decide) ?_
                          refine lv_iload hx hb dX7_endsAs_370 (lv_at hl 2 rfl) ?_
                          refine lv_imul hx hb dX7_endsAs_372 ?_
                          refine lv_iload hx hb dX7_endsAs_373 (lv_at hl 0 rfl) ?_
                          refine lv_iadd hx hb dX7_endsAs_375 ?_
                          refine lv_aload_n hx hb dX7_endsAs_376 rfl (lv_at hl 3 rfl) ?_
                          refine vgC hx hb hts hi7 hown hK hP (318) (by decide) (show kd 318 = 7 by decide) (C := RX7) (T := TX7) (N := 79) rfl 33 (by decide) (by decide) (by decide) (by decide) (339) rfl (hts (.fieldLink RX7 77 "CrateHelpersModel" "row" "[I") (by decide +kernel)) (fun _ h9 => h9) dX7_endsAs_377 ?_
                          refine lv_bipush (v := 6) hx hb dX7_endsAs_380 (by decide) ?_
                          refine lv_iload hx hb dX7_endsAs_382 (lv_at hl 1 rfl) ?_
                          refine lv_imul hx hb dX7_endsAs_384 ?_
                          refine lv_iload hx hb dX7_endsAs_385 (lv_at hl 0 rfl) ?_
                          refine lv_iadd hx hb dX7_endsAs_387 ?_
                          obtain ⟨hn67, h⟩ := gk h
                          refine xiald hx hb hK hP (339) (by decide) (show kd 339 = 8 by decide) (by rw [show ln 339 = 12000 by decide]; exact hn67) dX7_endsAs_388 ?_
                          obtain ⟨hn68, h⟩ := gk h
                          refine xiast hx hb hK hP hap hS (355) (by decide) (show kd 355 = 8 by decide) (by rw [show ln 355 = 1500 by decide]; exact hn68) dX7_endsAs_389 (fun H locs hP hS => ?_)
                          obtain ⟨A69, eA69, h⟩ := bd_e h
                          rw [← eA69] at hP
                          have hP : va_P D vwCl (VW K ad I42 G A69 L) H := hP
                          refine lv_aload_n hx hb dX7_endsAs_390 rfl (lv_at hl 3 rfl) ?_
                          refine vgC hx hb hts hi7 hown hK hP (318) (by decide) (show kd 318 = 7 by decide) (C := RX7) (T := TX7) (N := 79) rfl 55 (by decide) (by decide) (by decide) (by decide) (360) rfl (hts (.fieldLink RX7 141 "CrateHelpersModel" "walkedClosing" "[I") (by decide +kernel)) (fun _ h9 => h9) dX7_endsAs_391 ?_
                          refine lv_bipush (v := 6) hx hb dX7_endsAs_394 (by decide) ?_
                          refine lv_iload hx hb dX7_endsAs_396 (lv_at hl 2 rfl) ?_
                          refine lv_imul hx hb dX7_endsAs_398 ?_
                          refine lv_iload hx hb dX7_endsAs_399 (lv_at hl 0 rfl) ?_
                          refine lv_iadd hx hb dX7_endsAs_401 ?_
                          refine lv_aload_n hx hb dX7_endsAs_402 rfl (lv_at hl 3 rfl) ?_
                          refine vgC hx hb hts hi7 hown hK hP (318) (by decide) (show kd 318 = 7 by decide) (C := RX7) (T := TX7) (N := 79) rfl 41 (by decide) (by decide) (by decide) (by decide) (347) rfl (hts (.fieldLink RX7 102 "CrateHelpersModel" "closing" "[I") (by decide +kernel)) (fun _ h9 => h9) dX7_endsAs_403 ?_
                          refine lv_bipush (v := 6) hx hb dX7_endsAs_406 (by decide) ?_
                          refine lv_iload hx hb dX7_endsAs_408 (lv_at hl 1 rfl) ?_
                          refine lv_imul hx hb dX7_endsAs_410 ?_
                          refine lv_iload hx hb dX7_endsAs_411 (lv_at hl 0 rfl) ?_
                          refine lv_iadd hx hb dX7_endsAs_413 ?_
                          refine xiald hx hb hK hP (347) (by decide) (show kd 347 = 8 by decide) (by rw [show ln 347 = 12000 by decide]; exact hn67) dX7_endsAs_414 ?_
                          refine xiast hx hb hK hP hap hS (360) (by decide) (show kd 360 = 8 by decide) (by rw [show ln 360 = 1500 by decide]; exact hn68) dX7_endsAs_415 (fun H locs hP hS => ?_)
                          obtain ⟨A70, eA70, h⟩ := bd_e h
                          rw [← eA70] at hP
                          have hP : va_P D vwCl (VW K ad I42 G A70 L) H := hP
                          refine lv_aload_n hx hb dX7_endsAs_416 rfl (lv_at hl 3 rfl) ?_
                          refine vgC hx hb hts hi7 hown hK hP (318) (by decide) (show kd 318 = 7 by decide) (C := RX7) (T := TX7) (N := 79) rfl 56 (by decide) (by decide) (by decide) (by decide) (361) rfl (hts (.fieldLink RX7 144 "CrateHelpersModel" "walkedReason" "[I") (by decide +kernel)) (fun _ h9 => h9) dX7_endsAs_417 ?_
                          refine lv_bipush (v := 6) hx hb dX7_endsAs_420 (by decide) ?_
                          refine lv_iload hx hb dX7_endsAs_422 (lv_at hl 2 rfl) ?_
                          refine lv_imul hx hb dX7_endsAs_424 ?_
                          refine lv_iload hx hb dX7_endsAs_425 (lv_at hl 0 rfl) ?_
                          refine lv_iadd hx hb dX7_endsAs_427 ?_
                          refine lv_aload_n hx hb dX7_endsAs_428 rfl (lv_at hl 3 rfl) ?_
                          refine vgC hx hb hts hi7 hown hK hP (318) (by decide) (show kd 318 = 7 by decide) (C := RX7) (T := TX7) (N := 79) rfl 42 (by decide) (by decide) (by decide) (by decide) (348) rfl (hts (.fieldLink RX7 105 "CrateHelpersModel" "reason" "[I") (by decide +kernel)) (fun _ h9 => h9) dX7_endsAs_429 ?_
                          refine lv_bipush (v := 6) hx hb dX7_endsAs_432 (by decide) ?_
                          refine lv_iload hx hb dX7_endsAs_434 (lv_at hl 1 rfl) ?_
                          refine lv_imul hx hb dX7_endsAs_436 ?_
                          refine lv_iload hx hb dX7_endsAs_437 (lv_at hl 0 rfl) ?_
                          refine lv_iadd hx hb dX7_endsAs_439 ?_
                          refine xiald hx hb hK hP (348) (by decide) (show kd 348 = 8 by decide) (by rw [show ln 348 = 12000 by decide]; exact hn67) dX7_endsAs_440 ?_
                          refine xiast hx hb hK hP hap hS (361) (by decide) (show kd 361 = 8 by decide) (by rw [show ln 361 = 1500 by decide]; exact hn68) dX7_endsAs_441 (fun H locs hP hS => ?_)
                          obtain ⟨A71, eA71, h⟩ := bd_e h
                          rw [← eA71] at hP
                          have hP : va_P D vwCl (VW K ad I42 G A71 L) H := hP
                          refine lv_iinc (v := (v61 + 1)) (lv' := [(7, .int (v61 + 1)), (6, .int v62), (5, .int v44), (0, .ref (ad 318)), (1, .int a1)]) hx hb dX7_endsAs_442 hl (k := 0) rfl rfl (by decide) rfl (fun ls hl => ?_)
                          refine lv_goto (tgt := 357) hx hb dX7_endsAs_445 (by decide) ?_
                          exact ih60 (v61 + 1) v62 A71 h _ _ hP hS ls (lv_sub hl [0, 1, 2, 3, 4] rfl)
                    exact lp60 FU 0 (A45 346 v44.toNatClampNeg) A59 h _ _ hP hS ls (lv_sub hl [0, 1, 2, 3, 4] rfl)
                  refine lv_icmp_ge (tgt := 352) hx hb dX7_endsAs_329 (by decide) (fun c_72 => ?_) (fun c_72 => ?_)
                  · have h := iN (Int32.not_lt.mpr c_72) h
                    refine lv_iconst (v := 0) hx hb dX7_endsAs_352 (by decide) ?_
                    exact kj58 0 h _ _ hP hS ls (lv_sub hl [0, 1, 2, 3] rfl)
                  · have h := ip (Int32.not_le.mp c_72) h
                    refine lv_aload_n hx hb dX7_endsAs_332 rfl (lv_at hl 2 rfl) ?_
                    refine vgC hx hb hts hi7 hown hK hP (318) (by decide) (show kd 318 = 7 by decide) (C := RX7) (T := TX7) (N := 79) rfl 5 (by decide) (by decide) (by decide) (by decide) (321) rfl (hts (.fieldLink RX7 16 "CrateHelpersModel" "values" "[I") (by decide +kernel)) (fun _ h9 => h9) dX7_endsAs_333 ?_
                    refine lv_bipush (v := 6) hx hb dX7_endsAs_336 (by decide) ?_
                    refine lv_iload_n hx hb dX7_endsAs_338 rfl (lv_at hl 3 rfl) ?_
                    refine lv_imul hx hb dX7_endsAs_339 ?_
                    refine lv_aload_n hx hb dX7_endsAs_340 rfl (lv_at hl 2 rfl) ?_
                    refine vgC hx hb hts hi7 hown hK hP (318) (by decide) (show kd 318 = 7 by decide) (C := RX7) (T := TX7) (N := 79) rfl 32 (by decide) (by decide) (by decide) (by decide) (338) rfl (hts (.fieldLink RX7 74 "CrateHelpersModel" "depth" "[I") (by decide +kernel)) (fun _ h9 => h9) dX7_endsAs_341 ?_
                    refine lv_iload hx hb dX7_endsAs_344 (lv_at hl 0 rfl) ?_
                    refine xiald hx hb hK hP (338) (by decide) (show kd 338 = 8 by decide) (by rw [show ln 338 = 2000 by decide]; exact hn51) dX7_endsAs_346 ?_
                    refine lv_iadd hx hb dX7_endsAs_347 ?_
                    obtain ⟨hn73, h⟩ := gk h
                    refine xiald hx hb hK hP (321) (by decide) (show kd 321 = 8 by decide) (by rw [show ln 321 = 30 by decide]; exact hn73) dX7_endsAs_348 ?_
                    refine lv_goto (tgt := 353) hx hb dX7_endsAs_349 (by decide) ?_
                    exact kj58 (A55 321 (((6 * a1) + (A55 338 ((A45 346 v44.toNatClampNeg).toNatClampNeg))).toNatClampNeg)) h _ _ hP hS ls (lv_sub hl [0, 1, 2, 3] rfl)
            exact lp43 FU 0 A40 h _ _ hP hS ls (lv_sub hl [0, 1, 2] rfl)
          refine lv_icmp_ne (tgt := 225) hx hb dX7_endsAs_181 (by decide) (fun c_74 => ?_) (fun c_74 => ?_)
          · have h := iN c_74 h
            exact kj41 A30 h _ _ hP hS ls (lv_sub hl [1, 2] rfl)
          · have h := ip c_74 h
            refine lv_iconst (v := 0) hx hb dX7_endsAs_184 (by decide) ?_
            refine lv_istore (lv' := [(5, .int 0), (4, .int z4), (0, .ref (ad 318)), (1, .int a1), (2, .int a2)]) hx hb dX7_endsAs_185 hl (by decide) rfl (fun ls hl => ?_)
            obtain ⟨k78, ek78, h⟩ := bd_e h
            have kk78 : ∀ (A79 : Nat → Nat → Int32), k78 A79 = some (I0, A0) → ∀ (H : Heap) (locs : List Loc), va_P D vwCl (VW K ad I G A79 L) H → va_S (vF ad s.heap.size) s.heap H locs → ∀ (ls : Array Slot), lv_has ls 8 [(0, .ref (ad 318)), (1, .int a1)] → W p l e ({ frames := 2, cells := 0, slots := 0, locals := 51 }) s m ([.ref (ad 318), .int a1, .int a2] : List Value).toArray below meth c H locs 0 0 (MQ below (va_Qv (fun (u : Mem) => u = (I0, G, A0, L)) (vB D K ad) (vF ad s.heap.size)) ([.ref (ad 318), .int a1, .int a2] : List Value).toArray s 0 0 (vF ad s.heap.size)) (F0 m 225 ls []) := by
              intro A79 h H locs hP hS ls hl
              subst ek78
              exact kj41 A79 h _ _ hP hS ls (lv_sub hl [0, 1] rfl)
            have lp75 : ∀ (n : Nat) (v76 : Int32) (A77 : Nat → Nat → Int32), f_X7_endsAs_L187 z4 a1 I k78 n v76 A77 = some (I0, A0) → ∀ (H : Heap) (locs : List Loc), va_P D vwCl (VW K ad I G A77 L) H → va_S (vF ad s.heap.size) s.heap H locs → ∀ (ls : Array Slot), lv_has ls 8 [(5, .int v76), (4, .int z4), (0, .ref (ad 318)), (1, .int a1)] → W p l e ({ frames := 2, cells := 0, slots := 0, locals := 51 }) s m ([.ref (ad 318), .int a1, .int a2] : List Value).toArray below meth c H locs 0 0 (MQ below (va_Qv (fun (u : Mem) => u = (I0, G, A0, L)) (vB D K ad) (vF ad s.heap.size)) ([.ref (ad 318), .int a1, .int a2] : List Value).toArray s 0 0 (vF ad s.heap.size)) (F0 m 187 ls []) := by
              intro n
              induction n with
              | zero => intro v76 A77 h; exact absurd h (by rw [f_X7_endsAs_L187]; exact nofun)
              | succ n ih75 =>
                intro v76 A77 h H locs hP hS ls hl
                rw [f_X7_endsAs_L187] at h
                refine lv_iload hx hb dX7_endsAs_187 (lv_at hl 0 rfl) ?_
                refine lv_bipush (v := 6) hx hb dX7_endsAs_189 (by decide) ?_
                refine lv_icmp_ge (tgt := 225) hx hb dX7_endsAs_191 (by decide) (fun c_80 => ?_) (fun c_80 => ?_)
                · have h := iN (Int32.not_lt.mpr c_80) h
                  exact kk78 A77 h _ _ hP hS ls (lv_sub hl [2, 3] rfl)
                · have h := ip (Int32.not_le.mp c_80) h
                  refine lv_aload_n hx hb dX7_endsAs_194 rfl (lv_at hl 2 rfl) ?_
                  refine vgC hx hb hts hi7 hown hK hP (318) (by decide) (show kd 318 = 7 by decide) (C := RX7) (T := TX7) (N := 79) rfl 47 (by decide) (by decide) (by decide) (by decide) (353) rfl (hts (.fieldLink RX7 120 "CrateHelpersModel" "answerRow" "[I") (by decide +kernel)) (fun _ h9 => h9) dX7_endsAs_195 ?_
                  refine lv_bipush (v := 6) hx hb dX7_endsAs_198 (by decide) ?_
                  refine lv_iload_n hx hb dX7_endsAs_200 rfl (lv_at hl 3 rfl) ?_
                  refine lv_imul hx hb dX7_endsAs_201 ?_
                  refine lv_iload hx hb dX7_endsAs_202 (lv_at hl 0 rfl) ?_
                  refine lv_iadd hx hb dX7_endsAs_204 ?_
                  refine lv_aload_n hx hb dX7_endsAs_205 rfl (lv_at hl 2 rfl) ?_
                  refine vgC hx hb hts hi7 hown hK hP (318) (by decide) (show kd 318 = 7 by decide) (C := RX7) (T := TX7) (N := 79) rfl 33 (by decide) (by decide) (by decide) (by decide) (339) rfl (hts (.fieldLink RX7 77 "CrateHelpersModel" "row" "[I") (by decide +kernel)) (fun _ h9 => h9) dX7_endsAs_206 ?_
                  refine lv_bipush (v := 6) hx hb dX7_endsAs_209 (by decide) ?_
                  refine lv_iload hx hb dX7_endsAs_211 (lv_at hl 1 rfl) ?_
                  refine lv_imul hx hb dX7_endsAs_213 ?_
                  refine lv_iload hx hb dX7_endsAs_214 (lv_at hl 0 rfl) ?_
                  refine lv_iadd hx hb dX7_endsAs_216 ?_
                  obtain ⟨hn81, h⟩ := gk h
                  refine xiald hx hb hK hP (339) (by decide) (show kd 339 = 8 by decide) (by rw [show ln 339 = 12000 by decide]; exact hn81) dX7_endsAs_217 ?_
                  obtain ⟨hn82, h⟩ := gk h
                  refine xiast hx hb hK hP hap hS (353) (by decide) (show kd 353 = 8 by decide) (by rw [show ln 353 = 30 by decide]; exact hn82) dX7_endsAs_218 (fun H locs hP hS => ?_)
                  obtain ⟨A83, eA83, h⟩ := bd_e h
                  rw [← eA83] at hP
                  have hP : va_P D vwCl (VW K ad I G A83 L) H := hP
                  refine lv_iinc (v := (v76 + 1)) (lv' := [(5, .int (v76 + 1)), (4, .int z4), (0, .ref (ad 318)), (1, .int a1)]) hx hb dX7_endsAs_219 hl (k := 0) rfl rfl (by decide) rfl (fun ls hl => ?_)
                  refine lv_goto (tgt := 187) hx hb dX7_endsAs_222 (by decide) ?_
                  exact ih75 (v76 + 1) A83 h _ _ hP hS ls (lv_sub hl [0, 1, 2, 3] rfl)
            exact lp75 FU 0 A30 h _ _ hP hS ls (lv_sub hl [0, 1, 2, 3] rfl)
        refine lv_icmp_ne (tgt := 177) hx hb dX7_endsAs_170 (by decide) (fun c_84 => ?_) (fun c_84 => ?_)
        · have h := iN c_84 h
          refine lv_iconst (v := 0) hx hb dX7_endsAs_177 (by decide) ?_
          exact kj29 0 h _ _ hP hS ls (lv_sub hl [0, 1, 2, 3] rfl)
        · have h := ip c_84 h
          refine lv_iconst (v := 1) hx hb dX7_endsAs_173 (by decide) ?_
          refine lv_goto (tgt := 178) hx hb dX7_endsAs_174 (by decide) ?_
          exact kj29 1 h _ _ hP hS ls (lv_sub hl [0, 1, 2, 3] rfl)
      refine lv_icmp_ne (tgt := 138) hx hb dX7_endsAs_125 (by decide) (fun c_85 => ?_) (fun c_85 => ?_)
      · have h := iN c_85 h
        refine lv_iload_n hx hb dX7_endsAs_138 rfl (lv_at hl 1 rfl) ?_
        refine lv_bipush (v := (-9)) hx hb dX7_endsAs_139 (by decide) ?_
        refine lv_icmp_ne (tgt := 149) hx hb dX7_endsAs_141 (by decide) (fun c_86 => ?_) (fun c_86 => ?_)
        · have h := iN c_86 h
          refine lv_aload_n hx hb dX7_endsAs_149 rfl (lv_at hl 2 rfl) ?_
          refine vgC hx hb hts hi7 hown hK hP (318) (by decide) (show kd 318 = 7 by decide) (C := RX7) (T := TX7) (N := 79) rfl 35 (by decide) (by decide) (by decide) (by decide) (341) rfl (hts (.fieldLink RX7 83 "CrateHelpersModel" "bound" "[I") (by decide +kernel)) (fun _ h9 => h9) dX7_endsAs_150 ?_
          refine lv_iload_n hx hb dX7_endsAs_153 rfl (lv_at hl 1 rfl) ?_
          obtain ⟨hn87, h⟩ := gk h
          refine xiald hx hb hK hP (341) (by decide) (show kd 341 = 8 by decide) (by rw [show ln 341 = 2000 by decide]; exact hn87) dX7_endsAs_154 ?_
          exact kj23 (A18 341 r1.toNatClampNeg) h _ _ hP hS ls (lv_sub hl [0, 2, 3, 4] rfl)
        · have h := ip c_86 h
          refine lv_ldc (v := (-1000000)) hx hb hown (hts (.constant RX7 224 (-1000000)) (by decide +kernel)) dX7_endsAs_144 ?_
          refine lv_goto (tgt := 155) hx hb dX7_endsAs_146 (by decide) ?_
          exact kj23 (-1000000) h _ _ hP hS ls (lv_sub hl [0, 2, 3, 4] rfl)
      · have h := ip c_85 h
        refine lv_aload_n hx hb dX7_endsAs_128 rfl (lv_at hl 2 rfl) ?_
        refine vgC hx hb hts hi7 hown hK hP (318) (by decide) (show kd 318 = 7 by decide) (C := RX7) (T := TX7) (N := 79) rfl 35 (by decide) (by decide) (by decide) (by decide) (341) rfl (hts (.fieldLink RX7 83 "CrateHelpersModel" "bound" "[I") (by decide +kernel)) (fun _ h9 => h9) dX7_endsAs_129 ?_
        refine lv_iload hx hb dX7_endsAs_132 (lv_at hl 0 rfl) ?_
        obtain ⟨hn88, h⟩ := gk h
        refine xiald hx hb hK hP (341) (by decide) (show kd 341 = 8 by decide) (by rw [show ln 341 = 2000 by decide]; exact hn88) dX7_endsAs_134 ?_
        refine lv_goto (tgt := 155) hx hb dX7_endsAs_135 (by decide) ?_
        exact kj23 (A18 341 z4.toNatClampNeg) h _ _ hP hS ls (lv_sub hl [0, 2, 3, 4] rfl)
    refine lv_icmp_ne (tgt := 110) hx hb dX7_endsAs_97 (by decide) (fun c_89 => ?_) (fun c_89 => ?_)
    · have h := iN c_89 h
      refine lv_ldc (v := (-1000000)) hx hb hown (hts (.constant RX7 224 (-1000000)) (by decide +kernel)) dX7_endsAs_110 ?_
      exact kj16 (-1000000) h _ _ hP hS ls (lv_sub hl [0, 1, 2, 3, 4] rfl)
    · have h := ip c_89 h
      refine lv_aload_n hx hb dX7_endsAs_100 rfl (lv_at hl 2 rfl) ?_
      refine vgC hx hb hts hi7 hown hK hP (318) (by decide) (show kd 318 = 7 by decide) (C := RX7) (T := TX7) (N := 79) rfl 35 (by decide) (by decide) (by decide) (by decide) (341) rfl (hts (.fieldLink RX7 83 "CrateHelpersModel" "bound" "[I") (by decide +kernel)) (fun _ h9 => h9) dX7_endsAs_101 ?_
      refine lv_iload hx hb dX7_endsAs_104 (lv_at hl 0 rfl) ?_
      obtain ⟨hn90, h⟩ := gk h
      refine xiald hx hb hK hP (341) (by decide) (show kd 341 = 8 by decide) (by rw [show ln 341 = 2000 by decide]; exact hn90) dX7_endsAs_106 ?_
      refine lv_goto (tgt := 112) hx hb dX7_endsAs_107 (by decide) ?_
      exact kj16 (A13 341 z4.toNatClampNeg) h _ _ hP hS ls (lv_sub hl [0, 1, 2, 3, 4] rfl)
  refine lv_if_le (tgt := 26) hx hb dX7_endsAs_9 (by decide) (fun c_91 => ?_) (fun c_91 => ?_)
  · have h := iN (Int32.not_lt.mpr c_91) h
    refine lv_bipush (v := (-9)) hx hb dX7_endsAs_26 (by decide) ?_
    exact kj5 (-9) h _ _ hP hS ls (lv_sub hl [0, 1, 2, 3] rfl)
  · have h := ip (Int32.not_le.mp c_91) h
    refine lv_aload_n hx hb dX7_endsAs_12 rfl (lv_at hl 1 rfl) ?_
    refine vgC hx hb hts hi7 hown hK hP (318) (by decide) (show kd 318 = 7 by decide) (C := RX7) (T := TX7) (N := 79) rfl 40 (by decide) (by decide) (by decide) (by decide) (346) rfl (hts (.fieldLink RX7 99 "CrateHelpersModel" "order" "[I") (by decide +kernel)) (fun _ h9 => h9) dX7_endsAs_13 ?_
    refine lv_aload_n hx hb dX7_endsAs_16 rfl (lv_at hl 1 rfl) ?_
    refine vgI hx hb hts hi7 hown hK hP (318) (by decide) (show kd 318 = 7 by decide) (C := RX7) (T := TX7) (N := 79) rfl 31 (by decide) (by decide) (by decide) (by decide) (hts (.fieldLink RX7 303 "CrateHelpersModel" "taken" "I") (by decide +kernel)) (fun _ h9 => h9) dX7_endsAs_17 ?_
    refine lv_iconst (v := 1) hx hb dX7_endsAs_20 (by decide) ?_
    refine lv_isub hx hb dX7_endsAs_21 ?_
    obtain ⟨hn92, h⟩ := gk h
    refine xiald hx hb hK hP (346) (by decide) (show kd 346 = 8 by decide) (by rw [show ln 346 = 250 by decide]; exact hn92) dX7_endsAs_22 ?_
    refine lv_goto (tgt := 28) hx hb dX7_endsAs_23 (by decide) ?_
    exact kj5 (A 346 (((I 318 31) - 1).toNatClampNeg)) h _ _ hP hS ls (lv_sub hl [0, 1, 2, 3] rfl)
set_option maxHeartbeats 4000000 in
set_option maxRecDepth 100000 in
theorem e_X7_fail (l : Launch) (D : va_G) (K : Nat → ClassId) (ad : Nat → Nat) (hap0 : apart ad (fun _ => True)) (a1 : Int32) (a2 : Int32) (I : Nat → Nat → Int32) (G : Nat → Nat → Nat) (A : Nat → Nat → Int32) (L : Nat → Nat → Int64) (r0 : Int32) (I0 : Nat → Nat → Int32) (A0 : Nat → Nat → Int32) (h : f_X7_fail I A a1 a2 = some (r0, I0, A0)) : Ci l D K ad yX7_fail wsX7_fail 1 25 [.ref (ad 318), .int a1, .int a2] (I, G, A, L) (fun (r : Int32) (u : Mem) => r = r0 ∧ u = (I0, G, A0, L)) := by
  intro sz
  refine Met.ofW (cc := cX7_fail) (maxL := 3) (ret := (some .int)) (by decide) rfl ?_
  intro p e s m args below meth c s₁ Bd hml hv0
  obtain ⟨rfl, hsz, hP, hK⟩ := hv0
  have hx := Bd.exec
  have hb := Bd.bytes
  have hr := Bd.returns
  have hts := atoms_spec (ws := wsX7_fail) Bd.pre
  have hown : s.vm.findClass RX7 = some m.cls := findClass_of_methodNamed Bd.named
  have hlocks := Bd.notSynchronized
  have hi7 : ∀ w ∈ u_ws RX7 TX7 79, w ∈ wsX7_fail := fun w h => List.mem_cons_of_mem _ (List.mem_append_right _ h)
  subst hsz
  have hap := vF_ap hap0 s.heap.size
  have hS : va_S (vF ad s.heap.size) s.heap s.heap [] := va_S.rf
  have hP : va_P D vwCl (VW K ad I G A L) s.heap := hP
  have hl := lv_entry ([.ref (ad 318), .int a1, .int a2]) (n := 3) (Nat.le_of_ble_eq_true rfl)
  rw [lg_entry_eq]
  generalize (lg_sl ([.ref (ad 318), .int a1, .int a2]) ++ List.replicate (3 - (lg_sl ([.ref (ad 318), .int a1, .int a2])).length) Slot.unset).toArray = ls at hl ⊢
  have hl : lv_has ls 3 [(0, .ref (ad 318)), (1, .int a1), (2, .int a2)] := hl
  rw [f_X7_fail] at h
  refine lv_aload_n hx hb dX7_fail_0 rfl (lv_at hl 0 rfl) ?_
  refine lv_iconst (v := 0) hx hb dX7_fail_1 (by decide) ?_
  refine vpI (v := 0) (ty := .int) hx hb hts hi7 tyX7 tyX7_ok nmX7 hown hK hP hap hS (318) (by decide) (show kd 318 = 7 by decide) (C := RX7) (T := TX7) (N := 79) rfl 0 (by decide) (by decide) (by decide) (by decide) (hts (.fieldLink RX7 201 "CrateHelpersModel" "thrown" "I") (by decide +kernel)) (fun _ h9 => h9) rfl (by decide +kernel) rfl rfl dX7_fail_2 (fun H locs hP hS => ?_)
  obtain ⟨I1, eI1, h⟩ := bd_e h
  rw [← eI1] at hP
  have hP : va_P D vwCl (VW K ad I1 G A L) H := hP
  refine lv_iload_n hx hb dX7_fail_5 rfl (lv_at hl 1 rfl) ?_
  refine lv_iconst (v := 0) hx hb dX7_fail_6 (by decide) ?_
  refine lv_aload_n hx hb dX7_fail_7 rfl (lv_at hl 0 rfl) ?_
  refine vgI hx hb hts hi7 hown hK hP (318) (by decide) (show kd 318 = 7 by decide) (C := RX7) (T := TX7) (N := 79) rfl 15 (by decide) (by decide) (by decide) (by decide) (hts (.fieldLink RX7 43 "CrateHelpersModel" "helpers" "I") (by decide +kernel)) (fun _ h9 => h9) dX7_fail_8 ?_
  refine lv_iconst (v := 1) hx hb dX7_fail_11 (by decide) ?_
  refine lv_isub hx hb dX7_fail_12 ?_
  obtain ⟨r2, hc3, h⟩ := Option.bind_eq_some_iff.mp h
  refine ecS (As := [.int a1, .int 0, .int ((I1 318 15) - 1)]) (rest := []) ⟨hx, hb, hml, hown, hts⟩ (e_X7_in l D K ad hap0 a1 0 ((I1 318 15) - 1) I1 G A L r2 hc3) (va_cwS 3 hts gX7_fail_X7_in rfl rfl rfl (by decide +kernel) ⟨Nat.le_of_ble_eq_true rfl, Nat.le_of_ble_eq_true rfl⟩) hK hP hS rfl hl.1 (Nat.le_of_ble_eq_true rfl) (Nat.le_of_ble_eq_true rfl) (Nat.le_of_ble_eq_true rfl) dX7_fail_13 (fun H locs hP hS => ?_) rfl
  have hP : va_P D vwCl (VW K ad I1 G A L) H := hP
  refine lv_if_eq (tgt := 30) hx hb dX7_fail_16 (by decide) (fun c_4 => ?_) (fun c_4 => ?_)
  · have h := ip c_4 h
    refine lv_iconst (v := (-1)) hx hb dX7_fail_30 (by decide) ?_
    exact W.iret (v := (-1)) hx hb hr (fun t9 ht9 hW9 => ⟨⟨(-1), (I1, G, A, L), rfl, by cases h; exact ⟨rfl, rfl⟩, by rw [ht9]; exact hP, va_K.moved hW9.alike hK⟩, hS.F ht9⟩) hS.2.2 dX7_fail_31
  · have h := iN c_4 h
    refine lv_iload_n hx hb dX7_fail_19 rfl (lv_at hl 2 rfl) ?_
    refine lv_iconst (v := 0) hx hb dX7_fail_20 (by decide) ?_
    refine lv_sipush (v := 200) hx hb dX7_fail_21 (by decide) ?_
    obtain ⟨r5, hc6, h⟩ := Option.bind_eq_some_iff.mp h
    refine ecS (As := [.int a2, .int 0, .int 200]) (rest := []) ⟨hx, hb, hml, hown, hts⟩ (e_X7_in l D K ad hap0 a2 0 200 I1 G A L r5 hc6) (va_cwS 3 hts gX7_fail_X7_in rfl rfl rfl (by decide +kernel) ⟨Nat.le_of_ble_eq_true rfl, Nat.le_of_ble_eq_true rfl⟩) hK hP hS rfl hl.1 (Nat.le_of_ble_eq_true rfl) (Nat.le_of_ble_eq_true rfl) (Nat.le_of_ble_eq_true rfl) dX7_fail_24 (fun H locs hP hS => ?_) rfl
    have hP : va_P D vwCl (VW K ad I1 G A L) H := hP
    refine lv_if_ne (tgt := 32) hx hb dX7_fail_27 (by decide) (fun c_7 => ?_) (fun c_7 => ?_)
    · have h := iN c_7 h
      refine lv_aload_n hx hb dX7_fail_32 rfl (lv_at hl 0 rfl) ?_
      refine vgI hx hb hts hi7 hown hK hP (318) (by decide) (show kd 318 = 7 by decide) (C := RX7) (T := TX7) (N := 79) rfl 23 (by decide) (by decide) (by decide) (by decide) (hts (.fieldLink RX7 62 "CrateHelpersModel" "under" "I") (by decide +kernel)) (fun _ h9 => h9) dX7_fail_33 ?_
      refine lv_bipush (v := (-9)) hx hb dX7_fail_36 (by decide) ?_
      refine lv_icmp_eq (tgt := 44) hx hb dX7_fail_38 (by decide) (fun c_8 => ?_) (fun c_8 => ?_)
      · have h := ip c_8 h
        refine lv_aload_n hx hb dX7_fail_44 rfl (lv_at hl 0 rfl) ?_
        refine vgC hx hb hts hi7 hown hK hP (318) (by decide) (show kd 318 = 7 by decide) (C := RX7) (T := TX7) (N := 79) rfl 16 (by decide) (by decide) (by decide) (by decide) (330) rfl (hts (.fieldLink RX7 47 "CrateHelpersModel" "failAt" "[I") (by decide +kernel)) (fun _ h9 => h9) dX7_fail_45 ?_
        refine lv_iload_n hx hb dX7_fail_48 rfl (lv_at hl 1 rfl) ?_
        refine lv_iload_n hx hb dX7_fail_49 rfl (lv_at hl 2 rfl) ?_
        obtain ⟨hn9, h⟩ := gk h
        refine xiast hx hb hK hP hap hS (330) (by decide) (show kd 330 = 8 by decide) (by rw [show ln 330 = 5 by decide]; exact hn9) dX7_fail_50 (fun H locs hP hS => ?_)
        obtain ⟨A10, eA10, h⟩ := bd_e h
        rw [← eA10] at hP
        have hP : va_P D vwCl (VW K ad I1 G A10 L) H := hP
        refine lv_iconst (v := 1) hx hb dX7_fail_51 (by decide) ?_
        exact W.iret (v := 1) hx hb hr (fun t9 ht9 hW9 => ⟨⟨1, (I1, G, A10, L), rfl, by cases h; exact ⟨rfl, rfl⟩, by rw [ht9]; exact hP, va_K.moved hW9.alike hK⟩, hS.F ht9⟩) hS.2.2 dX7_fail_52
      · have h := iN c_8 h
        refine lv_bipush (v := (-2)) hx hb dX7_fail_41 (by decide) ?_
        exact W.iret (v := (-2)) hx hb hr (fun t9 ht9 hW9 => ⟨⟨(-2), (I1, G, A, L), rfl, by cases h; exact ⟨rfl, rfl⟩, by rw [ht9]; exact hP, va_K.moved hW9.alike hK⟩, hS.F ht9⟩) hS.2.2 dX7_fail_43
    · have h := ip c_7 h
      refine lv_iconst (v := (-1)) hx hb dX7_fail_30 (by decide) ?_
      exact W.iret (v := (-1)) hx hb hr (fun t9 ht9 hW9 => ⟨⟨(-1), (I1, G, A, L), rfl, by cases h; exact ⟨rfl, rfl⟩, by rw [ht9]; exact hP, va_K.moved hW9.alike hK⟩, hS.F ht9⟩) hS.2.2 dX7_fail_31
set_option maxHeartbeats 4000000 in
set_option maxRecDepth 100000 in
theorem e_X7_giveUp (l : Launch) (D : va_G) (K : Nat → ClassId) (ad : Nat → Nat) (hap0 : apart ad (fun _ => True)) (I : Nat → Nat → Int32) (G : Nat → Nat → Nat) (A : Nat → Nat → Int32) (L : Nat → Nat → Int64) (r0 : Int32) (I0 : Nat → Nat → Int32) (h : f_X7_giveUp I = some (r0, I0)) : Ci l D K ad yX7_giveUp wsX7_giveUp 0 0 [.ref (ad 318)] (I, G, A, L) (fun (r : Int32) (u : Mem) => r = r0 ∧ u = (I0, G, A, L)) := by
  intro sz
  refine Met.ofW (cc := cX7_giveUp) (maxL := 2) (ret := (some .int)) (by decide) rfl ?_
  intro p e s m args below meth c s₁ Bd hml hv0
  obtain ⟨rfl, hsz, hP, hK⟩ := hv0
  have hx := Bd.exec
  have hb := Bd.bytes
  have hr := Bd.returns
  have hts := atoms_spec (ws := wsX7_giveUp) Bd.pre
  have hown : s.vm.findClass RX7 = some m.cls := findClass_of_methodNamed Bd.named
  have hlocks := Bd.notSynchronized
  have hi7 : ∀ w ∈ u_ws RX7 TX7 79, w ∈ wsX7_giveUp := fun w h => List.mem_cons_of_mem _ (List.mem_append_right _ h)
  subst hsz
  have hap := vF_ap hap0 s.heap.size
  have hS : va_S (vF ad s.heap.size) s.heap s.heap [] := va_S.rf
  have hP : va_P D vwCl (VW K ad I G A L) s.heap := hP
  have hl := lv_entry ([.ref (ad 318)]) (n := 2) (Nat.le_of_ble_eq_true rfl)
  rw [lg_entry_eq]
  generalize (lg_sl ([.ref (ad 318)]) ++ List.replicate (2 - (lg_sl ([.ref (ad 318)])).length) Slot.unset).toArray = ls at hl ⊢
  have hl : lv_has ls 2 [(0, .ref (ad 318))] := hl
  rw [f_X7_giveUp] at h
  refine lv_aload_n hx hb dX7_giveUp_0 rfl (lv_at hl 0 rfl) ?_
  refine lv_iconst (v := 0) hx hb dX7_giveUp_1 (by decide) ?_
  refine vpI (v := 0) (ty := .int) hx hb hts hi7 tyX7 tyX7_ok nmX7 hown hK hP hap hS (318) (by decide) (show kd 318 = 7 by decide) (C := RX7) (T := TX7) (N := 79) rfl 0 (by decide) (by decide) (by decide) (by decide) (hts (.fieldLink RX7 201 "CrateHelpersModel" "thrown" "I") (by decide +kernel)) (fun _ h9 => h9) rfl (by decide +kernel) rfl rfl dX7_giveUp_2 (fun H locs hP hS => ?_)
  obtain ⟨I1, eI1, h⟩ := bd_e h
  rw [← eI1] at hP
  have hP : va_P D vwCl (VW K ad I1 G A L) H := hP
  refine lv_aload_n hx hb dX7_giveUp_5 rfl (lv_at hl 0 rfl) ?_
  refine vgI hx hb hts hi7 hown hK hP (318) (by decide) (show kd 318 = 7 by decide) (C := RX7) (T := TX7) (N := 79) rfl 23 (by decide) (by decide) (by decide) (by decide) (hts (.fieldLink RX7 62 "CrateHelpersModel" "under" "I") (by decide +kernel)) (fun _ h9 => h9) dX7_giveUp_6 ?_
  refine lv_bipush (v := (-9)) hx hb dX7_giveUp_9 (by decide) ?_
  refine lv_icmp_ne (tgt := 17) hx hb dX7_giveUp_11 (by decide) (fun c_2 => ?_) (fun c_2 => ?_)
  · have h := iN c_2 h
    refine lv_aload_n hx hb dX7_giveUp_17 rfl (lv_at hl 0 rfl) ?_
    refine vgI hx hb hts hi7 hown hK hP (318) (by decide) (show kd 318 = 7 by decide) (C := RX7) (T := TX7) (N := 79) rfl 23 (by decide) (by decide) (by decide) (by decide) (hts (.fieldLink RX7 62 "CrateHelpersModel" "under" "I") (by decide +kernel)) (fun _ h9 => h9) dX7_giveUp_18 ?_
    refine lv_istore_n (lv' := [(1, .int (I1 318 23)), (0, .ref (ad 318))]) hx hb dX7_giveUp_21 rfl hl (by decide) rfl (fun ls hl => ?_)
    refine lv_aload_n hx hb dX7_giveUp_22 rfl (lv_at hl 1 rfl) ?_
    refine lv_bipush (v := (-9)) hx hb dX7_giveUp_23 (by decide) ?_
    refine vpI (v := (-9)) (ty := .int) hx hb hts hi7 tyX7 tyX7_ok nmX7 hown hK hP hap hS (318) (by decide) (show kd 318 = 7 by decide) (C := RX7) (T := TX7) (N := 79) rfl 23 (by decide) (by decide) (by decide) (by decide) (hts (.fieldLink RX7 62 "CrateHelpersModel" "under" "I") (by decide +kernel)) (fun _ h9 => h9) rfl (by decide +kernel) rfl rfl dX7_giveUp_25 (fun H locs hP hS => ?_)
    obtain ⟨I3, eI3, h⟩ := bd_e h
    rw [← eI3] at hP
    have hP : va_P D vwCl (VW K ad I3 G A L) H := hP
    refine lv_iload_n hx hb dX7_giveUp_28 rfl (lv_at hl 0 rfl) ?_
    exact W.iret (v := (I1 318 23)) hx hb hr (fun t9 ht9 hW9 => ⟨⟨(I1 318 23), (I3, G, A, L), rfl, by cases h; exact ⟨rfl, rfl⟩, by rw [ht9]; exact hP, va_K.moved hW9.alike hK⟩, hS.F ht9⟩) hS.2.2 dX7_giveUp_29
  · have h := ip c_2 h
    refine lv_bipush (v := (-2)) hx hb dX7_giveUp_14 (by decide) ?_
    exact W.iret (v := (-2)) hx hb hr (fun t9 ht9 hW9 => ⟨⟨(-2), (I1, G, A, L), rfl, by cases h; exact ⟨rfl, rfl⟩, by rw [ht9]; exact hP, va_K.moved hW9.alike hK⟩, hS.F ht9⟩) hS.2.2 dX7_giveUp_16
set_option maxHeartbeats 4000000 in
set_option maxRecDepth 100000 in
theorem e_X7_helper (l : Launch) (D : va_G) (K : Nat → ClassId) (ad : Nat → Nat) (hap0 : apart ad (fun _ => True)) (a1 : Int32) (a2 : Int32) (I : Nat → Nat → Int32) (G : Nat → Nat → Nat) (A : Nat → Nat → Int32) (L : Nat → Nat → Int64) (r0 : Int32) (I0 : Nat → Nat → Int32) (h : f_X7_helper I A a1 a2 = some (r0, I0)) : Ci l D K ad yX7_helper wsX7_helper 1 25 [.ref (ad 318), .int a1, .int a2] (I, G, A, L) (fun (r : Int32) (u : Mem) => r = r0 ∧ u = (I0, G, A, L)) := by
  intro sz
  refine Met.ofW (cc := cX7_helper) (maxL := 3) (ret := (some .int)) (by decide) rfl ?_
  intro p e s m args below meth c s₁ Bd hml hv0
  obtain ⟨rfl, hsz, hP, hK⟩ := hv0
  have hx := Bd.exec
  have hb := Bd.bytes
  have hr := Bd.returns
  have hts := atoms_spec (ws := wsX7_helper) Bd.pre
  have hown : s.vm.findClass RX7 = some m.cls := findClass_of_methodNamed Bd.named
  have hlocks := Bd.notSynchronized
  have hi7 : ∀ w ∈ u_ws RX7 TX7 79, w ∈ wsX7_helper := fun w h => List.mem_cons_of_mem _ (List.mem_append_right _ h)
  subst hsz
  have hap := vF_ap hap0 s.heap.size
  have hS : va_S (vF ad s.heap.size) s.heap s.heap [] := va_S.rf
  have hP : va_P D vwCl (VW K ad I G A L) s.heap := hP
  have hl := lv_entry ([.ref (ad 318), .int a1, .int a2]) (n := 3) (Nat.le_of_ble_eq_true rfl)
  rw [lg_entry_eq]
  generalize (lg_sl ([.ref (ad 318), .int a1, .int a2]) ++ List.replicate (3 - (lg_sl ([.ref (ad 318), .int a1, .int a2])).length) Slot.unset).toArray = ls at hl ⊢
  have hl : lv_has ls 3 [(0, .ref (ad 318)), (1, .int a1), (2, .int a2)] := hl
  rw [f_X7_helper] at h
  refine lv_aload_n hx hb dX7_helper_0 rfl (lv_at hl 0 rfl) ?_
  refine lv_iconst (v := 0) hx hb dX7_helper_1 (by decide) ?_
  refine vpI (v := 0) (ty := .int) hx hb hts hi7 tyX7 tyX7_ok nmX7 hown hK hP hap hS (318) (by decide) (show kd 318 = 7 by decide) (C := RX7) (T := TX7) (N := 79) rfl 0 (by decide) (by decide) (by decide) (by decide) (hts (.fieldLink RX7 201 "CrateHelpersModel" "thrown" "I") (by decide +kernel)) (fun _ h9 => h9) rfl (by decide +kernel) rfl rfl dX7_helper_2 (fun H locs hP hS => ?_)
  obtain ⟨I1, eI1, h⟩ := bd_e h
  rw [← eI1] at hP
  have hP : va_P D vwCl (VW K ad I1 G A L) H := hP
  refine lv_iload_n hx hb dX7_helper_5 rfl (lv_at hl 1 rfl) ?_
  refine lv_iconst (v := 0) hx hb dX7_helper_6 (by decide) ?_
  refine lv_iconst (v := 4) hx hb dX7_helper_7 (by decide) ?_
  obtain ⟨r2, hc3, h⟩ := Option.bind_eq_some_iff.mp h
  refine ecS (As := [.int a1, .int 0, .int 4]) (rest := []) ⟨hx, hb, hml, hown, hts⟩ (e_X7_in l D K ad hap0 a1 0 4 I1 G A L r2 hc3) (va_cwS 3 hts gX7_helper_X7_in rfl rfl rfl (by decide +kernel) ⟨Nat.le_of_ble_eq_true rfl, Nat.le_of_ble_eq_true rfl⟩) hK hP hS rfl hl.1 (Nat.le_of_ble_eq_true rfl) (Nat.le_of_ble_eq_true rfl) (Nat.le_of_ble_eq_true rfl) dX7_helper_8 (fun H locs hP hS => ?_) rfl
  have hP : va_P D vwCl (VW K ad I1 G A L) H := hP
  refine lv_if_eq (tgt := 23) hx hb dX7_helper_11 (by decide) (fun c_4 => ?_) (fun c_4 => ?_)
  · have h := ip c_4 h
    refine lv_iconst (v := (-1)) hx hb dX7_helper_23 (by decide) ?_
    exact W.iret (v := (-1)) hx hb hr (fun t9 ht9 hW9 => ⟨⟨(-1), (I1, G, A, L), rfl, by cases h; exact ⟨rfl, rfl⟩, by rw [ht9]; exact hP, va_K.moved hW9.alike hK⟩, hS.F ht9⟩) hS.2.2 dX7_helper_24
  · have h := iN c_4 h
    refine lv_iload_n hx hb dX7_helper_14 rfl (lv_at hl 2 rfl) ?_
    refine lv_iconst (v := 0) hx hb dX7_helper_15 (by decide) ?_
    refine lv_iconst (v := 2) hx hb dX7_helper_16 (by decide) ?_
    obtain ⟨r5, hc6, h⟩ := Option.bind_eq_some_iff.mp h
    refine ecS (As := [.int a2, .int 0, .int 2]) (rest := []) ⟨hx, hb, hml, hown, hts⟩ (e_X7_in l D K ad hap0 a2 0 2 I1 G A L r5 hc6) (va_cwS 3 hts gX7_helper_X7_in rfl rfl rfl (by decide +kernel) ⟨Nat.le_of_ble_eq_true rfl, Nat.le_of_ble_eq_true rfl⟩) hK hP hS rfl hl.1 (Nat.le_of_ble_eq_true rfl) (Nat.le_of_ble_eq_true rfl) (Nat.le_of_ble_eq_true rfl) dX7_helper_17 (fun H locs hP hS => ?_) rfl
    have hP : va_P D vwCl (VW K ad I1 G A L) H := hP
    refine lv_if_ne (tgt := 25) hx hb dX7_helper_20 (by decide) (fun c_7 => ?_) (fun c_7 => ?_)
    · have h := iN c_7 h
      refine lv_iload_n hx hb dX7_helper_25 rfl (lv_at hl 2 rfl) ?_
      refine lv_if_ne (tgt := 38) hx hb dX7_helper_26 (by decide) (fun c_8 => ?_) (fun c_8 => ?_)
      · have h := iN c_8 h
        refine lv_iload_n hx hb dX7_helper_38 rfl (lv_at hl 2 rfl) ?_
        refine lv_iconst (v := 1) hx hb dX7_helper_39 (by decide) ?_
        refine lv_icmp_ne (tgt := 52) hx hb dX7_helper_40 (by decide) (fun c_9 => ?_) (fun c_9 => ?_)
        · have h := iN c_9 h
          refine lv_aload_n hx hb dX7_helper_52 rfl (lv_at hl 0 rfl) ?_
          refine vgC hx hb hts hi7 hown hK hP (318) (by decide) (show kd 318 = 7 by decide) (C := RX7) (T := TX7) (N := 79) rfl 21 (by decide) (by decide) (by decide) (by decide) (333) rfl (hts (.fieldLink RX7 56 "CrateHelpersModel" "replaced" "[I") (by decide +kernel)) (fun _ h9 => h9) dX7_helper_53 ?_
          refine lv_iload_n hx hb dX7_helper_56 rfl (lv_at hl 1 rfl) ?_
          obtain ⟨hn10, h⟩ := gk h
          refine xiald hx hb hK hP (333) (by decide) (show kd 333 = 8 by decide) (by rw [show ln 333 = 5 by decide]; exact hn10) dX7_helper_57 ?_
          exact W.iret (v := (A 333 a1.toNatClampNeg)) hx hb hr (fun t9 ht9 hW9 => ⟨⟨(A 333 a1.toNatClampNeg), (I1, G, A, L), rfl, by cases h; exact ⟨rfl, rfl⟩, by rw [ht9]; exact hP, va_K.moved hW9.alike hK⟩, hS.F ht9⟩) hS.2.2 dX7_helper_58
        · have h := ip c_9 h
          refine lv_aload_n hx hb dX7_helper_43 rfl (lv_at hl 0 rfl) ?_
          refine vgC hx hb hts hi7 hown hK hP (318) (by decide) (show kd 318 = 7 by decide) (C := RX7) (T := TX7) (N := 79) rfl 20 (by decide) (by decide) (by decide) (by decide) (332) rfl (hts (.fieldLink RX7 53 "CrateHelpersModel" "idle" "[I") (by decide +kernel)) (fun _ h9 => h9) dX7_helper_44 ?_
          refine lv_iload_n hx hb dX7_helper_47 rfl (lv_at hl 1 rfl) ?_
          obtain ⟨hn11, h⟩ := gk h
          refine xiald hx hb hK hP (332) (by decide) (show kd 332 = 8 by decide) (by rw [show ln 332 = 5 by decide]; exact hn11) dX7_helper_48 ?_
          refine lv_goto (tgt := 58) hx hb dX7_helper_49 (by decide) ?_
          exact W.iret (v := (A 332 a1.toNatClampNeg)) hx hb hr (fun t9 ht9 hW9 => ⟨⟨(A 332 a1.toNatClampNeg), (I1, G, A, L), rfl, by cases h; exact ⟨rfl, rfl⟩, by rw [ht9]; exact hP, va_K.moved hW9.alike hK⟩, hS.F ht9⟩) hS.2.2 dX7_helper_58
      · have h := ip c_8 h
        refine lv_aload_n hx hb dX7_helper_29 rfl (lv_at hl 0 rfl) ?_
        refine vgC hx hb hts hi7 hown hK hP (318) (by decide) (show kd 318 = 7 by decide) (C := RX7) (T := TX7) (N := 79) rfl 22 (by decide) (by decide) (by decide) (by decide) (334) rfl (hts (.fieldLink RX7 59 "CrateHelpersModel" "didNow" "[I") (by decide +kernel)) (fun _ h9 => h9) dX7_helper_30 ?_
        refine lv_iload_n hx hb dX7_helper_33 rfl (lv_at hl 1 rfl) ?_
        obtain ⟨hn12, h⟩ := gk h
        refine xiald hx hb hK hP (334) (by decide) (show kd 334 = 8 by decide) (by rw [show ln 334 = 5 by decide]; exact hn12) dX7_helper_34 ?_
        refine lv_goto (tgt := 58) hx hb dX7_helper_35 (by decide) ?_
        exact W.iret (v := (A 334 a1.toNatClampNeg)) hx hb hr (fun t9 ht9 hW9 => ⟨⟨(A 334 a1.toNatClampNeg), (I1, G, A, L), rfl, by cases h; exact ⟨rfl, rfl⟩, by rw [ht9]; exact hP, va_K.moved hW9.alike hK⟩, hS.F ht9⟩) hS.2.2 dX7_helper_58
    · have h := ip c_7 h
      refine lv_iconst (v := (-1)) hx hb dX7_helper_23 (by decide) ?_
      exact W.iret (v := (-1)) hx hb hr (fun t9 ht9 hW9 => ⟨⟨(-1), (I1, G, A, L), rfl, by cases h; exact ⟨rfl, rfl⟩, by rw [ht9]; exact hP, va_K.moved hW9.alike hK⟩, hS.F ht9⟩) hS.2.2 dX7_helper_24
set_option maxHeartbeats 4000000 in
set_option maxRecDepth 100000 in
theorem e_X7_helpers (l : Launch) (D : va_G) (K : Nat → ClassId) (ad : Nat → Nat) (hap0 : apart ad (fun _ => True)) (a1 : Int32) (I : Nat → Nat → Int32) (G : Nat → Nat → Nat) (A : Nat → Nat → Int32) (L : Nat → Nat → Int64) (r0 : Int32) (I0 : Nat → Nat → Int32) (A0 : Nat → Nat → Int32) (h : f_X7_helpers I A a1 = some (r0, I0, A0)) : Ci l D K ad yX7_helpers wsX7_helpers 1 25 [.ref (ad 318), .int a1] (I, G, A, L) (fun (r : Int32) (u : Mem) => r = r0 ∧ u = (I0, G, A0, L)) := by
  intro sz
  refine Met.ofW (cc := cX7_helpers) (maxL := 4) (ret := (some .int)) (by decide) rfl ?_
  intro p e s m args below meth c s₁ Bd hml hv0
  obtain ⟨rfl, hsz, hP, hK⟩ := hv0
  have hx := Bd.exec
  have hb := Bd.bytes
  have hr := Bd.returns
  have hts := atoms_spec (ws := wsX7_helpers) Bd.pre
  have hown : s.vm.findClass RX7 = some m.cls := findClass_of_methodNamed Bd.named
  have hlocks := Bd.notSynchronized
  have hi7 : ∀ w ∈ u_ws RX7 TX7 79, w ∈ wsX7_helpers := fun w h => List.mem_cons_of_mem _ (List.mem_append_right _ h)
  subst hsz
  have hap := vF_ap hap0 s.heap.size
  have hS : va_S (vF ad s.heap.size) s.heap s.heap [] := va_S.rf
  have hP : va_P D vwCl (VW K ad I G A L) s.heap := hP
  have hl := lv_entry ([.ref (ad 318), .int a1]) (n := 4) (Nat.le_of_ble_eq_true rfl)
  rw [lg_entry_eq]
  generalize (lg_sl ([.ref (ad 318), .int a1]) ++ List.replicate (4 - (lg_sl ([.ref (ad 318), .int a1])).length) Slot.unset).toArray = ls at hl ⊢
  have hl : lv_has ls 4 [(0, .ref (ad 318)), (1, .int a1)] := hl
  rw [f_X7_helpers] at h
  refine lv_aload_n hx hb dX7_helpers_0 rfl (lv_at hl 0 rfl) ?_
  refine lv_iconst (v := 0) hx hb dX7_helpers_1 (by decide) ?_
  refine vpI (v := 0) (ty := .int) hx hb hts hi7 tyX7 tyX7_ok nmX7 hown hK hP hap hS (318) (by decide) (show kd 318 = 7 by decide) (C := RX7) (T := TX7) (N := 79) rfl 0 (by decide) (by decide) (by decide) (by decide) (hts (.fieldLink RX7 201 "CrateHelpersModel" "thrown" "I") (by decide +kernel)) (fun _ h9 => h9) rfl (by decide +kernel) rfl rfl dX7_helpers_2 (fun H locs hP hS => ?_)
  obtain ⟨I1, eI1, h⟩ := bd_e h
  rw [← eI1] at hP
  have hP : va_P D vwCl (VW K ad I1 G A L) H := hP
  refine lv_iload_n hx hb dX7_helpers_5 rfl (lv_at hl 1 rfl) ?_
  refine lv_iconst (v := 1) hx hb dX7_helpers_6 (by decide) ?_
  refine lv_iconst (v := 5) hx hb dX7_helpers_7 (by decide) ?_
  obtain ⟨r2, hc3, h⟩ := Option.bind_eq_some_iff.mp h
  refine ecS (As := [.int a1, .int 1, .int 5]) (rest := []) ⟨hx, hb, hml, hown, hts⟩ (e_X7_in l D K ad hap0 a1 1 5 I1 G A L r2 hc3) (va_cwS 3 hts gX7_helpers_X7_in rfl rfl rfl (by decide +kernel) ⟨Nat.le_of_ble_eq_true rfl, Nat.le_of_ble_eq_true rfl⟩) hK hP hS rfl hl.1 (Nat.le_of_ble_eq_true rfl) (Nat.le_of_ble_eq_true rfl) (Nat.le_of_ble_eq_true rfl) dX7_helpers_8 (fun H locs hP hS => ?_) rfl
  have hP : va_P D vwCl (VW K ad I1 G A L) H := hP
  refine lv_if_ne (tgt := 16) hx hb dX7_helpers_11 (by decide) (fun c_4 => ?_) (fun c_4 => ?_)
  · have h := iN c_4 h
    refine lv_aload_n hx hb dX7_helpers_16 rfl (lv_at hl 0 rfl) ?_
    refine vgI hx hb hts hi7 hown hK hP (318) (by decide) (show kd 318 = 7 by decide) (C := RX7) (T := TX7) (N := 79) rfl 23 (by decide) (by decide) (by decide) (by decide) (hts (.fieldLink RX7 62 "CrateHelpersModel" "under" "I") (by decide +kernel)) (fun _ h9 => h9) dX7_helpers_17 ?_
    refine lv_bipush (v := (-9)) hx hb dX7_helpers_20 (by decide) ?_
    refine lv_icmp_eq (tgt := 28) hx hb dX7_helpers_22 (by decide) (fun c_5 => ?_) (fun c_5 => ?_)
    · have h := ip c_5 h
      refine lv_aload_n hx hb dX7_helpers_28 rfl (lv_at hl 0 rfl) ?_
      refine vgI hx hb hts hi7 hown hK hP (318) (by decide) (show kd 318 = 7 by decide) (C := RX7) (T := TX7) (N := 79) rfl 15 (by decide) (by decide) (by decide) (by decide) (hts (.fieldLink RX7 43 "CrateHelpersModel" "helpers" "I") (by decide +kernel)) (fun _ h9 => h9) dX7_helpers_29 ?_
      refine lv_istore_n (lv' := [(2, .int (I1 318 15)), (0, .ref (ad 318)), (1, .int a1)]) hx hb dX7_helpers_32 rfl hl (by decide) rfl (fun ls hl => ?_)
      refine lv_aload_n hx hb dX7_helpers_33 rfl (lv_at hl 1 rfl) ?_
      refine lv_iload_n hx hb dX7_helpers_34 rfl (lv_at hl 2 rfl) ?_
      refine vpI (v := a1) (ty := .int) hx hb hts hi7 tyX7 tyX7_ok nmX7 hown hK hP hap hS (318) (by decide) (show kd 318 = 7 by decide) (C := RX7) (T := TX7) (N := 79) rfl 15 (by decide) (by decide) (by decide) (by decide) (hts (.fieldLink RX7 43 "CrateHelpersModel" "helpers" "I") (by decide +kernel)) (fun _ h9 => h9) rfl (by decide +kernel) rfl rfl dX7_helpers_35 (fun H locs hP hS => ?_)
      obtain ⟨I6, eI6, h⟩ := bd_e h
      rw [← eI6] at hP
      have hP : va_P D vwCl (VW K ad I6 G A L) H := hP
      refine lv_iconst (v := 0) hx hb dX7_helpers_38 (by decide) ?_
      refine lv_istore_n (lv' := [(3, .int 0), (2, .int (I1 318 15)), (0, .ref (ad 318)), (1, .int a1)]) hx hb dX7_helpers_39 rfl hl (by decide) rfl (fun ls hl => ?_)
      obtain ⟨k11, ek11, h⟩ := bd_e h
      have kk11 : ∀ (v12 : Int32) (A13 : Nat → Nat → Int32), k11 v12 A13 = some (r0, I0, A0) → ∀ (H : Heap) (locs : List Loc), va_P D vwCl (VW K ad I6 G A13 L) H → va_S (vF ad s.heap.size) s.heap H locs → ∀ (ls : Array Slot), lv_has ls 4 [(2, .int v12)] → W p l e ({ frames := 1, cells := 0, slots := 0, locals := 25 }) s m ([.ref (ad 318), .int a1] : List Value).toArray below meth c H locs 0 0 (MQ below (va_Qi (fun (r : Int32) (u : Mem) => r = r0 ∧ u = (I0, G, A0, L)) (vB D K ad) (vF ad s.heap.size)) ([.ref (ad 318), .int a1] : List Value).toArray s 0 0 (vF ad s.heap.size)) (F0 m 58 ls []) := by
        intro v12 A13 h H locs hP hS ls hl
        subst ek11
        refine lv_iload_n hx hb dX7_helpers_58 rfl (lv_at hl 0 rfl) ?_
        exact W.iret (v := v12) hx hb hr (fun t9 ht9 hW9 => ⟨⟨v12, (I6, G, A13, L), rfl, by cases h; exact ⟨rfl, rfl⟩, by rw [ht9]; exact hP, va_K.moved hW9.alike hK⟩, hS.F ht9⟩) hS.2.2 dX7_helpers_59
      have lp7 : ∀ (n : Nat) (v8 : Int32) (v9 : Int32) (A10 : Nat → Nat → Int32), f_X7_helpers_L40 I6 k11 n v8 v9 A10 = some (r0, I0, A0) → ∀ (H : Heap) (locs : List Loc), va_P D vwCl (VW K ad I6 G A10 L) H → va_S (vF ad s.heap.size) s.heap H locs → ∀ (ls : Array Slot), lv_has ls 4 [(3, .int v8), (2, .int v9), (0, .ref (ad 318))] → W p l e ({ frames := 1, cells := 0, slots := 0, locals := 25 }) s m ([.ref (ad 318), .int a1] : List Value).toArray below meth c H locs 0 0 (MQ below (va_Qi (fun (r : Int32) (u : Mem) => r = r0 ∧ u = (I0, G, A0, L)) (vB D K ad) (vF ad s.heap.size)) ([.ref (ad 318), .int a1] : List Value).toArray s 0 0 (vF ad s.heap.size)) (F0 m 40 ls []) := by
        intro n
        induction n with
        | zero => intro v8 v9 A10 h; exact absurd h (by rw [f_X7_helpers_L40]; exact nofun)
        | succ n ih7 =>
          intro v8 v9 A10 h H locs hP hS ls hl
          rw [f_X7_helpers_L40] at h
          refine lv_iload_n hx hb dX7_helpers_40 rfl (lv_at hl 0 rfl) ?_
          refine lv_iconst (v := 5) hx hb dX7_helpers_41 (by decide) ?_
          refine lv_icmp_ge (tgt := 58) hx hb dX7_helpers_42 (by decide) (fun c_14 => ?_) (fun c_14 => ?_)
          · have h := iN (Int32.not_lt.mpr c_14) h
            exact kk11 v9 A10 h _ _ hP hS ls (lv_sub hl [1] rfl)
          · have h := ip (Int32.not_le.mp c_14) h
            refine lv_aload_n hx hb dX7_helpers_45 rfl (lv_at hl 2 rfl) ?_
            refine vgC hx hb hts hi7 hown hK hP (318) (by decide) (show kd 318 = 7 by decide) (C := RX7) (T := TX7) (N := 79) rfl 16 (by decide) (by decide) (by decide) (by decide) (330) rfl (hts (.fieldLink RX7 47 "CrateHelpersModel" "failAt" "[I") (by decide +kernel)) (fun _ h9 => h9) dX7_helpers_46 ?_
            refine lv_iload_n hx hb dX7_helpers_49 rfl (lv_at hl 0 rfl) ?_
            refine lv_iconst (v := 0) hx hb dX7_helpers_50 (by decide) ?_
            obtain ⟨hn15, h⟩ := gk h
            refine xiast hx hb hK hP hap hS (330) (by decide) (show kd 330 = 8 by decide) (by rw [show ln 330 = 5 by decide]; exact hn15) dX7_helpers_51 (fun H locs hP hS => ?_)
            obtain ⟨A16, eA16, h⟩ := bd_e h
            rw [← eA16] at hP
            have hP : va_P D vwCl (VW K ad I6 G A16 L) H := hP
            refine lv_iinc (v := (v8 + 1)) (lv' := [(3, .int (v8 + 1)), (2, .int v9), (0, .ref (ad 318))]) hx hb dX7_helpers_52 hl (k := 0) rfl rfl (by decide) rfl (fun ls hl => ?_)
            refine lv_goto (tgt := 40) hx hb dX7_helpers_55 (by decide) ?_
            exact ih7 (v8 + 1) v9 A16 h _ _ hP hS ls (lv_sub hl [0, 1, 2] rfl)
      exact lp7 FU 0 (I1 318 15) A h _ _ hP hS ls (lv_sub hl [0, 1, 2] rfl)
    · have h := iN c_5 h
      refine lv_bipush (v := (-2)) hx hb dX7_helpers_25 (by decide) ?_
      exact W.iret (v := (-2)) hx hb hr (fun t9 ht9 hW9 => ⟨⟨(-2), (I1, G, A, L), rfl, by cases h; exact ⟨rfl, rfl⟩, by rw [ht9]; exact hP, va_K.moved hW9.alike hK⟩, hS.F ht9⟩) hS.2.2 dX7_helpers_27
  · have h := ip c_4 h
    refine lv_iconst (v := (-1)) hx hb dX7_helpers_14 (by decide) ?_
    exact W.iret (v := (-1)) hx hb hr (fun t9 ht9 hW9 => ⟨⟨(-1), (I1, G, A, L), rfl, by cases h; exact ⟨rfl, rfl⟩, by rw [ht9]; exact hP, va_K.moved hW9.alike hK⟩, hS.F ht9⟩) hS.2.2 dX7_helpers_15
set_option maxHeartbeats 4000000 in
set_option maxRecDepth 100000 in
theorem e_X7_limit (l : Launch) (D : va_G) (K : Nat → ClassId) (ad : Nat → Nat) (hap0 : apart ad (fun _ => True)) (a1 : Int32) (I : Nat → Nat → Int32) (G : Nat → Nat → Nat) (A : Nat → Nat → Int32) (L : Nat → Nat → Int64) (r0 : Int32) (I0 : Nat → Nat → Int32) (h : f_X7_limit I a1 = some (r0, I0)) : Ci l D K ad yX7_limit wsX7_limit 1 25 [.ref (ad 318), .int a1] (I, G, A, L) (fun (r : Int32) (u : Mem) => r = r0 ∧ u = (I0, G, A, L)) := by
  intro sz
  refine Met.ofW (cc := cX7_limit) (maxL := 3) (ret := (some .int)) (by decide) rfl ?_
  intro p e s m args below meth c s₁ Bd hml hv0
  obtain ⟨rfl, hsz, hP, hK⟩ := hv0
  have hx := Bd.exec
  have hb := Bd.bytes
  have hr := Bd.returns
  have hts := atoms_spec (ws := wsX7_limit) Bd.pre
  have hown : s.vm.findClass RX7 = some m.cls := findClass_of_methodNamed Bd.named
  have hlocks := Bd.notSynchronized
  have hi7 : ∀ w ∈ u_ws RX7 TX7 79, w ∈ wsX7_limit := fun w h => List.mem_cons_of_mem _ (List.mem_append_right _ h)
  subst hsz
  have hap := vF_ap hap0 s.heap.size
  have hS : va_S (vF ad s.heap.size) s.heap s.heap [] := va_S.rf
  have hP : va_P D vwCl (VW K ad I G A L) s.heap := hP
  have hl := lv_entry ([.ref (ad 318), .int a1]) (n := 3) (Nat.le_of_ble_eq_true rfl)
  rw [lg_entry_eq]
  generalize (lg_sl ([.ref (ad 318), .int a1]) ++ List.replicate (3 - (lg_sl ([.ref (ad 318), .int a1])).length) Slot.unset).toArray = ls at hl ⊢
  have hl : lv_has ls 3 [(0, .ref (ad 318)), (1, .int a1)] := hl
  rw [f_X7_limit] at h
  refine lv_aload_n hx hb dX7_limit_0 rfl (lv_at hl 0 rfl) ?_
  refine lv_iconst (v := 0) hx hb dX7_limit_1 (by decide) ?_
  refine vpI (v := 0) (ty := .int) hx hb hts hi7 tyX7 tyX7_ok nmX7 hown hK hP hap hS (318) (by decide) (show kd 318 = 7 by decide) (C := RX7) (T := TX7) (N := 79) rfl 0 (by decide) (by decide) (by decide) (by decide) (hts (.fieldLink RX7 201 "CrateHelpersModel" "thrown" "I") (by decide +kernel)) (fun _ h9 => h9) rfl (by decide +kernel) rfl rfl dX7_limit_2 (fun H locs hP hS => ?_)
  obtain ⟨I1, eI1, h⟩ := bd_e h
  rw [← eI1] at hP
  have hP : va_P D vwCl (VW K ad I1 G A L) H := hP
  refine lv_iload_n hx hb dX7_limit_5 rfl (lv_at hl 1 rfl) ?_
  refine lv_iconst (v := 0) hx hb dX7_limit_6 (by decide) ?_
  refine lv_sipush (v := 1000) hx hb dX7_limit_7 (by decide) ?_
  obtain ⟨r2, hc3, h⟩ := Option.bind_eq_some_iff.mp h
  refine ecS (As := [.int a1, .int 0, .int 1000]) (rest := []) ⟨hx, hb, hml, hown, hts⟩ (e_X7_in l D K ad hap0 a1 0 1000 I1 G A L r2 hc3) (va_cwS 3 hts gX7_limit_X7_in rfl rfl rfl (by decide +kernel) ⟨Nat.le_of_ble_eq_true rfl, Nat.le_of_ble_eq_true rfl⟩) hK hP hS rfl hl.1 (Nat.le_of_ble_eq_true rfl) (Nat.le_of_ble_eq_true rfl) (Nat.le_of_ble_eq_true rfl) dX7_limit_10 (fun H locs hP hS => ?_) rfl
  have hP : va_P D vwCl (VW K ad I1 G A L) H := hP
  refine lv_if_ne (tgt := 18) hx hb dX7_limit_13 (by decide) (fun c_4 => ?_) (fun c_4 => ?_)
  · have h := iN c_4 h
    refine lv_aload_n hx hb dX7_limit_18 rfl (lv_at hl 0 rfl) ?_
    refine vgI hx hb hts hi7 hown hK hP (318) (by decide) (show kd 318 = 7 by decide) (C := RX7) (T := TX7) (N := 79) rfl 23 (by decide) (by decide) (by decide) (by decide) (hts (.fieldLink RX7 62 "CrateHelpersModel" "under" "I") (by decide +kernel)) (fun _ h9 => h9) dX7_limit_19 ?_
    refine lv_bipush (v := (-9)) hx hb dX7_limit_22 (by decide) ?_
    refine lv_icmp_eq (tgt := 30) hx hb dX7_limit_24 (by decide) (fun c_5 => ?_) (fun c_5 => ?_)
    · have h := ip c_5 h
      refine lv_aload_n hx hb dX7_limit_30 rfl (lv_at hl 0 rfl) ?_
      refine vgI hx hb hts hi7 hown hK hP (318) (by decide) (show kd 318 = 7 by decide) (C := RX7) (T := TX7) (N := 79) rfl 19 (by decide) (by decide) (by decide) (by decide) (hts (.fieldLink RX7 246 "CrateHelpersModel" "limit" "I") (by decide +kernel)) (fun _ h9 => h9) dX7_limit_31 ?_
      refine lv_istore_n (lv' := [(2, .int (I1 318 19)), (0, .ref (ad 318)), (1, .int a1)]) hx hb dX7_limit_34 rfl hl (by decide) rfl (fun ls hl => ?_)
      refine lv_aload_n hx hb dX7_limit_35 rfl (lv_at hl 1 rfl) ?_
      refine lv_iload_n hx hb dX7_limit_36 rfl (lv_at hl 2 rfl) ?_
      refine vpI (v := a1) (ty := .int) hx hb hts hi7 tyX7 tyX7_ok nmX7 hown hK hP hap hS (318) (by decide) (show kd 318 = 7 by decide) (C := RX7) (T := TX7) (N := 79) rfl 19 (by decide) (by decide) (by decide) (by decide) (hts (.fieldLink RX7 246 "CrateHelpersModel" "limit" "I") (by decide +kernel)) (fun _ h9 => h9) rfl (by decide +kernel) rfl rfl dX7_limit_37 (fun H locs hP hS => ?_)
      obtain ⟨I6, eI6, h⟩ := bd_e h
      rw [← eI6] at hP
      have hP : va_P D vwCl (VW K ad I6 G A L) H := hP
      refine lv_iload_n hx hb dX7_limit_40 rfl (lv_at hl 0 rfl) ?_
      exact W.iret (v := (I1 318 19)) hx hb hr (fun t9 ht9 hW9 => ⟨⟨(I1 318 19), (I6, G, A, L), rfl, by cases h; exact ⟨rfl, rfl⟩, by rw [ht9]; exact hP, va_K.moved hW9.alike hK⟩, hS.F ht9⟩) hS.2.2 dX7_limit_41
    · have h := iN c_5 h
      refine lv_bipush (v := (-2)) hx hb dX7_limit_27 (by decide) ?_
      exact W.iret (v := (-2)) hx hb hr (fun t9 ht9 hW9 => ⟨⟨(-2), (I1, G, A, L), rfl, by cases h; exact ⟨rfl, rfl⟩, by rw [ht9]; exact hP, va_K.moved hW9.alike hK⟩, hS.F ht9⟩) hS.2.2 dX7_limit_29
  · have h := ip c_4 h
    refine lv_iconst (v := (-1)) hx hb dX7_limit_16 (by decide) ?_
    exact W.iret (v := (-1)) hx hb hr (fun t9 ht9 hW9 => ⟨⟨(-1), (I1, G, A, L), rfl, by cases h; exact ⟨rfl, rfl⟩, by rw [ht9]; exact hP, va_K.moved hW9.alike hK⟩, hS.F ht9⟩) hS.2.2 dX7_limit_17
