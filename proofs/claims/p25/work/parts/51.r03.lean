set_option maxHeartbeats 4000000 in
set_option maxRecDepth 100000 in
theorem e_X7_isOut (l : Launch) (D : va_G) (K : Nat → ClassId) (ad : Nat → Nat) (hap0 : apart ad (fun _ => True)) (a1 : Int32) (a2 : Int32) (a3 : Int32) (I : Nat → Nat → Int32) (G : Nat → Nat → Nat) (A : Nat → Nat → Int32) (L : Nat → Nat → Int64) (r0 : Int32) (A0 : Nat → Nat → Int32) (h : f_X7_isOut A a1 a2 a3 = some (r0, A0)) : Ci l D K ad yX7_isOut wsX7_isOut 3 86 [.ref (ad 318), .int a1, .int a2, .int a3] (I, G, A, L) (fun (r : Int32) (u : Mem) => r = r0 ∧ u = (I, G, A0, L)) := by
  intro sz
  refine Met.ofW (cc := cX7_isOut) (maxL := 6) (ret := (some .boolean)) (by decide) rfl ?_
  intro p e s m args below meth c s₁ Bd hml hv0
  obtain ⟨rfl, hsz, hP, hK⟩ := hv0
  have hx := Bd.exec
  have hb := Bd.bytes
  have hr := Bd.returns
  have hts := atoms_spec (ws := wsX7_isOut) Bd.pre
  have hown : s.vm.findClass RX7 = some m.cls := findClass_of_methodNamed Bd.named
  have hlocks := Bd.notSynchronized
  have hi7 : ∀ w ∈ u_ws RX7 TX7 79, w ∈ wsX7_isOut := fun w h => List.mem_cons_of_mem _ (List.mem_append_right _ h)
  subst hsz
  have hap := vF_ap hap0 s.heap.size
  have hS : va_S (vF ad s.heap.size) s.heap s.heap [] := va_S.rf
  have hP : va_P D vwCl (VW K ad I G A L) s.heap := hP
  have hl := lv_entry ([.ref (ad 318), .int a1, .int a2, .int a3]) (n := 6) (Nat.le_of_ble_eq_true rfl)
  rw [lg_entry_eq]
  generalize (lg_sl ([.ref (ad 318), .int a1, .int a2, .int a3]) ++ List.replicate (6 - (lg_sl ([.ref (ad 318), .int a1, .int a2, .int a3])).length) Slot.unset).toArray = ls at hl ⊢
  have hl : lv_has ls 6 [(0, .ref (ad 318)), (1, .int a1), (2, .int a2), (3, .int a3)] := hl
  rw [f_X7_isOut] at h
  refine lv_aload_n hx hb dX7_isOut_0 rfl (lv_at hl 0 rfl) ?_
  refine vgC hx hb hts hi7 hown hK hP (318) (by decide) (show kd 318 = 7 by decide) (C := RX7) (T := TX7) (N := 79) rfl 63 (by decide) (by decide) (by decide) (by decide) (364) rfl (hts (.fieldLink RX7 159 "CrateHelpersModel" "now" "[I") (by decide +kernel)) (fun _ h9 => h9) dX7_isOut_1 ?_
  refine lv_iload_n hx hb dX7_isOut_4 rfl (lv_at hl 2 rfl) ?_
  obtain ⟨hn1, h⟩ := gk h
  refine xiald hx hb hK hP (364) (by decide) (show kd 364 = 8 by decide) (by rw [show ln 364 = 6 by decide]; exact hn1) dX7_isOut_5 ?_
  refine lv_istore (lv' := [(4, .int (A 364 a2.toNatClampNeg)), (0, .ref (ad 318)), (1, .int a1), (2, .int a2), (3, .int a3)]) hx hb dX7_isOut_6 hl (by decide) rfl (fun ls hl => ?_)
  refine lv_aload_n hx hb dX7_isOut_8 rfl (lv_at hl 1 rfl) ?_
  refine vgC hx hb hts hi7 hown hK hP (318) (by decide) (show kd 318 = 7 by decide) (C := RX7) (T := TX7) (N := 79) rfl 63 (by decide) (by decide) (by decide) (by decide) (364) rfl (hts (.fieldLink RX7 159 "CrateHelpersModel" "now" "[I") (by decide +kernel)) (fun _ h9 => h9) dX7_isOut_9 ?_
  refine lv_iload_n hx hb dX7_isOut_12 rfl (lv_at hl 3 rfl) ?_
  refine lv_iload_n hx hb dX7_isOut_13 rfl (lv_at hl 4 rfl) ?_
  refine xiast hx hb hK hP hap hS (364) (by decide) (show kd 364 = 8 by decide) (by rw [show ln 364 = 6 by decide]; exact hn1) dX7_isOut_14 (fun H locs hP hS => ?_)
  obtain ⟨A2, eA2, h⟩ := bd_e h
  rw [← eA2] at hP
  have hP : va_P D vwCl (VW K ad I G A2 L) H := hP
  refine lv_aload_n hx hb dX7_isOut_15 rfl (lv_at hl 1 rfl) ?_
  refine lv_iload_n hx hb dX7_isOut_16 rfl (lv_at hl 2 rfl) ?_
  obtain ⟨r3, hc4, h⟩ := Option.bind_eq_some_iff.mp h
  refine ecV (As := [.int a1]) (rest := []) ⟨hx, hb, hml, hown, hts⟩ (e_X7_brokenBy l D K ad hap0 a1 I G A2 L r3 hc4) (cwV 1 hts gX7_isOut_X7_brokenBy rfl rfl rfl (by decide +kernel) ⟨Nat.le_of_ble_eq_true rfl, Nat.le_of_ble_eq_true rfl⟩) hK hP hS (by decide) (show kd 318 = 7 by decide) (by decide) rfl rfl rfl hl.1 (Nat.le_of_ble_eq_true rfl) (Nat.le_of_ble_eq_true rfl) (Nat.le_of_ble_eq_true rfl) dX7_isOut_17 (fun H locs hP hS => ?_) rfl
  have hP : va_P D vwCl (VW K ad I G A2 L) H := hP
  refine lv_bipush (v := (-9)) hx hb dX7_isOut_20 (by decide) ?_
  refine lv_icmp_eq (tgt := 29) hx hb dX7_isOut_22 (by decide) (fun c_5 => ?_) (fun c_5 => ?_)
  · have h := ip c_5 h
    refine lv_iconst (v := 0) hx hb dX7_isOut_29 (by decide) ?_
    refine lv_istore (lv' := [(5, .int 0), (4, .int (A 364 a2.toNatClampNeg)), (0, .ref (ad 318)), (1, .int a1), (2, .int a2), (3, .int a3)]) hx hb dX7_isOut_30 hl (by decide) rfl (fun ls hl => ?_)
    refine lv_aload_n hx hb dX7_isOut_32 rfl (lv_at hl 2 rfl) ?_
    refine vgC hx hb hts hi7 hown hK hP (318) (by decide) (show kd 318 = 7 by decide) (C := RX7) (T := TX7) (N := 79) rfl 63 (by decide) (by decide) (by decide) (by decide) (364) rfl (hts (.fieldLink RX7 159 "CrateHelpersModel" "now" "[I") (by decide +kernel)) (fun _ h9 => h9) dX7_isOut_33 ?_
    refine lv_iload_n hx hb dX7_isOut_36 rfl (lv_at hl 4 rfl) ?_
    refine lv_iload hx hb dX7_isOut_37 (lv_at hl 1 rfl) ?_
    refine xiast hx hb hK hP hap hS (364) (by decide) (show kd 364 = 8 by decide) (by rw [show ln 364 = 6 by decide]; exact hn1) dX7_isOut_39 (fun H locs hP hS => ?_)
    obtain ⟨A6, eA6, h⟩ := bd_e h
    rw [← eA6] at hP
    have hP : va_P D vwCl (VW K ad I G A6 L) H := hP
    refine lv_iload hx hb dX7_isOut_40 (lv_at hl 0 rfl) ?_
    exact W.zret (v := 0) hx hb hr (by decide) (fun t9 ht9 hW9 => ⟨⟨0, (I, G, A6, L), rfl, by cases h; exact ⟨rfl, rfl⟩, by rw [ht9]; exact hP, va_K.moved hW9.alike hK⟩, hS.F ht9⟩) hS.2.2 dX7_isOut_42
  · have h := iN c_5 h
    refine lv_iconst (v := 1) hx hb dX7_isOut_25 (by decide) ?_
    refine lv_goto (tgt := 30) hx hb dX7_isOut_26 (by decide) ?_
    refine lv_istore (lv' := [(5, .int 1), (4, .int (A 364 a2.toNatClampNeg)), (0, .ref (ad 318)), (1, .int a1), (2, .int a2), (3, .int a3)]) hx hb dX7_isOut_30 hl (by decide) rfl (fun ls hl => ?_)
    refine lv_aload_n hx hb dX7_isOut_32 rfl (lv_at hl 2 rfl) ?_
    refine vgC hx hb hts hi7 hown hK hP (318) (by decide) (show kd 318 = 7 by decide) (C := RX7) (T := TX7) (N := 79) rfl 63 (by decide) (by decide) (by decide) (by decide) (364) rfl (hts (.fieldLink RX7 159 "CrateHelpersModel" "now" "[I") (by decide +kernel)) (fun _ h9 => h9) dX7_isOut_33 ?_
    refine lv_iload_n hx hb dX7_isOut_36 rfl (lv_at hl 4 rfl) ?_
    refine lv_iload hx hb dX7_isOut_37 (lv_at hl 1 rfl) ?_
    refine xiast hx hb hK hP hap hS (364) (by decide) (show kd 364 = 8 by decide) (by rw [show ln 364 = 6 by decide]; exact hn1) dX7_isOut_39 (fun H locs hP hS => ?_)
    obtain ⟨A7, eA7, h⟩ := bd_e h
    rw [← eA7] at hP
    have hP : va_P D vwCl (VW K ad I G A7 L) H := hP
    refine lv_iload hx hb dX7_isOut_40 (lv_at hl 0 rfl) ?_
    exact W.zret (v := 1) hx hb hr (by decide) (fun t9 ht9 hW9 => ⟨⟨1, (I, G, A7, L), rfl, by cases h; exact ⟨rfl, rfl⟩, by rw [ht9]; exact hP, va_K.moved hW9.alike hK⟩, hS.F ht9⟩) hS.2.2 dX7_isOut_42
set_option maxHeartbeats 4000000 in
set_option maxRecDepth 100000 in
theorem e_X7_whatIs (l : Launch) (D : va_G) (K : Nat → ClassId) (ad : Nat → Nat) (hap0 : apart ad (fun _ => True)) (a1 : Int32) (a2 : Int32) (a3 : Int32) (I : Nat → Nat → Int32) (G : Nat → Nat → Nat) (A : Nat → Nat → Int32) (L : Nat → Nat → Int64) (r0 : Int32) (I0 : Nat → Nat → Int32) (A0 : Nat → Nat → Int32) (h : f_X7_whatIs I A a1 a2 a3 = some (r0, I0, A0)) : Ci l D K ad yX7_whatIs wsX7_whatIs 4 114 [.ref (ad 318), .int a1, .int a2, .int a3] (I, G, A, L) (fun (r : Int32) (u : Mem) => r = r0 ∧ u = (I0, G, A0, L)) := by
  intro sz
  refine Met.ofW (cc := cX7_whatIs) (maxL := 7) (ret := (some .int)) (by decide) rfl ?_
  intro p e s m args below meth c s₁ Bd hml hv0
  obtain ⟨rfl, hsz, hP, hK⟩ := hv0
  have hx := Bd.exec
  have hb := Bd.bytes
  have hr := Bd.returns
  have hts := atoms_spec (ws := wsX7_whatIs) Bd.pre
  have hown : s.vm.findClass RX7 = some m.cls := findClass_of_methodNamed Bd.named
  have hlocks := Bd.notSynchronized
  have hi7 : ∀ w ∈ u_ws RX7 TX7 79, w ∈ wsX7_whatIs := fun w h => List.mem_cons_of_mem _ (List.mem_append_right _ h)
  subst hsz
  have hap := vF_ap hap0 s.heap.size
  have hS : va_S (vF ad s.heap.size) s.heap s.heap [] := va_S.rf
  have hP : va_P D vwCl (VW K ad I G A L) s.heap := hP
  have hl := lv_entry ([.ref (ad 318), .int a1, .int a2, .int a3]) (n := 7) (Nat.le_of_ble_eq_true rfl)
  rw [lg_entry_eq]
  generalize (lg_sl ([.ref (ad 318), .int a1, .int a2, .int a3]) ++ List.replicate (7 - (lg_sl ([.ref (ad 318), .int a1, .int a2, .int a3])).length) Slot.unset).toArray = ls at hl ⊢
  have hl : lv_has ls 7 [(0, .ref (ad 318)), (1, .int a1), (2, .int a2), (3, .int a3)] := hl
  rw [f_X7_whatIs] at h
  refine lv_aload_n hx hb dX7_whatIs_0 rfl (lv_at hl 0 rfl) ?_
  refine lv_aload_n hx hb dX7_whatIs_1 rfl (lv_at hl 0 rfl) ?_
  refine lv_iload_n hx hb dX7_whatIs_2 rfl (lv_at hl 1 rfl) ?_
  obtain ⟨r1, hc2, h⟩ := Option.bind_eq_some_iff.mp h
  refine ecV (As := [.int a1]) (rest := [.ref (ad 318)]) ⟨hx, hb, hml, hown, hts⟩ (e_X7_brokenBy l D K ad hap0 a1 I G A L r1 hc2) (cwV 1 hts gX7_whatIs_X7_brokenBy rfl rfl rfl (by decide +kernel) ⟨Nat.le_of_ble_eq_true rfl, Nat.le_of_ble_eq_true rfl⟩) hK hP hS (by decide) (show kd 318 = 7 by decide) (by decide) rfl rfl rfl hl.1 (Nat.le_of_ble_eq_true rfl) (Nat.le_of_ble_eq_true rfl) (Nat.le_of_ble_eq_true rfl) dX7_whatIs_3 (fun H locs hP hS => ?_) rfl
  have hP : va_P D vwCl (VW K ad I G A L) H := hP
  refine vpI (v := r1) (ty := .int) hx hb hts hi7 tyX7 tyX7_ok nmX7 hown hK hP hap hS (318) (by decide) (show kd 318 = 7 by decide) (C := RX7) (T := TX7) (N := 79) rfl 64 (by decide) (by decide) (by decide) (by decide) (hts (.fieldLink RX7 272 "CrateHelpersModel" "why" "I") (by decide +kernel)) (fun _ h9 => h9) rfl (by decide +kernel) rfl rfl dX7_whatIs_6 (fun H locs hP hS => ?_)
  obtain ⟨I3, eI3, h⟩ := bd_e h
  rw [← eI3] at hP
  have hP : va_P D vwCl (VW K ad I3 G A L) H := hP
  refine lv_aload_n hx hb dX7_whatIs_9 rfl (lv_at hl 0 rfl) ?_
  refine vgI hx hb hts hi7 hown hK hP (318) (by decide) (show kd 318 = 7 by decide) (C := RX7) (T := TX7) (N := 79) rfl 64 (by decide) (by decide) (by decide) (by decide) (hts (.fieldLink RX7 272 "CrateHelpersModel" "why" "I") (by decide +kernel)) (fun _ h9 => h9) dX7_whatIs_10 ?_
  refine lv_bipush (v := (-9)) hx hb dX7_whatIs_13 (by decide) ?_
  refine lv_icmp_eq (tgt := 20) hx hb dX7_whatIs_15 (by decide) (fun c_4 => ?_) (fun c_4 => ?_)
  · have h := ip c_4 h
    refine lv_iconst (v := 0) hx hb dX7_whatIs_20 (by decide) ?_
    refine lv_istore (lv' := [(4, .int 0), (0, .ref (ad 318)), (1, .int a1), (2, .int a2), (3, .int a3)]) hx hb dX7_whatIs_21 hl (by decide) rfl (fun ls hl => ?_)
    obtain ⟨k7, ek7, h⟩ := bd_e h
    have kk7 : ∀ (v8 : Int32), k7 v8 = some (r0, I0, A0) → ∀ (H : Heap) (locs : List Loc), va_P D vwCl (VW K ad I3 G A L) H → va_S (vF ad s.heap.size) s.heap H locs → ∀ (ls : Array Slot), lv_has ls 7 [(0, .ref (ad 318)), (4, .int v8)] → W p l e ({ frames := 4, cells := 0, slots := 0, locals := 114 }) s m ([.ref (ad 318), .int a1, .int a2, .int a3] : List Value).toArray below meth c H locs 0 0 (MQ below (va_Qi (fun (r : Int32) (u : Mem) => r = r0 ∧ u = (I0, G, A0, L)) (vB D K ad) (vF ad s.heap.size)) ([.ref (ad 318), .int a1, .int a2, .int a3] : List Value).toArray s 0 0 (vF ad s.heap.size)) (F0 m 66 ls []) := by
      intro v8 h H locs hP hS ls hl
      subst ek7
      refine lv_aload_n hx hb dX7_whatIs_66 rfl (lv_at hl 0 rfl) ?_
      refine lv_iload hx hb dX7_whatIs_67 (lv_at hl 1 rfl) ?_
      refine vpI (v := v8) (ty := .int) hx hb hts hi7 tyX7 tyX7_ok nmX7 hown hK hP hap hS (318) (by decide) (show kd 318 = 7 by decide) (C := RX7) (T := TX7) (N := 79) rfl 64 (by decide) (by decide) (by decide) (by decide) (hts (.fieldLink RX7 272 "CrateHelpersModel" "why" "I") (by decide +kernel)) (fun _ h9 => h9) rfl (by decide +kernel) rfl rfl dX7_whatIs_69 (fun H locs hP hS => ?_)
      obtain ⟨I9, eI9, h⟩ := bd_e h
      rw [← eI9] at hP
      have hP : va_P D vwCl (VW K ad I9 G A L) H := hP
      refine lv_iconst (v := 2) hx hb dX7_whatIs_72 (by decide) ?_
      exact W.iret (v := 2) hx hb hr (fun t9 ht9 hW9 => ⟨⟨2, (I9, G, A, L), rfl, by cases h; exact ⟨rfl, rfl⟩, by rw [ht9]; exact hP, va_K.moved hW9.alike hK⟩, hS.F ht9⟩) hS.2.2 dX7_whatIs_73
    obtain ⟨k10, ek10, h⟩ := bd_e h
    have kk10 : ∀ (_ : Unit), k10 () = some (r0, I0, A0) → ∀ (H : Heap) (locs : List Loc), va_P D vwCl (VW K ad I3 G A L) H → va_S (vF ad s.heap.size) s.heap H locs → ∀ (ls : Array Slot), lv_has ls 7 [(0, .ref (ad 318)), (1, .int a1), (2, .int a2)] → W p l e ({ frames := 4, cells := 0, slots := 0, locals := 114 }) s m ([.ref (ad 318), .int a1, .int a2, .int a3] : List Value).toArray below meth c H locs 0 0 (MQ below (va_Qi (fun (r : Int32) (u : Mem) => r = r0 ∧ u = (I0, G, A0, L)) (vB D K ad) (vF ad s.heap.size)) ([.ref (ad 318), .int a1, .int a2, .int a3] : List Value).toArray s 0 0 (vF ad s.heap.size)) (F0 m 80 ls []) := by
      intro _ h H locs hP hS ls hl
      subst ek10
      refine lv_aload_n hx hb dX7_whatIs_80 rfl (lv_at hl 0 rfl) ?_
      refine lv_iconst (v := 0) hx hb dX7_whatIs_81 (by decide) ?_
      refine vpI (v := 0) (ty := .int) hx hb hts hi7 tyX7 tyX7_ok nmX7 hown hK hP hap hS (318) (by decide) (show kd 318 = 7 by decide) (C := RX7) (T := TX7) (N := 79) rfl 65 (by decide) (by decide) (by decide) (by decide) (hts (.fieldLink RX7 278 "CrateHelpersModel" "boundNow" "I") (by decide +kernel)) (fun _ h9 => h9) rfl (by decide +kernel) rfl rfl dX7_whatIs_82 (fun H locs hP hS => ?_)
      obtain ⟨I11, eI11, h⟩ := bd_e h
      rw [← eI11] at hP
      have hP : va_P D vwCl (VW K ad I11 G A L) H := hP
      refine lv_iconst (v := 0) hx hb dX7_whatIs_85 (by decide) ?_
      refine lv_istore (lv' := [(4, .int 0), (0, .ref (ad 318)), (1, .int a1), (2, .int a2)]) hx hb dX7_whatIs_86 hl (by decide) rfl (fun ls hl => ?_)
      obtain ⟨k16, ek16, h⟩ := bd_e h
      have kk16 : ∀ (v17 : Int32) (I18 : Nat → Nat → Int32) (A19 : Nat → Nat → Int32), k16 v17 I18 A19 = some (r0, I0, A0) → ∀ (H : Heap) (locs : List Loc), va_P D vwCl (VW K ad I18 G A19 L) H → va_S (vF ad s.heap.size) s.heap H locs → ∀ (ls : Array Slot), lv_has ls 7 [(0, .ref (ad 318)), (4, .int v17)] → W p l e ({ frames := 4, cells := 0, slots := 0, locals := 114 }) s m ([.ref (ad 318), .int a1, .int a2, .int a3] : List Value).toArray below meth c H locs 0 0 (MQ below (va_Qi (fun (r : Int32) (u : Mem) => r = r0 ∧ u = (I0, G, A0, L)) (vB D K ad) (vF ad s.heap.size)) ([.ref (ad 318), .int a1, .int a2, .int a3] : List Value).toArray s 0 0 (vF ad s.heap.size)) (F0 m 212 ls []) := by
        intro v17 I18 A19 h H locs hP hS ls hl
        subst ek16
        refine lv_aload_n hx hb dX7_whatIs_212 rfl (lv_at hl 0 rfl) ?_
        refine lv_iload hx hb dX7_whatIs_213 (lv_at hl 1 rfl) ?_
        refine vpI (v := v17) (ty := .int) hx hb hts hi7 tyX7 tyX7_ok nmX7 hown hK hP hap hS (318) (by decide) (show kd 318 = 7 by decide) (C := RX7) (T := TX7) (N := 79) rfl 64 (by decide) (by decide) (by decide) (by decide) (hts (.fieldLink RX7 272 "CrateHelpersModel" "why" "I") (by decide +kernel)) (fun _ h9 => h9) rfl (by decide +kernel) rfl rfl dX7_whatIs_215 (fun H locs hP hS => ?_)
        obtain ⟨I20, eI20, h⟩ := bd_e h
        rw [← eI20] at hP
        have hP : va_P D vwCl (VW K ad I20 G A19 L) H := hP
        refine lv_iconst (v := 3) hx hb dX7_whatIs_218 (by decide) ?_
        exact W.iret (v := 3) hx hb hr (fun t9 ht9 hW9 => ⟨⟨3, (I20, G, A19, L), rfl, by cases h; exact ⟨rfl, rfl⟩, by rw [ht9]; exact hP, va_K.moved hW9.alike hK⟩, hS.F ht9⟩) hS.2.2 dX7_whatIs_219
      obtain ⟨k21, ek21, h⟩ := bd_e h
      have kk21 : ∀ (I22 : Nat → Nat → Int32) (A23 : Nat → Nat → Int32), k21 I22 A23 = some (r0, I0, A0) → ∀ (H : Heap) (locs : List Loc), va_P D vwCl (VW K ad I22 G A23 L) H → va_S (vF ad s.heap.size) s.heap H locs → ∀ (ls : Array Slot), lv_has ls 7 [] → W p l e ({ frames := 4, cells := 0, slots := 0, locals := 114 }) s m ([.ref (ad 318), .int a1, .int a2, .int a3] : List Value).toArray below meth c H locs 0 0 (MQ below (va_Qi (fun (r : Int32) (u : Mem) => r = r0 ∧ u = (I0, G, A0, L)) (vB D K ad) (vF ad s.heap.size)) ([.ref (ad 318), .int a1, .int a2, .int a3] : List Value).toArray s 0 0 (vF ad s.heap.size)) (F0 m 244 ls []) := by
        intro I22 A23 h H locs hP hS ls hl
        subst ek21
        refine lv_iconst (v := 0) hx hb dX7_whatIs_244 (by decide) ?_
        exact W.iret (v := 0) hx hb hr (fun t9 ht9 hW9 => ⟨⟨0, (I22, G, A23, L), rfl, by cases h; exact ⟨rfl, rfl⟩, by rw [ht9]; exact hP, va_K.moved hW9.alike hK⟩, hS.F ht9⟩) hS.2.2 dX7_whatIs_245
      have lp12 : ∀ (n : Nat) (v13 : Int32) (I14 : Nat → Nat → Int32) (A15 : Nat → Nat → Int32), f_X7_whatIs_L88 a1 a2 k16 k21 n v13 I14 A15 = some (r0, I0, A0) → ∀ (H : Heap) (locs : List Loc), va_P D vwCl (VW K ad I14 G A15 L) H → va_S (vF ad s.heap.size) s.heap H locs → ∀ (ls : Array Slot), lv_has ls 7 [(4, .int v13), (0, .ref (ad 318)), (1, .int a1), (2, .int a2)] → W p l e ({ frames := 4, cells := 0, slots := 0, locals := 114 }) s m ([.ref (ad 318), .int a1, .int a2, .int a3] : List Value).toArray below meth c H locs 0 0 (MQ below (va_Qi (fun (r : Int32) (u : Mem) => r = r0 ∧ u = (I0, G, A0, L)) (vB D K ad) (vF ad s.heap.size)) ([.ref (ad 318), .int a1, .int a2, .int a3] : List Value).toArray s 0 0 (vF ad s.heap.size)) (F0 m 88 ls []) := by
        intro n
        induction n with
        | zero => intro v13 I14 A15 h; exact absurd h (by rw [f_X7_whatIs_L88]; exact nofun)
        | succ n ih12 =>
          intro v13 I14 A15 h H locs hP hS ls hl
          rw [f_X7_whatIs_L88] at h
          refine lv_iload hx hb dX7_whatIs_88 (lv_at hl 0 rfl) ?_
          refine lv_aload_n hx hb dX7_whatIs_90 rfl (lv_at hl 1 rfl) ?_
          refine vgC hx hb hts hi7 hown hK hP (318) (by decide) (show kd 318 = 7 by decide) (C := RX7) (T := TX7) (N := 79) rfl 3 (by decide) (by decide) (by decide) (by decide) (319) rfl (hts (.fieldLink RX7 7 "CrateHelpersModel" "variables" "[I") (by decide +kernel)) (fun _ h9 => h9) dX7_whatIs_91 ?_
          refine lv_iload_n hx hb dX7_whatIs_94 rfl (lv_at hl 2 rfl) ?_
          obtain ⟨hn24, h⟩ := gk h
          refine xiald hx hb hK hP (319) (by decide) (show kd 319 = 8 by decide) (by rw [show ln 319 = 5 by decide]; exact hn24) dX7_whatIs_95 ?_
          refine lv_icmp_ge (tgt := 244) hx hb dX7_whatIs_96 (by decide) (fun c_25 => ?_) (fun c_25 => ?_)
          · have h := iN (Int32.not_lt.mpr c_25) h
            exact kk21 I14 A15 h _ _ hP hS ls (lv_sub hl [] rfl)
          · have h := ip (Int32.not_le.mp c_25) h
            refine lv_iload hx hb dX7_whatIs_99 (lv_at hl 0 rfl) ?_
            refine lv_iload_n hx hb dX7_whatIs_101 rfl (lv_at hl 3 rfl) ?_
            refine lv_icmp_ge (tgt := 131) hx hb dX7_whatIs_102 (by decide) (fun c_26 => ?_) (fun c_26 => ?_)
            · have h := iN (Int32.not_lt.mpr c_26) h
              refine lv_bipush (v := (-9)) hx hb dX7_whatIs_131 (by decide) ?_
              refine lv_istore (lv' := [(5, .int (-9)), (4, .int v13), (0, .ref (ad 318)), (1, .int a1), (2, .int a2)]) hx hb dX7_whatIs_133 hl (by decide) rfl (fun ls hl => ?_)
              refine lv_iconst (v := 0) hx hb dX7_whatIs_135 (by decide) ?_
              refine lv_istore (lv' := [(6, .int 0), (5, .int (-9)), (4, .int v13), (0, .ref (ad 318)), (1, .int a1), (2, .int a2)]) hx hb dX7_whatIs_136 hl (by decide) rfl (fun ls hl => ?_)
              obtain ⟨k31, ek31, h⟩ := bd_e h
              have kk31 : ∀ (v32 : Int32) (A33 : Nat → Nat → Int32), k31 v32 A33 = some (r0, I0, A0) → ∀ (H : Heap) (locs : List Loc), va_P D vwCl (VW K ad I14 G A33 L) H → va_S (vF ad s.heap.size) s.heap H locs → ∀ (ls : Array Slot), lv_has ls 7 [(0, .ref (ad 318)), (1, .int a1), (2, .int a2), (4, .int v13), (5, .int v32)] → W p l e ({ frames := 4, cells := 0, slots := 0, locals := 114 }) s m ([.ref (ad 318), .int a1, .int a2, .int a3] : List Value).toArray below meth c H locs 0 0 (MQ below (va_Qi (fun (r : Int32) (u : Mem) => r = r0 ∧ u = (I0, G, A0, L)) (vB D K ad) (vF ad s.heap.size)) ([.ref (ad 318), .int a1, .int a2, .int a3] : List Value).toArray s 0 0 (vF ad s.heap.size)) (F0 m 205 ls []) := by
                intro v32 A33 h H locs hP hS ls hl
                subst ek31
                refine lv_iload hx hb dX7_whatIs_205 (lv_at hl 4 rfl) ?_
                refine lv_bipush (v := (-9)) hx hb dX7_whatIs_207 (by decide) ?_
                refine lv_icmp_ne (tgt := 220) hx hb dX7_whatIs_209 (by decide) (fun c_34 => ?_) (fun c_34 => ?_)
                · have h := iN c_34 h
                  refine lv_aload_n hx hb dX7_whatIs_220 rfl (lv_at hl 0 rfl) ?_
                  refine lv_dup hx hb dX7_whatIs_221 rfl ?_
                  refine vgI hx hb hts hi7 hown hK hP (318) (by decide) (show kd 318 = 7 by decide) (C := RX7) (T := TX7) (N := 79) rfl 65 (by decide) (by decide) (by decide) (by decide) (hts (.fieldLink RX7 278 "CrateHelpersModel" "boundNow" "I") (by decide +kernel)) (fun _ h9 => h9) dX7_whatIs_222 ?_
                  refine lv_aload_n hx hb dX7_whatIs_225 rfl (lv_at hl 0 rfl) ?_
                  refine lv_iload_n hx hb dX7_whatIs_226 rfl (lv_at hl 1 rfl) ?_
                  refine lv_iload hx hb dX7_whatIs_227 (lv_at hl 3 rfl) ?_
                  refine lv_iload hx hb dX7_whatIs_229 (lv_at hl 4 rfl) ?_
                  obtain ⟨r35, hc36, h⟩ := Option.bind_eq_some_iff.mp h
                  refine ecV (As := [.int a1, .int v13, .int v32]) (rest := [.int (I14 318 65), .ref (ad 318)]) ⟨hx, hb, hml, hown, hts⟩ (e_X7_costAt l D K ad hap0 a1 v13 v32 I14 G A33 L r35 hc36) (cwV 3 hts gX7_whatIs_X7_costAt rfl rfl rfl (by decide +kernel) ⟨Nat.le_of_ble_eq_true rfl, Nat.le_of_ble_eq_true rfl⟩) hK hP hS (by decide) (show kd 318 = 7 by decide) (by decide) rfl rfl rfl hl.1 (Nat.le_of_ble_eq_true rfl) (Nat.le_of_ble_eq_true rfl) (Nat.le_of_ble_eq_true rfl) dX7_whatIs_231 (fun H locs hP hS => ?_) rfl
                  have hP : va_P D vwCl (VW K ad I14 G A33 L) H := hP
                  refine lv_iadd hx hb dX7_whatIs_234 ?_
                  refine vpI (v := ((I14 318 65) + r35)) (ty := .int) hx hb hts hi7 tyX7 tyX7_ok nmX7 hown hK hP hap hS (318) (by decide) (show kd 318 = 7 by decide) (C := RX7) (T := TX7) (N := 79) rfl 65 (by decide) (by decide) (by decide) (by decide) (hts (.fieldLink RX7 278 "CrateHelpersModel" "boundNow" "I") (by decide +kernel)) (fun _ h9 => h9) rfl (by decide +kernel) rfl rfl dX7_whatIs_235 (fun H locs hP hS => ?_)
                  obtain ⟨I37, eI37, h⟩ := bd_e h
                  rw [← eI37] at hP
                  have hP : va_P D vwCl (VW K ad I37 G A33 L) H := hP
                  refine lv_iinc (v := (v13 + 1)) (lv' := [(4, .int (v13 + 1)), (0, .ref (ad 318)), (1, .int a1), (2, .int a2), (5, .int v32)]) hx hb dX7_whatIs_238 hl (k := 3) rfl rfl (by decide) rfl (fun ls hl => ?_)
                  refine lv_goto (tgt := 88) hx hb dX7_whatIs_241 (by decide) ?_
                  exact ih12 (v13 + 1) I37 A33 h _ _ hP hS ls (lv_sub hl [0, 1, 2, 3] rfl)
                · have h := ip c_34 h
                  exact kk16 v13 I14 A33 h _ _ hP hS ls (lv_sub hl [0, 3] rfl)
              have lp27 : ∀ (n : Nat) (v28 : Int32) (v29 : Int32) (A30 : Nat → Nat → Int32), f_X7_whatIs_L138 v13 a1 a2 I14 k31 n v28 v29 A30 = some (r0, I0, A0) → ∀ (H : Heap) (locs : List Loc), va_P D vwCl (VW K ad I14 G A30 L) H → va_S (vF ad s.heap.size) s.heap H locs → ∀ (ls : Array Slot), lv_has ls 7 [(6, .int v28), (5, .int v29), (4, .int v13), (0, .ref (ad 318)), (1, .int a1), (2, .int a2)] → W p l e ({ frames := 4, cells := 0, slots := 0, locals := 114 }) s m ([.ref (ad 318), .int a1, .int a2, .int a3] : List Value).toArray below meth c H locs 0 0 (MQ below (va_Qi (fun (r : Int32) (u : Mem) => r = r0 ∧ u = (I0, G, A0, L)) (vB D K ad) (vF ad s.heap.size)) ([.ref (ad 318), .int a1, .int a2, .int a3] : List Value).toArray s 0 0 (vF ad s.heap.size)) (F0 m 138 ls []) := by
                intro n
                induction n with
                | zero => intro v28 v29 A30 h; exact absurd h (by rw [f_X7_whatIs_L138]; exact nofun)
                | succ n ih27 =>
                  intro v28 v29 A30 h H locs hP hS ls hl
                  rw [f_X7_whatIs_L138] at h
                  refine lv_iload hx hb dX7_whatIs_138 (lv_at hl 0 rfl) ?_
                  refine lv_aload_n hx hb dX7_whatIs_140 rfl (lv_at hl 3 rfl) ?_
                  refine vgC hx hb hts hi7 hown hK hP (318) (by decide) (show kd 318 = 7 by decide) (C := RX7) (T := TX7) (N := 79) rfl 5 (by decide) (by decide) (by decide) (by decide) (321) rfl (hts (.fieldLink RX7 16 "CrateHelpersModel" "values" "[I") (by decide +kernel)) (fun _ h9 => h9) dX7_whatIs_141 ?_
                  refine lv_bipush (v := 6) hx hb dX7_whatIs_144 (by decide) ?_
                  refine lv_iload_n hx hb dX7_whatIs_146 rfl (lv_at hl 4 rfl) ?_
                  refine lv_imul hx hb dX7_whatIs_147 ?_
                  refine lv_iload hx hb dX7_whatIs_148 (lv_at hl 2 rfl) ?_
                  refine lv_iadd hx hb dX7_whatIs_150 ?_
                  obtain ⟨hn38, h⟩ := gk h
                  refine xiald hx hb hK hP (321) (by decide) (show kd 321 = 8 by decide) (by rw [show ln 321 = 30 by decide]; exact hn38) dX7_whatIs_151 ?_
                  refine lv_icmp_ge (tgt := 205) hx hb dX7_whatIs_152 (by decide) (fun c_39 => ?_) (fun c_39 => ?_)
                  · have h := iN (Int32.not_lt.mpr c_39) h
                    exact kk31 v29 A30 h _ _ hP hS ls (lv_sub hl [3, 4, 5, 2, 1] rfl)
                  · have h := ip (Int32.not_le.mp c_39) h
                    refine lv_aload_n hx hb dX7_whatIs_155 rfl (lv_at hl 3 rfl) ?_
                    refine lv_iload_n hx hb dX7_whatIs_156 rfl (lv_at hl 4 rfl) ?_
                    refine lv_iload hx hb dX7_whatIs_157 (lv_at hl 2 rfl) ?_
                    refine lv_iload hx hb dX7_whatIs_159 (lv_at hl 0 rfl) ?_
                    obtain ⟨⟨r40, A41⟩, hc42, h⟩ := Option.bind_eq_some_iff.mp h
                    refine ecV (As := [.int a1, .int v13, .int v28]) (rest := []) ⟨hx, hb, hml, hown, hts⟩ (e_X7_isOut l D K ad hap0 a1 v13 v28 I14 G A30 L r40 A41 hc42) (cwV 3 hts gX7_whatIs_X7_isOut rfl rfl rfl (by decide +kernel) ⟨Nat.le_of_ble_eq_true rfl, Nat.le_of_ble_eq_true rfl⟩) hK hP hS (by decide) (show kd 318 = 7 by decide) (by decide) rfl rfl rfl hl.1 (Nat.le_of_ble_eq_true rfl) (Nat.le_of_ble_eq_true rfl) (Nat.le_of_ble_eq_true rfl) dX7_whatIs_161 (fun H locs hP hS => ?_) rfl
                    have hP : va_P D vwCl (VW K ad I14 G A41 L) H := hP
                    refine lv_if_ne (tgt := 199) hx hb dX7_whatIs_164 (by decide) (fun c_43 => ?_) (fun c_43 => ?_)
                    · have h := iN c_43 h
                      refine lv_iinc (v := (v28 + 1)) (lv' := [(6, .int (v28 + 1)), (5, .int v29), (4, .int v13), (0, .ref (ad 318)), (1, .int a1), (2, .int a2)]) hx hb dX7_whatIs_199 hl (k := 0) rfl rfl (by decide) rfl (fun ls hl => ?_)
                      refine lv_goto (tgt := 138) hx hb dX7_whatIs_202 (by decide) ?_
                      exact ih27 (v28 + 1) v29 A41 h _ _ hP hS ls (lv_sub hl [0, 1, 2, 3, 4, 5] rfl)
                    · have h := ip c_43 h
                      refine lv_iload hx hb dX7_whatIs_167 (lv_at hl 1 rfl) ?_
                      refine lv_bipush (v := (-9)) hx hb dX7_whatIs_169 (by decide) ?_
                      refine lv_icmp_eq (tgt := 195) hx hb dX7_whatIs_171 (by decide) (fun c_44 => ?_) (fun c_44 => ?_)
                      · have h := ip c_44 h
                        refine lv_iload hx hb dX7_whatIs_195 (lv_at hl 0 rfl) ?_
                        refine lv_istore (lv' := [(5, .int v28), (6, .int v28), (4, .int v13), (0, .ref (ad 318)), (1, .int a1), (2, .int a2)]) hx hb dX7_whatIs_197 hl (by decide) rfl (fun ls hl => ?_)
                        refine lv_iinc (v := (v28 + 1)) (lv' := [(6, .int (v28 + 1)), (5, .int v28), (4, .int v13), (0, .ref (ad 318)), (1, .int a1), (2, .int a2)]) hx hb dX7_whatIs_199 hl (k := 1) rfl rfl (by decide) rfl (fun ls hl => ?_)
                        refine lv_goto (tgt := 138) hx hb dX7_whatIs_202 (by decide) ?_
                        exact ih27 (v28 + 1) v28 A41 h _ _ hP hS ls (lv_sub hl [0, 1, 2, 3, 4, 5] rfl)
                      · have h := iN c_44 h
                        refine lv_aload_n hx hb dX7_whatIs_174 rfl (lv_at hl 3 rfl) ?_
                        refine lv_iload_n hx hb dX7_whatIs_175 rfl (lv_at hl 4 rfl) ?_
                        refine lv_iload hx hb dX7_whatIs_176 (lv_at hl 2 rfl) ?_
                        refine lv_iload hx hb dX7_whatIs_178 (lv_at hl 0 rfl) ?_
                        obtain ⟨r45, hc46, h⟩ := Option.bind_eq_some_iff.mp h
                        refine ecV (As := [.int a1, .int v13, .int v28]) (rest := []) ⟨hx, hb, hml, hown, hts⟩ (e_X7_costAt l D K ad hap0 a1 v13 v28 I14 G A41 L r45 hc46) (cwV 3 hts gX7_whatIs_X7_costAt rfl rfl rfl (by decide +kernel) ⟨Nat.le_of_ble_eq_true rfl, Nat.le_of_ble_eq_true rfl⟩) hK hP hS (by decide) (show kd 318 = 7 by decide) (by decide) rfl rfl rfl hl.1 (Nat.le_of_ble_eq_true rfl) (Nat.le_of_ble_eq_true rfl) (Nat.le_of_ble_eq_true rfl) dX7_whatIs_180 (fun H locs hP hS => ?_) rfl
                        have hP : va_P D vwCl (VW K ad I14 G A41 L) H := hP
                        refine lv_aload_n hx hb dX7_whatIs_183 rfl (lv_at hl 3 rfl) ?_
                        refine lv_iload_n hx hb dX7_whatIs_184 rfl (lv_at hl 4 rfl) ?_
                        refine lv_iload hx hb dX7_whatIs_185 (lv_at hl 2 rfl) ?_
                        refine lv_iload hx hb dX7_whatIs_187 (lv_at hl 1 rfl) ?_
                        obtain ⟨r47, hc48, h⟩ := Option.bind_eq_some_iff.mp h
                        refine ecV (As := [.int a1, .int v13, .int v29]) (rest := [.int r45]) ⟨hx, hb, hml, hown, hts⟩ (e_X7_costAt l D K ad hap0 a1 v13 v29 I14 G A41 L r47 hc48) (cwV 3 hts gX7_whatIs_X7_costAt rfl rfl rfl (by decide +kernel) ⟨Nat.le_of_ble_eq_true rfl, Nat.le_of_ble_eq_true rfl⟩) hK hP hS (by decide) (show kd 318 = 7 by decide) (by decide) rfl rfl rfl hl.1 (Nat.le_of_ble_eq_true rfl) (Nat.le_of_ble_eq_true rfl) (Nat.le_of_ble_eq_true rfl) dX7_whatIs_189 (fun H locs hP hS => ?_) rfl
                        have hP : va_P D vwCl (VW K ad I14 G A41 L) H := hP
                        refine lv_icmp_ge (tgt := 199) hx hb dX7_whatIs_192 (by decide) (fun c_49 => ?_) (fun c_49 => ?_)
                        · have h := iN (Int32.not_lt.mpr c_49) h
                          refine lv_iinc (v := (v28 + 1)) (lv' := [(6, .int (v28 + 1)), (5, .int v29), (4, .int v13), (0, .ref (ad 318)), (1, .int a1), (2, .int a2)]) hx hb dX7_whatIs_199 hl (k := 0) rfl rfl (by decide) rfl (fun ls hl => ?_)
                          refine lv_goto (tgt := 138) hx hb dX7_whatIs_202 (by decide) ?_
                          exact ih27 (v28 + 1) v29 A41 h _ _ hP hS ls (lv_sub hl [0, 1, 2, 3, 4, 5] rfl)
                        · have h := ip (Int32.not_le.mp c_49) h
                          refine lv_iload hx hb dX7_whatIs_195 (lv_at hl 0 rfl) ?_
                          refine lv_istore (lv' := [(5, .int v28), (6, .int v28), (4, .int v13), (0, .ref (ad 318)), (1, .int a1), (2, .int a2)]) hx hb dX7_whatIs_197 hl (by decide) rfl (fun ls hl => ?_)
                          refine lv_iinc (v := (v28 + 1)) (lv' := [(6, .int (v28 + 1)), (5, .int v28), (4, .int v13), (0, .ref (ad 318)), (1, .int a1), (2, .int a2)]) hx hb dX7_whatIs_199 hl (k := 1) rfl rfl (by decide) rfl (fun ls hl => ?_)
                          refine lv_goto (tgt := 138) hx hb dX7_whatIs_202 (by decide) ?_
                          exact ih27 (v28 + 1) v28 A41 h _ _ hP hS ls (lv_sub hl [0, 1, 2, 3, 4, 5] rfl)
              exact lp27 FU 0 (-9) A15 h _ _ hP hS ls (lv_sub hl [0, 1, 2, 3, 4, 5] rfl)
            · have h := ip (Int32.not_le.mp c_26) h
              refine lv_aload_n hx hb dX7_whatIs_105 rfl (lv_at hl 1 rfl) ?_
              refine lv_dup hx hb dX7_whatIs_106 rfl ?_
              refine vgI hx hb hts hi7 hown hK hP (318) (by decide) (show kd 318 = 7 by decide) (C := RX7) (T := TX7) (N := 79) rfl 65 (by decide) (by decide) (by decide) (by decide) (hts (.fieldLink RX7 278 "CrateHelpersModel" "boundNow" "I") (by decide +kernel)) (fun _ h9 => h9) dX7_whatIs_107 ?_
              refine lv_aload_n hx hb dX7_whatIs_110 rfl (lv_at hl 1 rfl) ?_
              refine lv_iload_n hx hb dX7_whatIs_111 rfl (lv_at hl 2 rfl) ?_
              refine lv_iload hx hb dX7_whatIs_112 (lv_at hl 0 rfl) ?_
              refine lv_aload_n hx hb dX7_whatIs_114 rfl (lv_at hl 1 rfl) ?_
              refine vgC hx hb hts hi7 hown hK hP (318) (by decide) (show kd 318 = 7 by decide) (C := RX7) (T := TX7) (N := 79) rfl 63 (by decide) (by decide) (by decide) (by decide) (364) rfl (hts (.fieldLink RX7 159 "CrateHelpersModel" "now" "[I") (by decide +kernel)) (fun _ h9 => h9) dX7_whatIs_115 ?_
              refine lv_iload hx hb dX7_whatIs_118 (lv_at hl 0 rfl) ?_
              obtain ⟨hn50, h⟩ := gk h
              refine xiald hx hb hK hP (364) (by decide) (show kd 364 = 8 by decide) (by rw [show ln 364 = 6 by decide]; exact hn50) dX7_whatIs_120 ?_
              obtain ⟨r51, hc52, h⟩ := Option.bind_eq_some_iff.mp h
              refine ecV (As := [.int a1, .int v13, .int (A15 364 v13.toNatClampNeg)]) (rest := [.int (I14 318 65), .ref (ad 318)]) ⟨hx, hb, hml, hown, hts⟩ (e_X7_costAt l D K ad hap0 a1 v13 (A15 364 v13.toNatClampNeg) I14 G A15 L r51 hc52) (cwV 3 hts gX7_whatIs_X7_costAt rfl rfl rfl (by decide +kernel) ⟨Nat.le_of_ble_eq_true rfl, Nat.le_of_ble_eq_true rfl⟩) hK hP hS (by decide) (show kd 318 = 7 by decide) (by decide) rfl rfl rfl hl.1 (Nat.le_of_ble_eq_true rfl) (Nat.le_of_ble_eq_true rfl) (Nat.le_of_ble_eq_true rfl) dX7_whatIs_121 (fun H locs hP hS => ?_) rfl
              have hP : va_P D vwCl (VW K ad I14 G A15 L) H := hP
              refine lv_iadd hx hb dX7_whatIs_124 ?_
              refine vpI (v := ((I14 318 65) + r51)) (ty := .int) hx hb hts hi7 tyX7 tyX7_ok nmX7 hown hK hP hap hS (318) (by decide) (show kd 318 = 7 by decide) (C := RX7) (T := TX7) (N := 79) rfl 65 (by decide) (by decide) (by decide) (by decide) (hts (.fieldLink RX7 278 "CrateHelpersModel" "boundNow" "I") (by decide +kernel)) (fun _ h9 => h9) rfl (by decide +kernel) rfl rfl dX7_whatIs_125 (fun H locs hP hS => ?_)
              obtain ⟨I53, eI53, h⟩ := bd_e h
              rw [← eI53] at hP
              have hP : va_P D vwCl (VW K ad I53 G A15 L) H := hP
              refine lv_goto (tgt := 238) hx hb dX7_whatIs_128 (by decide) ?_
              refine lv_iinc (v := (v13 + 1)) (lv' := [(4, .int (v13 + 1)), (0, .ref (ad 318)), (1, .int a1), (2, .int a2)]) hx hb dX7_whatIs_238 hl (k := 0) rfl rfl (by decide) rfl (fun ls hl => ?_)
              refine lv_goto (tgt := 88) hx hb dX7_whatIs_241 (by decide) ?_
              exact ih12 (v13 + 1) I53 A15 h _ _ hP hS ls (lv_sub hl [0, 1, 2, 3] rfl)
      exact lp12 FU 0 I11 A h _ _ hP hS ls (lv_sub hl [0, 1, 2, 3] rfl)
    have lp5 : ∀ (n : Nat) (v6 : Int32), f_X7_whatIs_L23 a1 a2 a3 I3 A k7 k10 n v6 = some (r0, I0, A0) → ∀ (H : Heap) (locs : List Loc), va_P D vwCl (VW K ad I3 G A L) H → va_S (vF ad s.heap.size) s.heap H locs → ∀ (ls : Array Slot), lv_has ls 7 [(4, .int v6), (0, .ref (ad 318)), (1, .int a1), (2, .int a2), (3, .int a3)] → W p l e ({ frames := 4, cells := 0, slots := 0, locals := 114 }) s m ([.ref (ad 318), .int a1, .int a2, .int a3] : List Value).toArray below meth c H locs 0 0 (MQ below (va_Qi (fun (r : Int32) (u : Mem) => r = r0 ∧ u = (I0, G, A0, L)) (vB D K ad) (vF ad s.heap.size)) ([.ref (ad 318), .int a1, .int a2, .int a3] : List Value).toArray s 0 0 (vF ad s.heap.size)) (F0 m 23 ls []) := by
      intro n
      induction n with
      | zero => intro v6 h; exact absurd h (by rw [f_X7_whatIs_L23]; exact nofun)
      | succ n ih5 =>
        intro v6 h H locs hP hS ls hl
        rw [f_X7_whatIs_L23] at h
        refine lv_iload hx hb dX7_whatIs_23 (lv_at hl 0 rfl) ?_
        refine lv_iconst (v := 1) hx hb dX7_whatIs_25 (by decide) ?_
        refine lv_iadd hx hb dX7_whatIs_26 ?_
        refine lv_iload_n hx hb dX7_whatIs_27 rfl (lv_at hl 3 rfl) ?_
        refine lv_icmp_ge (tgt := 80) hx hb dX7_whatIs_28 (by decide) (fun c_54 => ?_) (fun c_54 => ?_)
        · have h := iN (Int32.not_lt.mpr c_54) h
          exact kk10 () h _ _ hP hS ls (lv_sub hl [1, 2, 3] rfl)
        · have h := ip (Int32.not_le.mp c_54) h
          refine lv_iload_n hx hb dX7_whatIs_31 rfl (lv_at hl 4 rfl) ?_
          refine lv_if_eq (tgt := 80) hx hb dX7_whatIs_32 (by decide) (fun c_55 => ?_) (fun c_55 => ?_)
          · have h := ip c_55 h
            exact kk10 () h _ _ hP hS ls (lv_sub hl [1, 2, 3] rfl)
          · have h := iN c_55 h
            refine lv_aload_n hx hb dX7_whatIs_35 rfl (lv_at hl 1 rfl) ?_
            refine vgC hx hb hts hi7 hown hK hP (318) (by decide) (show kd 318 = 7 by decide) (C := RX7) (T := TX7) (N := 79) rfl 63 (by decide) (by decide) (by decide) (by decide) (364) rfl (hts (.fieldLink RX7 159 "CrateHelpersModel" "now" "[I") (by decide +kernel)) (fun _ h9 => h9) dX7_whatIs_36 ?_
            refine lv_iload hx hb dX7_whatIs_39 (lv_at hl 0 rfl) ?_
            obtain ⟨hn56, h⟩ := gk h
            refine xiald hx hb hK hP (364) (by decide) (show kd 364 = 8 by decide) (by rw [show ln 364 = 6 by decide]; exact hn56) dX7_whatIs_41 ?_
            refine lv_aload_n hx hb dX7_whatIs_42 rfl (lv_at hl 1 rfl) ?_
            refine vgC hx hb hts hi7 hown hK hP (318) (by decide) (show kd 318 = 7 by decide) (C := RX7) (T := TX7) (N := 79) rfl 63 (by decide) (by decide) (by decide) (by decide) (364) rfl (hts (.fieldLink RX7 159 "CrateHelpersModel" "now" "[I") (by decide +kernel)) (fun _ h9 => h9) dX7_whatIs_43 ?_
            refine lv_iload_n hx hb dX7_whatIs_46 rfl (lv_at hl 3 rfl) ?_
            refine lv_iconst (v := 1) hx hb dX7_whatIs_47 (by decide) ?_
            refine lv_isub hx hb dX7_whatIs_48 ?_
            obtain ⟨hn57, h⟩ := gk h
            refine xiald hx hb hK hP (364) (by decide) (show kd 364 = 8 by decide) (by rw [show ln 364 = 6 by decide]; exact hn57) dX7_whatIs_49 ?_
            refine lv_icmp_le (tgt := 74) hx hb dX7_whatIs_50 (by decide) (fun c_58 => ?_) (fun c_58 => ?_)
            · have h := iN (Int32.not_lt.mpr c_58) h
              refine lv_iinc (v := (v6 + 1)) (lv' := [(4, .int (v6 + 1)), (0, .ref (ad 318)), (1, .int a1), (2, .int a2), (3, .int a3)]) hx hb dX7_whatIs_74 hl (k := 0) rfl rfl (by decide) rfl (fun ls hl => ?_)
              refine lv_goto (tgt := 23) hx hb dX7_whatIs_77 (by decide) ?_
              exact ih5 (v6 + 1) h _ _ hP hS ls (lv_sub hl [0, 1, 2, 3, 4] rfl)
            · have h := ip (Int32.not_le.mp c_58) h
              refine lv_aload_n hx hb dX7_whatIs_53 rfl (lv_at hl 1 rfl) ?_
              refine lv_iload_n hx hb dX7_whatIs_54 rfl (lv_at hl 2 rfl) ?_
              refine lv_iload hx hb dX7_whatIs_55 (lv_at hl 0 rfl) ?_
              refine lv_iload_n hx hb dX7_whatIs_57 rfl (lv_at hl 3 rfl) ?_
              refine lv_iconst (v := 1) hx hb dX7_whatIs_58 (by decide) ?_
              refine lv_isub hx hb dX7_whatIs_59 ?_
              obtain ⟨r59, hc60, h⟩ := Option.bind_eq_some_iff.mp h
              refine ecV (As := [.int a1, .int v6, .int (a2 - 1)]) (rest := []) ⟨hx, hb, hml, hown, hts⟩ (e_X7_areLike l D K ad hap0 a1 v6 (a2 - 1) I3 G A L r59 hc60) (cwV 3 hts gX7_whatIs_X7_areLike rfl rfl rfl (by decide +kernel) ⟨Nat.le_of_ble_eq_true rfl, Nat.le_of_ble_eq_true rfl⟩) hK hP hS (by decide) (show kd 318 = 7 by decide) (by decide) rfl rfl rfl hl.1 (Nat.le_of_ble_eq_true rfl) (Nat.le_of_ble_eq_true rfl) (Nat.le_of_ble_eq_true rfl) dX7_whatIs_60 (fun H locs hP hS => ?_) rfl
              have hP : va_P D vwCl (VW K ad I3 G A L) H := hP
              refine lv_if_eq (tgt := 74) hx hb dX7_whatIs_63 (by decide) (fun c_61 => ?_) (fun c_61 => ?_)
              · have h := ip c_61 h
                refine lv_iinc (v := (v6 + 1)) (lv' := [(4, .int (v6 + 1)), (0, .ref (ad 318)), (1, .int a1), (2, .int a2), (3, .int a3)]) hx hb dX7_whatIs_74 hl (k := 0) rfl rfl (by decide) rfl (fun ls hl => ?_)
                refine lv_goto (tgt := 23) hx hb dX7_whatIs_77 (by decide) ?_
                exact ih5 (v6 + 1) h _ _ hP hS ls (lv_sub hl [0, 1, 2, 3, 4] rfl)
              · have h := iN c_61 h
                exact kk7 v6 h _ _ hP hS ls (lv_sub hl [1, 0] rfl)
    exact lp5 FU 0 h _ _ hP hS ls (lv_sub hl [0, 1, 2, 3, 4] rfl)
  · have h := iN c_4 h
    refine lv_iconst (v := 1) hx hb dX7_whatIs_18 (by decide) ?_
    exact W.iret (v := 1) hx hb hr (fun t9 ht9 hW9 => ⟨⟨1, (I3, G, A, L), rfl, by cases h; exact ⟨rfl, rfl⟩, by rw [ht9]; exact hP, va_K.moved hW9.alike hK⟩, hS.F ht9⟩) hS.2.2 dX7_whatIs_19
set_option maxHeartbeats 4000000 in
set_option maxRecDepth 100000 in
theorem e_X7_begins (l : Launch) (D : va_G) (K : Nat → ClassId) (ad : Nat → Nat) (hap0 : apart ad (fun _ => True)) (a1 : Int32) (a2 : Int32) (I : Nat → Nat → Int32) (G : Nat → Nat → Nat) (A : Nat → Nat → Int32) (L : Nat → Nat → Int64) (I0 : Nat → Nat → Int32) (A0 : Nat → Nat → Int32) (h : f_X7_begins I A a1 a2 = some (I0, A0)) : Cv l D K ad yX7_begins wsX7_begins 5 143 [.ref (ad 318), .int a1, .int a2] (I, G, A, L) (fun (u : Mem) => u = (I0, G, A0, L)) := by
  intro sz
  refine Met.ofW (cc := cX7_begins) (maxL := 4) (ret := none) (by decide) rfl ?_
  intro p e s m args below meth c s₁ Bd hml hv0
  obtain ⟨rfl, hsz, hP, hK⟩ := hv0
  have hx := Bd.exec
  have hb := Bd.bytes
  have hr := Bd.returns
  have hts := atoms_spec (ws := wsX7_begins) Bd.pre
  have hown : s.vm.findClass RX7 = some m.cls := findClass_of_methodNamed Bd.named
  have hlocks := Bd.notSynchronized
  have hi7 : ∀ w ∈ u_ws RX7 TX7 79, w ∈ wsX7_begins := fun w h => List.mem_cons_of_mem _ (List.mem_append_right _ h)
  subst hsz
  have hap := vF_ap hap0 s.heap.size
  have hS : va_S (vF ad s.heap.size) s.heap s.heap [] := va_S.rf
  have hP : va_P D vwCl (VW K ad I G A L) s.heap := hP
  have hl := lv_entry ([.ref (ad 318), .int a1, .int a2]) (n := 4) (Nat.le_of_ble_eq_true rfl)
  rw [lg_entry_eq]
  generalize (lg_sl ([.ref (ad 318), .int a1, .int a2]) ++ List.replicate (4 - (lg_sl ([.ref (ad 318), .int a1, .int a2])).length) Slot.unset).toArray = ls at hl ⊢
  have hl : lv_has ls 4 [(0, .ref (ad 318)), (1, .int a1), (2, .int a2)] := hl
  rw [f_X7_begins] at h
  refine lv_aload_n hx hb dX7_begins_0 rfl (lv_at hl 0 rfl) ?_
  refine lv_iconst (v := 0) hx hb dX7_begins_1 (by decide) ?_
  refine vpI (v := 0) (ty := .int) hx hb hts hi7 tyX7 tyX7_ok nmX7 hown hK hP hap hS (318) (by decide) (show kd 318 = 7 by decide) (C := RX7) (T := TX7) (N := 79) rfl 29 (by decide) (by decide) (by decide) (by decide) (hts (.fieldLink RX7 284 "CrateHelpersModel" "nodes" "I") (by decide +kernel)) (fun _ h9 => h9) rfl (by decide +kernel) rfl rfl dX7_begins_2 (fun H locs hP hS => ?_)
  obtain ⟨I1, eI1, h⟩ := bd_e h
  rw [← eI1] at hP
  have hP : va_P D vwCl (VW K ad I1 G A L) H := hP
  refine lv_aload_n hx hb dX7_begins_5 rfl (lv_at hl 0 rfl) ?_
  refine lv_iconst (v := 0) hx hb dX7_begins_6 (by decide) ?_
  refine vpI (v := 0) (ty := .int) hx hb hts hi7 tyX7 tyX7_ok nmX7 hown hK hP hap hS (318) (by decide) (show kd 318 = 7 by decide) (C := RX7) (T := TX7) (N := 79) rfl 30 (by decide) (by decide) (by decide) (by decide) (hts (.fieldLink RX7 287 "CrateHelpersModel" "done" "I") (by decide +kernel)) (fun _ h9 => h9) rfl (by decide +kernel) rfl rfl dX7_begins_7 (fun H locs hP hS => ?_)
  obtain ⟨I2, eI2, h⟩ := bd_e h
  rw [← eI2] at hP
  have hP : va_P D vwCl (VW K ad I2 G A L) H := hP
  refine lv_aload_n hx hb dX7_begins_10 rfl (lv_at hl 0 rfl) ?_
  refine lv_iconst (v := 0) hx hb dX7_begins_11 (by decide) ?_
  refine vpI (v := 0) (ty := .int) hx hb hts hi7 tyX7 tyX7_ok nmX7 hown hK hP hap hS (318) (by decide) (show kd 318 = 7 by decide) (C := RX7) (T := TX7) (N := 79) rfl 31 (by decide) (by decide) (by decide) (by decide) (hts (.fieldLink RX7 303 "CrateHelpersModel" "taken" "I") (by decide +kernel)) (fun _ h9 => h9) rfl (by decide +kernel) rfl rfl dX7_begins_12 (fun H locs hP hS => ?_)
  obtain ⟨I3, eI3, h⟩ := bd_e h
  rw [← eI3] at hP
  have hP : va_P D vwCl (VW K ad I3 G A L) H := hP
  refine lv_iconst (v := 0) hx hb dX7_begins_15 (by decide) ?_
  refine lv_istore_n (lv' := [(3, .int 0), (0, .ref (ad 318)), (1, .int a1), (2, .int a2)]) hx hb dX7_begins_16 rfl hl (by decide) rfl (fun ls hl => ?_)
  obtain ⟨k7, ek7, h⟩ := bd_e h
  have kk7 : ∀ (A8 : Nat → Nat → Int32), k7 A8 = some (I0, A0) → ∀ (H : Heap) (locs : List Loc), va_P D vwCl (VW K ad I3 G A8 L) H → va_S (vF ad s.heap.size) s.heap H locs → ∀ (ls : Array Slot), lv_has ls 4 [(0, .ref (ad 318)), (1, .int a1), (2, .int a2)] → W p l e ({ frames := 5, cells := 0, slots := 0, locals := 143 }) s m ([.ref (ad 318), .int a1, .int a2] : List Value).toArray below meth c H locs 0 0 (MQ below (va_Qv (fun (u : Mem) => u = (I0, G, A0, L)) (vB D K ad) (vF ad s.heap.size)) ([.ref (ad 318), .int a1, .int a2] : List Value).toArray s 0 0 (vF ad s.heap.size)) (F0 m 37 ls []) := by
    intro A8 h H locs hP hS ls hl
    subst ek7
    refine lv_aload_n hx hb dX7_begins_37 rfl (lv_at hl 0 rfl) ?_
    refine lv_iload_n hx hb dX7_begins_38 rfl (lv_at hl 1 rfl) ?_
    refine lv_iconst (v := 0) hx hb dX7_begins_39 (by decide) ?_
    refine lv_iload_n hx hb dX7_begins_40 rfl (lv_at hl 2 rfl) ?_
    obtain ⟨⟨r9, I10, A11⟩, hc12, h⟩ := Option.bind_eq_some_iff.mp h
    refine ecV (As := [.int a1, .int 0, .int a2]) (rest := []) ⟨hx, hb, hml, hown, hts⟩ (e_X7_whatIs l D K ad hap0 a1 0 a2 I3 G A8 L r9 I10 A11 hc12) (cwV 3 hts gX7_begins_X7_whatIs rfl rfl rfl (by decide +kernel) ⟨Nat.le_of_ble_eq_true rfl, Nat.le_of_ble_eq_true rfl⟩) hK hP hS (by decide) (show kd 318 = 7 by decide) (by decide) rfl rfl rfl hl.1 (Nat.le_of_ble_eq_true rfl) (Nat.le_of_ble_eq_true rfl) (Nat.le_of_ble_eq_true rfl) dX7_begins_41 (fun H locs hP hS => ?_) rfl
    have hP : va_P D vwCl (VW K ad I10 G A11 L) H := hP
    refine lv_if_ne (tgt := 54) hx hb dX7_begins_44 (by decide) (fun c_13 => ?_) (fun c_13 => ?_)
    · have h := iN c_13 h
      exact W.vret hx hb hr (fun t9 ht9 hW9 => ⟨⟨(I10, G, A11, L), rfl, by cases h; rfl, by rw [ht9]; exact hP, va_K.moved hW9.alike hK⟩, hS.F ht9⟩) hS.2.2 dX7_begins_54
    · have h := ip c_13 h
      refine lv_aload_n hx hb dX7_begins_47 rfl (lv_at hl 0 rfl) ?_
      refine lv_iconst (v := 0) hx hb dX7_begins_48 (by decide) ?_
      refine lv_bipush (v := (-9)) hx hb dX7_begins_49 (by decide) ?_
      obtain ⟨⟨I14, A15⟩, hc16, h⟩ := Option.bind_eq_some_iff.mp h
      refine ecVv (As := [.int 0, .int (-9)]) (rest := []) ⟨hx, hb, hml, hown, hts⟩ (e_X7_addNode l D K ad hap0 0 (-9) I10 G A11 L I14 A15 hc16) (cwV 2 hts gX7_begins_X7_addNode rfl rfl rfl (by decide +kernel) ⟨Nat.le_of_ble_eq_true rfl, Nat.le_of_ble_eq_true rfl⟩) hK hP hS (by decide) (show kd 318 = 7 by decide) (by decide) rfl rfl rfl hl.1 (Nat.le_of_ble_eq_true rfl) (Nat.le_of_ble_eq_true rfl) (Nat.le_of_ble_eq_true rfl) dX7_begins_51 (fun H locs hP hS => ?_) rfl
      have hP : va_P D vwCl (VW K ad I14 G A15 L) H := hP
      exact W.vret hx hb hr (fun t9 ht9 hW9 => ⟨⟨(I14, G, A15, L), rfl, by cases h; rfl, by rw [ht9]; exact hP, va_K.moved hW9.alike hK⟩, hS.F ht9⟩) hS.2.2 dX7_begins_54
  have lp4 : ∀ (n : Nat) (v5 : Int32) (A6 : Nat → Nat → Int32), f_X7_begins_L17 a1 a2 I3 k7 n v5 A6 = some (I0, A0) → ∀ (H : Heap) (locs : List Loc), va_P D vwCl (VW K ad I3 G A6 L) H → va_S (vF ad s.heap.size) s.heap H locs → ∀ (ls : Array Slot), lv_has ls 4 [(3, .int v5), (0, .ref (ad 318)), (1, .int a1), (2, .int a2)] → W p l e ({ frames := 5, cells := 0, slots := 0, locals := 143 }) s m ([.ref (ad 318), .int a1, .int a2] : List Value).toArray below meth c H locs 0 0 (MQ below (va_Qv (fun (u : Mem) => u = (I0, G, A0, L)) (vB D K ad) (vF ad s.heap.size)) ([.ref (ad 318), .int a1, .int a2] : List Value).toArray s 0 0 (vF ad s.heap.size)) (F0 m 17 ls []) := by
    intro n
    induction n with
    | zero => intro v5 A6 h; exact absurd h (by rw [f_X7_begins_L17]; exact nofun)
    | succ n ih4 =>
      intro v5 A6 h H locs hP hS ls hl
      rw [f_X7_begins_L17] at h
      refine lv_iload_n hx hb dX7_begins_17 rfl (lv_at hl 0 rfl) ?_
      refine lv_bipush (v := 6) hx hb dX7_begins_18 (by decide) ?_
      refine lv_icmp_ge (tgt := 37) hx hb dX7_begins_20 (by decide) (fun c_17 => ?_) (fun c_17 => ?_)
      · have h := iN (Int32.not_lt.mpr c_17) h
        exact kk7 A6 h _ _ hP hS ls (lv_sub hl [1, 2, 3] rfl)
      · have h := ip (Int32.not_le.mp c_17) h
        refine lv_aload_n hx hb dX7_begins_23 rfl (lv_at hl 1 rfl) ?_
        refine vgC hx hb hts hi7 hown hK hP (318) (by decide) (show kd 318 = 7 by decide) (C := RX7) (T := TX7) (N := 79) rfl 63 (by decide) (by decide) (by decide) (by decide) (364) rfl (hts (.fieldLink RX7 159 "CrateHelpersModel" "now" "[I") (by decide +kernel)) (fun _ h9 => h9) dX7_begins_24 ?_
        refine lv_iload_n hx hb dX7_begins_27 rfl (lv_at hl 0 rfl) ?_
        refine lv_bipush (v := (-9)) hx hb dX7_begins_28 (by decide) ?_
        obtain ⟨hn18, h⟩ := gk h
        refine xiast hx hb hK hP hap hS (364) (by decide) (show kd 364 = 8 by decide) (by rw [show ln 364 = 6 by decide]; exact hn18) dX7_begins_30 (fun H locs hP hS => ?_)
        obtain ⟨A19, eA19, h⟩ := bd_e h
        rw [← eA19] at hP
        have hP : va_P D vwCl (VW K ad I3 G A19 L) H := hP
        refine lv_iinc (v := (v5 + 1)) (lv' := [(3, .int (v5 + 1)), (0, .ref (ad 318)), (1, .int a1), (2, .int a2)]) hx hb dX7_begins_31 hl (k := 0) rfl rfl (by decide) rfl (fun ls hl => ?_)
        refine lv_goto (tgt := 17) hx hb dX7_begins_34 (by decide) ?_
        exact ih4 (v5 + 1) A19 h _ _ hP hS ls (lv_sub hl [0, 1, 2, 3] rfl)
  exact lp4 FU 0 A h _ _ hP hS ls (lv_sub hl [0, 1, 2, 3] rfl)
set_option maxHeartbeats 4000000 in
set_option maxRecDepth 100000 in
theorem e_X7_changes (l : Launch) (D : va_G) (K : Nat → ClassId) (ad : Nat → Nat) (hap0 : apart ad (fun _ => True)) (a1 : Int32) (I : Nat → Nat → Int32) (G : Nat → Nat → Nat) (A : Nat → Nat → Int32) (L : Nat → Nat → Int64) (I0 : Nat → Nat → Int32) (A0 : Nat → Nat → Int32) (h : f_X7_changes I A a1 = some (I0, A0)) : Cv l D K ad yX7_changes wsX7_changes 0 0 [.ref (ad 318), .int a1] (I, G, A, L) (fun (u : Mem) => u = (I0, G, A0, L)) := by
  intro sz
  refine Met.ofW (cc := cX7_changes) (maxL := 2) (ret := none) (by decide) rfl ?_
  intro p e s m args below meth c s₁ Bd hml hv0
  obtain ⟨rfl, hsz, hP, hK⟩ := hv0
  have hx := Bd.exec
  have hb := Bd.bytes
  have hr := Bd.returns
  have hts := atoms_spec (ws := wsX7_changes) Bd.pre
  have hown : s.vm.findClass RX7 = some m.cls := findClass_of_methodNamed Bd.named
  have hlocks := Bd.notSynchronized
  have hi7 : ∀ w ∈ u_ws RX7 TX7 79, w ∈ wsX7_changes := fun w h => List.mem_cons_of_mem _ (List.mem_append_right _ h)
  subst hsz
  have hap := vF_ap hap0 s.heap.size
  have hS : va_S (vF ad s.heap.size) s.heap s.heap [] := va_S.rf
  have hP : va_P D vwCl (VW K ad I G A L) s.heap := hP
  have hl := lv_entry ([.ref (ad 318), .int a1]) (n := 2) (Nat.le_of_ble_eq_true rfl)
  rw [lg_entry_eq]
  generalize (lg_sl ([.ref (ad 318), .int a1]) ++ List.replicate (2 - (lg_sl ([.ref (ad 318), .int a1])).length) Slot.unset).toArray = ls at hl ⊢
  have hl : lv_has ls 2 [(0, .ref (ad 318)), (1, .int a1)] := hl
  rw [f_X7_changes] at h
  refine lv_aload_n hx hb dX7_changes_0 rfl (lv_at hl 0 rfl) ?_
  refine lv_dup hx hb dX7_changes_1 rfl ?_
  refine vgI hx hb hts hi7 hown hK hP (318) (by decide) (show kd 318 = 7 by decide) (C := RX7) (T := TX7) (N := 79) rfl 14 (by decide) (by decide) (by decide) (by decide) (hts (.fieldLink RX7 211 "CrateHelpersModel" "changes" "I") (by decide +kernel)) (fun _ h9 => h9) dX7_changes_2 ?_
  refine lv_iconst (v := 1) hx hb dX7_changes_5 (by decide) ?_
  refine lv_iadd hx hb dX7_changes_6 ?_
  refine vpI (v := ((I 318 14) + 1)) (ty := .int) hx hb hts hi7 tyX7 tyX7_ok nmX7 hown hK hP hap hS (318) (by decide) (show kd 318 = 7 by decide) (C := RX7) (T := TX7) (N := 79) rfl 14 (by decide) (by decide) (by decide) (by decide) (hts (.fieldLink RX7 211 "CrateHelpersModel" "changes" "I") (by decide +kernel)) (fun _ h9 => h9) rfl (by decide +kernel) rfl rfl dX7_changes_7 (fun H locs hP hS => ?_)
  obtain ⟨I1, eI1, h⟩ := bd_e h
  rw [← eI1] at hP
  have hP : va_P D vwCl (VW K ad I1 G A L) H := hP
  refine lv_aload_n hx hb dX7_changes_10 rfl (lv_at hl 0 rfl) ?_
  refine vgC hx hb hts hi7 hown hK hP (318) (by decide) (show kd 318 = 7 by decide) (C := RX7) (T := TX7) (N := 79) rfl 13 (by decide) (by decide) (by decide) (by decide) (329) rfl (hts (.fieldLink RX7 40 "CrateHelpersModel" "changed" "[I") (by decide +kernel)) (fun _ h9 => h9) dX7_changes_11 ?_
  refine lv_iload_n hx hb dX7_changes_14 rfl (lv_at hl 1 rfl) ?_
  refine lv_aload_n hx hb dX7_changes_15 rfl (lv_at hl 0 rfl) ?_
  refine vgI hx hb hts hi7 hown hK hP (318) (by decide) (show kd 318 = 7 by decide) (C := RX7) (T := TX7) (N := 79) rfl 14 (by decide) (by decide) (by decide) (by decide) (hts (.fieldLink RX7 211 "CrateHelpersModel" "changes" "I") (by decide +kernel)) (fun _ h9 => h9) dX7_changes_16 ?_
  obtain ⟨hn2, h⟩ := gk h
  refine xiast hx hb hK hP hap hS (329) (by decide) (show kd 329 = 8 by decide) (by rw [show ln 329 = 5 by decide]; exact hn2) dX7_changes_19 (fun H locs hP hS => ?_)
  obtain ⟨A3, eA3, h⟩ := bd_e h
  rw [← eA3] at hP
  have hP : va_P D vwCl (VW K ad I1 G A3 L) H := hP
  refine lv_aload_n hx hb dX7_changes_20 rfl (lv_at hl 0 rfl) ?_
  refine vgC hx hb hts hi7 hown hK hP (318) (by decide) (show kd 318 = 7 by decide) (C := RX7) (T := TX7) (N := 79) rfl 45 (by decide) (by decide) (by decide) (by decide) (351) rfl (hts (.fieldLink RX7 114 "CrateHelpersModel" "isTold" "[Z") (by decide +kernel)) (fun _ h9 => h9) dX7_changes_21 ?_
  refine lv_iload_n hx hb dX7_changes_24 rfl (lv_at hl 1 rfl) ?_
  refine lv_iconst (v := 0) hx hb dX7_changes_25 (by decide) ?_
  refine xzast hx hb hK hP hap hS (351) (by decide) (show kd 351 = 11 by decide) (by rw [show ln 351 = 5 by decide]; exact hn2) dX7_changes_26 (fun H locs hP hS => ?_)
  obtain ⟨A4, eA4, h⟩ := bd_e h
  rw [← eA4] at hP
  have hP : va_P D vwCl (VW K ad I1 G A4 L) H := hP
  refine lv_aload_n hx hb dX7_changes_27 rfl (lv_at hl 0 rfl) ?_
  refine vgC hx hb hts hi7 hown hK hP (318) (by decide) (show kd 318 = 7 by decide) (C := RX7) (T := TX7) (N := 79) rfl 46 (by decide) (by decide) (by decide) (by decide) (352) rfl (hts (.fieldLink RX7 117 "CrateHelpersModel" "hasAnswer" "[Z") (by decide +kernel)) (fun _ h9 => h9) dX7_changes_28 ?_
  refine lv_iload_n hx hb dX7_changes_31 rfl (lv_at hl 1 rfl) ?_
  refine lv_iconst (v := 0) hx hb dX7_changes_32 (by decide) ?_
  refine xzast hx hb hK hP hap hS (352) (by decide) (show kd 352 = 11 by decide) (by rw [show ln 352 = 5 by decide]; exact hn2) dX7_changes_33 (fun H locs hP hS => ?_)
  obtain ⟨A5, eA5, h⟩ := bd_e h
  rw [← eA5] at hP
  have hP : va_P D vwCl (VW K ad I1 G A5 L) H := hP
  exact W.vret hx hb hr (fun t9 ht9 hW9 => ⟨⟨(I1, G, A5, L), rfl, by cases h; rfl, by rw [ht9]; exact hP, va_K.moved hW9.alike hK⟩, hS.F ht9⟩) hS.2.2 dX7_changes_34
set_option maxHeartbeats 4000000 in
set_option maxRecDepth 100000 in
theorem e_X7_closed (l : Launch) (D : va_G) (K : Nat → ClassId) (ad : Nat → Nat) (hap0 : apart ad (fun _ => True)) (a1 : Int32) (a2 : Int32) (a3 : Int32) (I : Nat → Nat → Int32) (G : Nat → Nat → Nat) (A : Nat → Nat → Int32) (L : Nat → Nat → Int64) (r0 : Int32) (I0 : Nat → Nat → Int32) (h : f_X7_closed I A a1 a2 a3 = some (r0, I0)) : Ci l D K ad yX7_closed wsX7_closed 1 25 [.ref (ad 318), .int a1, .int a2, .int a3] (I, G, A, L) (fun (r : Int32) (u : Mem) => r = r0 ∧ u = (I0, G, A, L)) := by
  intro sz
  refine Met.ofW (cc := cX7_closed) (maxL := 4) (ret := (some .int)) (by decide) rfl ?_
  intro p e s m args below meth c s₁ Bd hml hv0
  obtain ⟨rfl, hsz, hP, hK⟩ := hv0
  have hx := Bd.exec
  have hb := Bd.bytes
  have hr := Bd.returns
  have hts := atoms_spec (ws := wsX7_closed) Bd.pre
  have hown : s.vm.findClass RX7 = some m.cls := findClass_of_methodNamed Bd.named
  have hlocks := Bd.notSynchronized
  have hi7 : ∀ w ∈ u_ws RX7 TX7 79, w ∈ wsX7_closed := fun w h => List.mem_cons_of_mem _ (List.mem_append_right _ h)
  subst hsz
  have hap := vF_ap hap0 s.heap.size
  have hS : va_S (vF ad s.heap.size) s.heap s.heap [] := va_S.rf
  have hP : va_P D vwCl (VW K ad I G A L) s.heap := hP
  have hl := lv_entry ([.ref (ad 318), .int a1, .int a2, .int a3]) (n := 4) (Nat.le_of_ble_eq_true rfl)
  rw [lg_entry_eq]
  generalize (lg_sl ([.ref (ad 318), .int a1, .int a2, .int a3]) ++ List.replicate (4 - (lg_sl ([.ref (ad 318), .int a1, .int a2, .int a3])).length) Slot.unset).toArray = ls at hl ⊢
  have hl : lv_has ls 4 [(0, .ref (ad 318)), (1, .int a1), (2, .int a2), (3, .int a3)] := hl
  rw [f_X7_closed] at h
  refine lv_aload_n hx hb dX7_closed_0 rfl (lv_at hl 0 rfl) ?_
  refine lv_iconst (v := 0) hx hb dX7_closed_1 (by decide) ?_
  refine vpI (v := 0) (ty := .int) hx hb hts hi7 tyX7 tyX7_ok nmX7 hown hK hP hap hS (318) (by decide) (show kd 318 = 7 by decide) (C := RX7) (T := TX7) (N := 79) rfl 0 (by decide) (by decide) (by decide) (by decide) (hts (.fieldLink RX7 201 "CrateHelpersModel" "thrown" "I") (by decide +kernel)) (fun _ h9 => h9) rfl (by decide +kernel) rfl rfl dX7_closed_2 (fun H locs hP hS => ?_)
  obtain ⟨I1, eI1, h⟩ := bd_e h
  rw [← eI1] at hP
  have hP : va_P D vwCl (VW K ad I1 G A L) H := hP
  refine lv_iload_n hx hb dX7_closed_5 rfl (lv_at hl 3 rfl) ?_
  refine lv_iconst (v := 0) hx hb dX7_closed_6 (by decide) ?_
  refine lv_iconst (v := 1) hx hb dX7_closed_7 (by decide) ?_
  obtain ⟨r2, hc3, h⟩ := Option.bind_eq_some_iff.mp h
  refine ecS (As := [.int a3, .int 0, .int 1]) (rest := []) ⟨hx, hb, hml, hown, hts⟩ (e_X7_in l D K ad hap0 a3 0 1 I1 G A L r2 hc3) (va_cwS 3 hts gX7_closed_X7_in rfl rfl rfl (by decide +kernel) ⟨Nat.le_of_ble_eq_true rfl, Nat.le_of_ble_eq_true rfl⟩) hK hP hS rfl hl.1 (Nat.le_of_ble_eq_true rfl) (Nat.le_of_ble_eq_true rfl) (Nat.le_of_ble_eq_true rfl) dX7_closed_8 (fun H locs hP hS => ?_) rfl
  have hP : va_P D vwCl (VW K ad I1 G A L) H := hP
  refine lv_if_ne (tgt := 16) hx hb dX7_closed_11 (by decide) (fun c_4 => ?_) (fun c_4 => ?_)
  · have h := iN c_4 h
    refine lv_iload_n hx hb dX7_closed_16 rfl (lv_at hl 1 rfl) ?_
    refine lv_iconst (v := 0) hx hb dX7_closed_17 (by decide) ?_
    refine lv_aload_n hx hb dX7_closed_18 rfl (lv_at hl 0 rfl) ?_
    refine vgI hx hb hts hi7 hown hK hP (318) (by decide) (show kd 318 = 7 by decide) (C := RX7) (T := TX7) (N := 79) rfl 48 (by decide) (by decide) (by decide) (by decide) (hts (.fieldLink RX7 313 "CrateHelpersModel" "walked" "I") (by decide +kernel)) (fun _ h9 => h9) dX7_closed_19 ?_
    refine lv_iconst (v := 1) hx hb dX7_closed_22 (by decide) ?_
    refine lv_isub hx hb dX7_closed_23 ?_
    obtain ⟨r5, hc6, h⟩ := Option.bind_eq_some_iff.mp h
    refine ecS (As := [.int a1, .int 0, .int ((I1 318 48) - 1)]) (rest := []) ⟨hx, hb, hml, hown, hts⟩ (e_X7_in l D K ad hap0 a1 0 ((I1 318 48) - 1) I1 G A L r5 hc6) (va_cwS 3 hts gX7_closed_X7_in rfl rfl rfl (by decide +kernel) ⟨Nat.le_of_ble_eq_true rfl, Nat.le_of_ble_eq_true rfl⟩) hK hP hS rfl hl.1 (Nat.le_of_ble_eq_true rfl) (Nat.le_of_ble_eq_true rfl) (Nat.le_of_ble_eq_true rfl) dX7_closed_24 (fun H locs hP hS => ?_) rfl
    have hP : va_P D vwCl (VW K ad I1 G A L) H := hP
    refine lv_if_eq (tgt := 46) hx hb dX7_closed_27 (by decide) (fun c_7 => ?_) (fun c_7 => ?_)
    · have h := ip c_7 h
      refine lv_bipush (v := (-9)) hx hb dX7_closed_46 (by decide) ?_
      exact W.iret (v := (-9)) hx hb hr (fun t9 ht9 hW9 => ⟨⟨(-9), (I1, G, A, L), rfl, by cases h; exact ⟨rfl, rfl⟩, by rw [ht9]; exact hP, va_K.moved hW9.alike hK⟩, hS.F ht9⟩) hS.2.2 dX7_closed_48
    · have h := iN c_7 h
      refine lv_iload_n hx hb dX7_closed_30 rfl (lv_at hl 2 rfl) ?_
      refine lv_iconst (v := 0) hx hb dX7_closed_31 (by decide) ?_
      refine lv_aload_n hx hb dX7_closed_32 rfl (lv_at hl 0 rfl) ?_
      refine vgC hx hb hts hi7 hown hK hP (318) (by decide) (show kd 318 = 7 by decide) (C := RX7) (T := TX7) (N := 79) rfl 54 (by decide) (by decide) (by decide) (by decide) (359) rfl (hts (.fieldLink RX7 138 "CrateHelpersModel" "walkedValues" "[I") (by decide +kernel)) (fun _ h9 => h9) dX7_closed_33 ?_
      refine lv_iload_n hx hb dX7_closed_36 rfl (lv_at hl 1 rfl) ?_
      obtain ⟨hn8, h⟩ := gk h
      refine xiald hx hb hK hP (359) (by decide) (show kd 359 = 8 by decide) (by rw [show ln 359 = 250 by decide]; exact hn8) dX7_closed_37 ?_
      refine lv_iconst (v := 1) hx hb dX7_closed_38 (by decide) ?_
      refine lv_isub hx hb dX7_closed_39 ?_
      obtain ⟨r9, hc10, h⟩ := Option.bind_eq_some_iff.mp h
      refine ecS (As := [.int a2, .int 0, .int ((A 359 a1.toNatClampNeg) - 1)]) (rest := []) ⟨hx, hb, hml, hown, hts⟩ (e_X7_in l D K ad hap0 a2 0 ((A 359 a1.toNatClampNeg) - 1) I1 G A L r9 hc10) (va_cwS 3 hts gX7_closed_X7_in rfl rfl rfl (by decide +kernel) ⟨Nat.le_of_ble_eq_true rfl, Nat.le_of_ble_eq_true rfl⟩) hK hP hS rfl hl.1 (Nat.le_of_ble_eq_true rfl) (Nat.le_of_ble_eq_true rfl) (Nat.le_of_ble_eq_true rfl) dX7_closed_40 (fun H locs hP hS => ?_) rfl
      have hP : va_P D vwCl (VW K ad I1 G A L) H := hP
      refine lv_if_ne (tgt := 49) hx hb dX7_closed_43 (by decide) (fun c_11 => ?_) (fun c_11 => ?_)
      · have h := iN c_11 h
        refine lv_iload_n hx hb dX7_closed_49 rfl (lv_at hl 3 rfl) ?_
        refine lv_if_ne (tgt := 67) hx hb dX7_closed_50 (by decide) (fun c_12 => ?_) (fun c_12 => ?_)
        · have h := iN c_12 h
          refine lv_aload_n hx hb dX7_closed_67 rfl (lv_at hl 0 rfl) ?_
          refine vgC hx hb hts hi7 hown hK hP (318) (by decide) (show kd 318 = 7 by decide) (C := RX7) (T := TX7) (N := 79) rfl 56 (by decide) (by decide) (by decide) (by decide) (361) rfl (hts (.fieldLink RX7 144 "CrateHelpersModel" "walkedReason" "[I") (by decide +kernel)) (fun _ h9 => h9) dX7_closed_68 ?_
          refine lv_bipush (v := 6) hx hb dX7_closed_71 (by decide) ?_
          refine lv_iload_n hx hb dX7_closed_73 rfl (lv_at hl 1 rfl) ?_
          refine lv_imul hx hb dX7_closed_74 ?_
          refine lv_iload_n hx hb dX7_closed_75 rfl (lv_at hl 2 rfl) ?_
          refine lv_iadd hx hb dX7_closed_76 ?_
          obtain ⟨hn13, h⟩ := gk h
          refine xiald hx hb hK hP (361) (by decide) (show kd 361 = 8 by decide) (by rw [show ln 361 = 1500 by decide]; exact hn13) dX7_closed_77 ?_
          exact W.iret (v := (A 361 (((6 * a1) + a2).toNatClampNeg))) hx hb hr (fun t9 ht9 hW9 => ⟨⟨(A 361 (((6 * a1) + a2).toNatClampNeg)), (I1, G, A, L), rfl, by cases h; exact ⟨rfl, rfl⟩, by rw [ht9]; exact hP, va_K.moved hW9.alike hK⟩, hS.F ht9⟩) hS.2.2 dX7_closed_78
        · have h := ip c_12 h
          refine lv_aload_n hx hb dX7_closed_53 rfl (lv_at hl 0 rfl) ?_
          refine vgC hx hb hts hi7 hown hK hP (318) (by decide) (show kd 318 = 7 by decide) (C := RX7) (T := TX7) (N := 79) rfl 55 (by decide) (by decide) (by decide) (by decide) (360) rfl (hts (.fieldLink RX7 141 "CrateHelpersModel" "walkedClosing" "[I") (by decide +kernel)) (fun _ h9 => h9) dX7_closed_54 ?_
          refine lv_bipush (v := 6) hx hb dX7_closed_57 (by decide) ?_
          refine lv_iload_n hx hb dX7_closed_59 rfl (lv_at hl 1 rfl) ?_
          refine lv_imul hx hb dX7_closed_60 ?_
          refine lv_iload_n hx hb dX7_closed_61 rfl (lv_at hl 2 rfl) ?_
          refine lv_iadd hx hb dX7_closed_62 ?_
          obtain ⟨hn14, h⟩ := gk h
          refine xiald hx hb hK hP (360) (by decide) (show kd 360 = 8 by decide) (by rw [show ln 360 = 1500 by decide]; exact hn14) dX7_closed_63 ?_
          refine lv_goto (tgt := 78) hx hb dX7_closed_64 (by decide) ?_
          exact W.iret (v := (A 360 (((6 * a1) + a2).toNatClampNeg))) hx hb hr (fun t9 ht9 hW9 => ⟨⟨(A 360 (((6 * a1) + a2).toNatClampNeg)), (I1, G, A, L), rfl, by cases h; exact ⟨rfl, rfl⟩, by rw [ht9]; exact hP, va_K.moved hW9.alike hK⟩, hS.F ht9⟩) hS.2.2 dX7_closed_78
      · have h := ip c_11 h
        refine lv_bipush (v := (-9)) hx hb dX7_closed_46 (by decide) ?_
        exact W.iret (v := (-9)) hx hb hr (fun t9 ht9 hW9 => ⟨⟨(-9), (I1, G, A, L), rfl, by cases h; exact ⟨rfl, rfl⟩, by rw [ht9]; exact hP, va_K.moved hW9.alike hK⟩, hS.F ht9⟩) hS.2.2 dX7_closed_48
  · have h := ip c_4 h
    refine lv_iconst (v := (-1)) hx hb dX7_closed_14 (by decide) ?_
    exact W.iret (v := (-1)) hx hb hr (fun t9 ht9 hW9 => ⟨⟨(-1), (I1, G, A, L), rfl, by cases h; exact ⟨rfl, rfl⟩, by rw [ht9]; exact hP, va_K.moved hW9.alike hK⟩, hS.F ht9⟩) hS.2.2 dX7_closed_15
set_option maxHeartbeats 4000000 in
set_option maxRecDepth 100000 in
theorem e_X7_isValue (l : Launch) (D : va_G) (K : Nat → ClassId) (ad : Nat → Nat) (hap0 : apart ad (fun _ => True)) (a1 : Int32) (a2 : Int32) (a3 : Int32) (I : Nat → Nat → Int32) (G : Nat → Nat → Nat) (A : Nat → Nat → Int32) (L : Nat → Nat → Int64) (r0 : Int32) (h : f_X7_isValue I A a1 a2 a3 = some r0) : Ci l D K ad yX7_isValue wsX7_isValue 2 49 [.ref (ad 318), .int a1, .int a2, .int a3] (I, G, A, L) (fun (r : Int32) (u : Mem) => r = r0 ∧ u = (I, G, A, L)) := by
  intro sz
  refine Met.ofW (cc := cX7_isValue) (maxL := 4) (ret := (some .boolean)) (by decide) rfl ?_
  intro p e s m args below meth c s₁ Bd hml hv0
  obtain ⟨rfl, hsz, hP, hK⟩ := hv0
  have hx := Bd.exec
  have hb := Bd.bytes
  have hr := Bd.returns
  have hts := atoms_spec (ws := wsX7_isValue) Bd.pre
  have hown : s.vm.findClass RX7 = some m.cls := findClass_of_methodNamed Bd.named
  have hlocks := Bd.notSynchronized
  have hi7 : ∀ w ∈ u_ws RX7 TX7 79, w ∈ wsX7_isValue := fun w h => List.mem_cons_of_mem _ (List.mem_append_right _ h)
  subst hsz
  have hap := vF_ap hap0 s.heap.size
  have hS : va_S (vF ad s.heap.size) s.heap s.heap [] := va_S.rf
  have hP : va_P D vwCl (VW K ad I G A L) s.heap := hP
  have hl := lv_entry ([.ref (ad 318), .int a1, .int a2, .int a3]) (n := 4) (Nat.le_of_ble_eq_true rfl)
  rw [lg_entry_eq]
  generalize (lg_sl ([.ref (ad 318), .int a1, .int a2, .int a3]) ++ List.replicate (4 - (lg_sl ([.ref (ad 318), .int a1, .int a2, .int a3])).length) Slot.unset).toArray = ls at hl ⊢
  have hl : lv_has ls 4 [(0, .ref (ad 318)), (1, .int a1), (2, .int a2), (3, .int a3)] := hl
  rw [f_X7_isValue] at h
  refine lv_aload_n hx hb dX7_isValue_0 rfl (lv_at hl 0 rfl) ?_
  refine lv_iload_n hx hb dX7_isValue_1 rfl (lv_at hl 1 rfl) ?_
  obtain ⟨r1, hc2, h⟩ := Option.bind_eq_some_iff.mp h
  refine ecV (As := [.int a1]) (rest := []) ⟨hx, hb, hml, hown, hts⟩ (e_X7_isProblem l D K ad hap0 a1 I G A L r1 hc2) (cwV 1 hts gX7_isValue_X7_isProblem rfl rfl rfl (by decide +kernel) ⟨Nat.le_of_ble_eq_true rfl, Nat.le_of_ble_eq_true rfl⟩) hK hP hS (by decide) (show kd 318 = 7 by decide) (by decide) rfl rfl rfl hl.1 (Nat.le_of_ble_eq_true rfl) (Nat.le_of_ble_eq_true rfl) (Nat.le_of_ble_eq_true rfl) dX7_isValue_2 (fun H locs hP hS => ?_) rfl
  have hP : va_P D vwCl (VW K ad I G A L) H := hP
  refine lv_if_eq (tgt := 49) hx hb dX7_isValue_5 (by decide) (fun c_3 => ?_) (fun c_3 => ?_)
  · have h := ip c_3 h
    refine lv_iconst (v := 0) hx hb dX7_isValue_49 (by decide) ?_
    exact W.zret (v := 0) hx hb hr (by decide) (fun t9 ht9 hW9 => ⟨⟨0, (I, G, A, L), rfl, by cases h; exact ⟨rfl, rfl⟩, by rw [ht9]; exact hP, va_K.moved hW9.alike hK⟩, hS.F ht9⟩) hS.2.2 dX7_isValue_50
  · have h := iN c_3 h
    refine lv_iload_n hx hb dX7_isValue_8 rfl (lv_at hl 2 rfl) ?_
    refine lv_iconst (v := 0) hx hb dX7_isValue_9 (by decide) ?_
    refine lv_aload_n hx hb dX7_isValue_10 rfl (lv_at hl 0 rfl) ?_
    refine vgC hx hb hts hi7 hown hK hP (318) (by decide) (show kd 318 = 7 by decide) (C := RX7) (T := TX7) (N := 79) rfl 3 (by decide) (by decide) (by decide) (by decide) (319) rfl (hts (.fieldLink RX7 7 "CrateHelpersModel" "variables" "[I") (by decide +kernel)) (fun _ h9 => h9) dX7_isValue_11 ?_
    refine lv_iload_n hx hb dX7_isValue_14 rfl (lv_at hl 1 rfl) ?_
    obtain ⟨hn4, h⟩ := gk h
    refine xiald hx hb hK hP (319) (by decide) (show kd 319 = 8 by decide) (by rw [show ln 319 = 5 by decide]; exact hn4) dX7_isValue_15 ?_
    refine lv_iconst (v := 1) hx hb dX7_isValue_16 (by decide) ?_
    refine lv_isub hx hb dX7_isValue_17 ?_
    obtain ⟨r5, hc6, h⟩ := Option.bind_eq_some_iff.mp h
    refine ecS (As := [.int a2, .int 0, .int ((A 319 a1.toNatClampNeg) - 1)]) (rest := []) ⟨hx, hb, hml, hown, hts⟩ (e_X7_in l D K ad hap0 a2 0 ((A 319 a1.toNatClampNeg) - 1) I G A L r5 hc6) (va_cwS 3 hts gX7_isValue_X7_in rfl rfl rfl (by decide +kernel) ⟨Nat.le_of_ble_eq_true rfl, Nat.le_of_ble_eq_true rfl⟩) hK hP hS rfl hl.1 (Nat.le_of_ble_eq_true rfl) (Nat.le_of_ble_eq_true rfl) (Nat.le_of_ble_eq_true rfl) dX7_isValue_18 (fun H locs hP hS => ?_) rfl
    have hP : va_P D vwCl (VW K ad I G A L) H := hP
    refine lv_if_eq (tgt := 49) hx hb dX7_isValue_21 (by decide) (fun c_7 => ?_) (fun c_7 => ?_)
    · have h := ip c_7 h
      refine lv_iconst (v := 0) hx hb dX7_isValue_49 (by decide) ?_
      exact W.zret (v := 0) hx hb hr (by decide) (fun t9 ht9 hW9 => ⟨⟨0, (I, G, A, L), rfl, by cases h; exact ⟨rfl, rfl⟩, by rw [ht9]; exact hP, va_K.moved hW9.alike hK⟩, hS.F ht9⟩) hS.2.2 dX7_isValue_50
    · have h := iN c_7 h
      refine lv_iload_n hx hb dX7_isValue_24 rfl (lv_at hl 3 rfl) ?_
      refine lv_iconst (v := 0) hx hb dX7_isValue_25 (by decide) ?_
      refine lv_aload_n hx hb dX7_isValue_26 rfl (lv_at hl 0 rfl) ?_
      refine vgC hx hb hts hi7 hown hK hP (318) (by decide) (show kd 318 = 7 by decide) (C := RX7) (T := TX7) (N := 79) rfl 5 (by decide) (by decide) (by decide) (by decide) (321) rfl (hts (.fieldLink RX7 16 "CrateHelpersModel" "values" "[I") (by decide +kernel)) (fun _ h9 => h9) dX7_isValue_27 ?_
      refine lv_bipush (v := 6) hx hb dX7_isValue_30 (by decide) ?_
      refine lv_iload_n hx hb dX7_isValue_32 rfl (lv_at hl 1 rfl) ?_
      refine lv_imul hx hb dX7_isValue_33 ?_
      refine lv_iload_n hx hb dX7_isValue_34 rfl (lv_at hl 2 rfl) ?_
      refine lv_iadd hx hb dX7_isValue_35 ?_
      obtain ⟨hn8, h⟩ := gk h
      refine xiald hx hb hK hP (321) (by decide) (show kd 321 = 8 by decide) (by rw [show ln 321 = 30 by decide]; exact hn8) dX7_isValue_36 ?_
      refine lv_iconst (v := 1) hx hb dX7_isValue_37 (by decide) ?_
      refine lv_isub hx hb dX7_isValue_38 ?_
      obtain ⟨r9, hc10, h⟩ := Option.bind_eq_some_iff.mp h
      refine ecS (As := [.int a3, .int 0, .int ((A 321 (((6 * a1) + a2).toNatClampNeg)) - 1)]) (rest := []) ⟨hx, hb, hml, hown, hts⟩ (e_X7_in l D K ad hap0 a3 0 ((A 321 (((6 * a1) + a2).toNatClampNeg)) - 1) I G A L r9 hc10) (va_cwS 3 hts gX7_isValue_X7_in rfl rfl rfl (by decide +kernel) ⟨Nat.le_of_ble_eq_true rfl, Nat.le_of_ble_eq_true rfl⟩) hK hP hS rfl hl.1 (Nat.le_of_ble_eq_true rfl) (Nat.le_of_ble_eq_true rfl) (Nat.le_of_ble_eq_true rfl) dX7_isValue_39 (fun H locs hP hS => ?_) rfl
      have hP : va_P D vwCl (VW K ad I G A L) H := hP
      refine lv_if_eq (tgt := 49) hx hb dX7_isValue_42 (by decide) (fun c_11 => ?_) (fun c_11 => ?_)
      · have h := ip c_11 h
        refine lv_iconst (v := 0) hx hb dX7_isValue_49 (by decide) ?_
        exact W.zret (v := 0) hx hb hr (by decide) (fun t9 ht9 hW9 => ⟨⟨0, (I, G, A, L), rfl, by cases h; exact ⟨rfl, rfl⟩, by rw [ht9]; exact hP, va_K.moved hW9.alike hK⟩, hS.F ht9⟩) hS.2.2 dX7_isValue_50
      · have h := iN c_11 h
        refine lv_iconst (v := 1) hx hb dX7_isValue_45 (by decide) ?_
        refine lv_goto (tgt := 50) hx hb dX7_isValue_46 (by decide) ?_
        exact W.zret (v := 1) hx hb hr (by decide) (fun t9 ht9 hW9 => ⟨⟨1, (I, G, A, L), rfl, by cases h; exact ⟨rfl, rfl⟩, by rw [ht9]; exact hP, va_K.moved hW9.alike hK⟩, hS.F ht9⟩) hS.2.2 dX7_isValue_50
set_option maxHeartbeats 4000000 in
set_option maxRecDepth 100000 in
theorem e_X7_cost (l : Launch) (D : va_G) (K : Nat → ClassId) (ad : Nat → Nat) (hap0 : apart ad (fun _ => True)) (a1 : Int32) (a2 : Int32) (a3 : Int32) (a4 : Int32) (I : Nat → Nat → Int32) (G : Nat → Nat → Nat) (A : Nat → Nat → Int32) (L : Nat → Nat → Int64) (r0 : Int32) (I0 : Nat → Nat → Int32) (A0 : Nat → Nat → Int32) (h : f_X7_cost I A a1 a2 a3 a4 = some (r0, I0, A0)) : Ci l D K ad yX7_cost wsX7_cost 3 75 [.ref (ad 318), .int a1, .int a2, .int a3, .int a4] (I, G, A, L) (fun (r : Int32) (u : Mem) => r = r0 ∧ u = (I0, G, A0, L)) := by
  intro sz
  refine Met.ofW (cc := cX7_cost) (maxL := 7) (ret := (some .int)) (by decide) rfl ?_
  intro p e s m args below meth c s₁ Bd hml hv0
  obtain ⟨rfl, hsz, hP, hK⟩ := hv0
  have hx := Bd.exec
  have hb := Bd.bytes
  have hr := Bd.returns
  have hts := atoms_spec (ws := wsX7_cost) Bd.pre
  have hown : s.vm.findClass RX7 = some m.cls := findClass_of_methodNamed Bd.named
  have hlocks := Bd.notSynchronized
  have hi7 : ∀ w ∈ u_ws RX7 TX7 79, w ∈ wsX7_cost := fun w h => List.mem_cons_of_mem _ (List.mem_append_right _ h)
  subst hsz
  have hap := vF_ap hap0 s.heap.size
  have hS : va_S (vF ad s.heap.size) s.heap s.heap [] := va_S.rf
  have hP : va_P D vwCl (VW K ad I G A L) s.heap := hP
  have hl := lv_entry ([.ref (ad 318), .int a1, .int a2, .int a3, .int a4]) (n := 7) (Nat.le_of_ble_eq_true rfl)
  rw [lg_entry_eq]
  generalize (lg_sl ([.ref (ad 318), .int a1, .int a2, .int a3, .int a4]) ++ List.replicate (7 - (lg_sl ([.ref (ad 318), .int a1, .int a2, .int a3, .int a4])).length) Slot.unset).toArray = ls at hl ⊢
  have hl : lv_has ls 7 [(0, .ref (ad 318)), (1, .int a1), (2, .int a2), (3, .int a3), (4, .int a4)] := hl
  rw [f_X7_cost] at h
  refine lv_aload_n hx hb dX7_cost_0 rfl (lv_at hl 0 rfl) ?_
  refine lv_iconst (v := 0) hx hb dX7_cost_1 (by decide) ?_
  refine vpI (v := 0) (ty := .int) hx hb hts hi7 tyX7 tyX7_ok nmX7 hown hK hP hap hS (318) (by decide) (show kd 318 = 7 by decide) (C := RX7) (T := TX7) (N := 79) rfl 0 (by decide) (by decide) (by decide) (by decide) (hts (.fieldLink RX7 201 "CrateHelpersModel" "thrown" "I") (by decide +kernel)) (fun _ h9 => h9) rfl (by decide +kernel) rfl rfl dX7_cost_2 (fun H locs hP hS => ?_)
  obtain ⟨I1, eI1, h⟩ := bd_e h
  rw [← eI1] at hP
  have hP : va_P D vwCl (VW K ad I1 G A L) H := hP
  refine lv_aload_n hx hb dX7_cost_5 rfl (lv_at hl 0 rfl) ?_
  refine lv_iconst (v := 0) hx hb dX7_cost_6 (by decide) ?_
  refine vpI (v := 0) (ty := .int) hx hb hts hi7 tyX7 tyX7_ok nmX7 hown hK hP hap hS (318) (by decide) (show kd 318 = 7 by decide) (C := RX7) (T := TX7) (N := 79) rfl 1 (by decide) (by decide) (by decide) (by decide) (hts (.fieldLink RX7 221 "CrateHelpersModel" "status" "I") (by decide +kernel)) (fun _ h9 => h9) rfl (by decide +kernel) rfl rfl dX7_cost_7 (fun H locs hP hS => ?_)
  obtain ⟨I2, eI2, h⟩ := bd_e h
  rw [← eI2] at hP
  have hP : va_P D vwCl (VW K ad I2 G A L) H := hP
  refine lv_aload_n hx hb dX7_cost_10 rfl (lv_at hl 0 rfl) ?_
  refine lv_iload_n hx hb dX7_cost_11 rfl (lv_at hl 1 rfl) ?_
  refine lv_iload_n hx hb dX7_cost_12 rfl (lv_at hl 2 rfl) ?_
  refine lv_iload_n hx hb dX7_cost_13 rfl (lv_at hl 3 rfl) ?_
  obtain ⟨r3, hc4, h⟩ := Option.bind_eq_some_iff.mp h
  refine ecV (As := [.int a1, .int a2, .int a3]) (rest := []) ⟨hx, hb, hml, hown, hts⟩ (e_X7_isValue l D K ad hap0 a1 a2 a3 I2 G A L r3 hc4) (cwV 3 hts gX7_cost_X7_isValue rfl rfl rfl (by decide +kernel) ⟨Nat.le_of_ble_eq_true rfl, Nat.le_of_ble_eq_true rfl⟩) hK hP hS (by decide) (show kd 318 = 7 by decide) (by decide) rfl rfl rfl hl.1 (Nat.le_of_ble_eq_true rfl) (Nat.le_of_ble_eq_true rfl) (Nat.le_of_ble_eq_true rfl) dX7_cost_14 (fun H locs hP hS => ?_) rfl
  have hP : va_P D vwCl (VW K ad I2 G A L) H := hP
  refine lv_if_eq (tgt := 32) hx hb dX7_cost_17 (by decide) (fun c_5 => ?_) (fun c_5 => ?_)
  · have h := ip c_5 h
    refine lv_aload_n hx hb dX7_cost_32 rfl (lv_at hl 0 rfl) ?_
    refine lv_iconst (v := (-1)) hx hb dX7_cost_33 (by decide) ?_
    obtain ⟨⟨r6, I7⟩, hc8, h⟩ := Option.bind_eq_some_iff.mp h
    refine ecV (As := [.int (-1)]) (rest := []) ⟨hx, hb, hml, hown, hts⟩ (e_X7_no l D K ad hap0 (-1) I2 G A L r6 I7 hc8) (cwV 1 hts gX7_cost_X7_no rfl rfl rfl (by decide +kernel) ⟨Nat.le_of_ble_eq_true rfl, Nat.le_of_ble_eq_true rfl⟩) hK hP hS (by decide) (show kd 318 = 7 by decide) (by decide) rfl rfl rfl hl.1 (Nat.le_of_ble_eq_true rfl) (Nat.le_of_ble_eq_true rfl) (Nat.le_of_ble_eq_true rfl) dX7_cost_34 (fun H locs hP hS => ?_) rfl
    have hP : va_P D vwCl (VW K ad I7 G A L) H := hP
    exact W.iret (v := r6) hx hb hr (fun t9 ht9 hW9 => ⟨⟨r6, (I7, G, A, L), rfl, by cases h; exact ⟨rfl, rfl⟩, by rw [ht9]; exact hP, va_K.moved hW9.alike hK⟩, hS.F ht9⟩) hS.2.2 dX7_cost_37
  · have h := iN c_5 h
    refine lv_iload hx hb dX7_cost_20 (lv_at hl 4 rfl) ?_
    refine lv_ldc (v := (-100000)) hx hb hown (hts (.constant RX7 228 (-100000)) (by decide +kernel)) dX7_cost_22 ?_
    refine lv_ldc (v := 100000) hx hb hown (hts (.constant RX7 229 100000) (by decide +kernel)) dX7_cost_24 ?_
    obtain ⟨r9, hc10, h⟩ := Option.bind_eq_some_iff.mp h
    refine ecS (As := [.int a4, .int (-100000), .int 100000]) (rest := []) ⟨hx, hb, hml, hown, hts⟩ (e_X7_in l D K ad hap0 a4 (-100000) 100000 I2 G A L r9 hc10) (va_cwS 3 hts gX7_cost_X7_in rfl rfl rfl (by decide +kernel) ⟨Nat.le_of_ble_eq_true rfl, Nat.le_of_ble_eq_true rfl⟩) hK hP hS rfl hl.1 (Nat.le_of_ble_eq_true rfl) (Nat.le_of_ble_eq_true rfl) (Nat.le_of_ble_eq_true rfl) dX7_cost_26 (fun H locs hP hS => ?_) rfl
    have hP : va_P D vwCl (VW K ad I2 G A L) H := hP
    refine lv_if_ne (tgt := 38) hx hb dX7_cost_29 (by decide) (fun c_11 => ?_) (fun c_11 => ?_)
    · have h := iN c_11 h
      refine lv_aload_n hx hb dX7_cost_38 rfl (lv_at hl 0 rfl) ?_
      refine vgI hx hb hts hi7 hown hK hP (318) (by decide) (show kd 318 = 7 by decide) (C := RX7) (T := TX7) (N := 79) rfl 23 (by decide) (by decide) (by decide) (by decide) (hts (.fieldLink RX7 62 "CrateHelpersModel" "under" "I") (by decide +kernel)) (fun _ h9 => h9) dX7_cost_39 ?_
      refine lv_bipush (v := (-9)) hx hb dX7_cost_42 (by decide) ?_
      refine lv_icmp_eq (tgt := 54) hx hb dX7_cost_44 (by decide) (fun c_12 => ?_) (fun c_12 => ?_)
      · have h := ip c_12 h
        refine lv_aload_n hx hb dX7_cost_54 rfl (lv_at hl 0 rfl) ?_
        refine vgC hx hb hts hi7 hown hK hP (318) (by decide) (show kd 318 = 7 by decide) (C := RX7) (T := TX7) (N := 79) rfl 6 (by decide) (by decide) (by decide) (by decide) (322) rfl (hts (.fieldLink RX7 19 "CrateHelpersModel" "kinds" "[I") (by decide +kernel)) (fun _ h9 => h9) dX7_cost_55 ?_
        refine lv_bipush (v := 6) hx hb dX7_cost_58 (by decide) ?_
        refine lv_iload_n hx hb dX7_cost_60 rfl (lv_at hl 1 rfl) ?_
        refine lv_imul hx hb dX7_cost_61 ?_
        refine lv_iload_n hx hb dX7_cost_62 rfl (lv_at hl 2 rfl) ?_
        refine lv_iadd hx hb dX7_cost_63 ?_
        obtain ⟨hn13, h⟩ := gk h
        refine xiald hx hb hK hP (322) (by decide) (show kd 322 = 8 by decide) (by rw [show ln 322 = 30 by decide]; exact hn13) dX7_cost_64 ?_
        refine lv_istore (lv' := [(5, .int (A 322 (((6 * a1) + a2).toNatClampNeg))), (0, .ref (ad 318)), (1, .int a1), (2, .int a2), (3, .int a3), (4, .int a4)]) hx hb dX7_cost_65 hl (by decide) rfl (fun ls hl => ?_)
        refine lv_iload hx hb dX7_cost_67 (lv_at hl 0 rfl) ?_
        obtain ⟨j17, ej17, h⟩ := bd_e h
        have kj17 : ∀ (z16 : Int32), j17 z16 = some (r0, I0, A0) → ∀ (H : Heap) (locs : List Loc), va_P D vwCl (VW K ad I2 G A L) H → va_S (vF ad s.heap.size) s.heap H locs → ∀ (ls : Array Slot), lv_has ls 7 [(0, .ref (ad 318)), (1, .int a1), (2, .int a2), (3, .int a3)] → W p l e ({ frames := 3, cells := 0, slots := 0, locals := 75 }) s m ([.ref (ad 318), .int a1, .int a2, .int a3, .int a4] : List Value).toArray below meth c H locs 0 0 (MQ below (va_Qi (fun (r : Int32) (u : Mem) => r = r0 ∧ u = (I0, G, A0, L)) (vB D K ad) (vF ad s.heap.size)) ([.ref (ad 318), .int a1, .int a2, .int a3, .int a4] : List Value).toArray s 0 0 (vF ad s.heap.size)) (F0 m 106 ls [.int z16]) := by
          intro z16 h H locs hP hS ls hl
          subst ej17
          refine lv_istore (lv' := [(6, .int z16), (0, .ref (ad 318)), (1, .int a1), (2, .int a2), (3, .int a3)]) hx hb dX7_cost_106 hl (by decide) rfl (fun ls hl => ?_)
          refine lv_aload_n hx hb dX7_cost_108 rfl (lv_at hl 1 rfl) ?_
          refine vgC hx hb hts hi7 hown hK hP (318) (by decide) (show kd 318 = 7 by decide) (C := RX7) (T := TX7) (N := 79) rfl 7 (by decide) (by decide) (by decide) (by decide) (323) rfl (hts (.fieldLink RX7 22 "CrateHelpersModel" "costs" "[I") (by decide +kernel)) (fun _ h9 => h9) dX7_cost_109 ?_
          refine lv_bipush (v := 36) hx hb dX7_cost_112 (by decide) ?_
          refine lv_iload_n hx hb dX7_cost_114 rfl (lv_at hl 2 rfl) ?_
          refine lv_imul hx hb dX7_cost_115 ?_
          refine lv_bipush (v := 6) hx hb dX7_cost_116 (by decide) ?_
          refine lv_iload_n hx hb dX7_cost_118 rfl (lv_at hl 3 rfl) ?_
          refine lv_imul hx hb dX7_cost_119 ?_
          refine lv_iadd hx hb dX7_cost_120 ?_
          refine lv_iload_n hx hb dX7_cost_121 rfl (lv_at hl 4 rfl) ?_
          refine lv_iadd hx hb dX7_cost_122 ?_
          refine lv_iload hx hb dX7_cost_123 (lv_at hl 0 rfl) ?_
          obtain ⟨hn18, h⟩ := gk h
          refine xiast hx hb hK hP hap hS (323) (by decide) (show kd 323 = 8 by decide) (by rw [show ln 323 = 180 by decide]; exact hn18) dX7_cost_125 (fun H locs hP hS => ?_)
          obtain ⟨A19, eA19, h⟩ := bd_e h
          rw [← eA19] at hP
          have hP : va_P D vwCl (VW K ad I2 G A19 L) H := hP
          refine lv_aload_n hx hb dX7_cost_126 rfl (lv_at hl 1 rfl) ?_
          refine lv_iload_n hx hb dX7_cost_127 rfl (lv_at hl 2 rfl) ?_
          obtain ⟨⟨I20, A21⟩, hc22, h⟩ := Option.bind_eq_some_iff.mp h
          refine ecVv (As := [.int a1]) (rest := []) ⟨hx, hb, hml, hown, hts⟩ (e_X7_changes l D K ad hap0 a1 I2 G A19 L I20 A21 hc22) (cwV 1 hts gX7_cost_X7_changes rfl rfl rfl (by decide +kernel) ⟨Nat.le_of_ble_eq_true rfl, Nat.le_of_ble_eq_true rfl⟩) hK hP hS (by decide) (show kd 318 = 7 by decide) (by decide) rfl rfl rfl hl.1 (Nat.le_of_ble_eq_true rfl) (Nat.le_of_ble_eq_true rfl) (Nat.le_of_ble_eq_true rfl) dX7_cost_128 (fun H locs hP hS => ?_) rfl
          have hP : va_P D vwCl (VW K ad I20 G A21 L) H := hP
          refine lv_iload hx hb dX7_cost_131 (lv_at hl 0 rfl) ?_
          exact W.iret (v := z16) hx hb hr (fun t9 ht9 hW9 => ⟨⟨z16, (I20, G, A21, L), rfl, by cases h; exact ⟨rfl, rfl⟩, by rw [ht9]; exact hP, va_K.moved hW9.alike hK⟩, hS.F ht9⟩) hS.2.2 dX7_cost_133
        refine lv_if_ne (tgt := 78) hx hb dX7_cost_69 (by decide) (fun c_23 => ?_) (fun c_23 => ?_)
        · have h := iN c_23 h
          refine lv_iload hx hb dX7_cost_78 (lv_at hl 0 rfl) ?_
          refine lv_iconst (v := 1) hx hb dX7_cost_80 (by decide) ?_
          refine lv_icmp_ne (tgt := 90) hx hb dX7_cost_81 (by decide) (fun c_24 => ?_) (fun c_24 => ?_)
          · have h := iN c_24 h
            refine lv_iload hx hb dX7_cost_90 (lv_at hl 0 rfl) ?_
            refine lv_iconst (v := 2) hx hb dX7_cost_92 (by decide) ?_
            refine lv_icmp_ne (tgt := 104) hx hb dX7_cost_93 (by decide) (fun c_25 => ?_) (fun c_25 => ?_)
            · have h := iN c_25 h
              refine lv_iload hx hb dX7_cost_104 (lv_at hl 5 rfl) ?_
              exact kj17 a4 h _ _ hP hS ls (lv_sub hl [1, 2, 3, 4] rfl)
            · have h := ip c_25 h
              refine lv_iload hx hb dX7_cost_96 (lv_at hl 5 rfl) ?_
              refine lv_ldc (v := 65535) hx hb hown (hts (.constant RX7 234 65535) (by decide +kernel)) dX7_cost_98 ?_
              refine lv_iand hx hb dX7_cost_100 ?_
              refine lv_goto (tgt := 106) hx hb dX7_cost_101 (by decide) ?_
              exact kj17 (a4 &&& 65535) h _ _ hP hS ls (lv_sub hl [1, 2, 3, 4] rfl)
          · have h := ip c_24 h
            refine lv_iload hx hb dX7_cost_84 (lv_at hl 5 rfl) ?_
            refine lv_i2s hx hb dX7_cost_86 rfl ?_
            refine lv_goto (tgt := 106) hx hb dX7_cost_87 (by decide) ?_
            exact kj17 a4.toInt16.toInt32 h _ _ hP hS ls (lv_sub hl [1, 2, 3, 4] rfl)
        · have h := ip c_23 h
          refine lv_iload hx hb dX7_cost_72 (lv_at hl 5 rfl) ?_
          refine lv_i2b hx hb dX7_cost_74 rfl ?_
          refine lv_goto (tgt := 106) hx hb dX7_cost_75 (by decide) ?_
          exact kj17 a4.toInt8.toInt32 h _ _ hP hS ls (lv_sub hl [1, 2, 3, 4] rfl)
      · have h := iN c_12 h
        refine lv_aload_n hx hb dX7_cost_47 rfl (lv_at hl 0 rfl) ?_
        refine lv_bipush (v := (-2)) hx hb dX7_cost_48 (by decide) ?_
        obtain ⟨⟨r26, I27⟩, hc28, h⟩ := Option.bind_eq_some_iff.mp h
        refine ecV (As := [.int (-2)]) (rest := []) ⟨hx, hb, hml, hown, hts⟩ (e_X7_no l D K ad hap0 (-2) I2 G A L r26 I27 hc28) (cwV 1 hts gX7_cost_X7_no rfl rfl rfl (by decide +kernel) ⟨Nat.le_of_ble_eq_true rfl, Nat.le_of_ble_eq_true rfl⟩) hK hP hS (by decide) (show kd 318 = 7 by decide) (by decide) rfl rfl rfl hl.1 (Nat.le_of_ble_eq_true rfl) (Nat.le_of_ble_eq_true rfl) (Nat.le_of_ble_eq_true rfl) dX7_cost_50 (fun H locs hP hS => ?_) rfl
        have hP : va_P D vwCl (VW K ad I27 G A L) H := hP
        exact W.iret (v := r26) hx hb hr (fun t9 ht9 hW9 => ⟨⟨r26, (I27, G, A, L), rfl, by cases h; exact ⟨rfl, rfl⟩, by rw [ht9]; exact hP, va_K.moved hW9.alike hK⟩, hS.F ht9⟩) hS.2.2 dX7_cost_53
    · have h := ip c_11 h
      refine lv_aload_n hx hb dX7_cost_32 rfl (lv_at hl 0 rfl) ?_
      refine lv_iconst (v := (-1)) hx hb dX7_cost_33 (by decide) ?_
      obtain ⟨⟨r29, I30⟩, hc31, h⟩ := Option.bind_eq_some_iff.mp h
      refine ecV (As := [.int (-1)]) (rest := []) ⟨hx, hb, hml, hown, hts⟩ (e_X7_no l D K ad hap0 (-1) I2 G A L r29 I30 hc31) (cwV 1 hts gX7_cost_X7_no rfl rfl rfl (by decide +kernel) ⟨Nat.le_of_ble_eq_true rfl, Nat.le_of_ble_eq_true rfl⟩) hK hP hS (by decide) (show kd 318 = 7 by decide) (by decide) rfl rfl rfl hl.1 (Nat.le_of_ble_eq_true rfl) (Nat.le_of_ble_eq_true rfl) (Nat.le_of_ble_eq_true rfl) dX7_cost_34 (fun H locs hP hS => ?_) rfl
      have hP : va_P D vwCl (VW K ad I30 G A L) H := hP
      exact W.iret (v := r29) hx hb hr (fun t9 ht9 hW9 => ⟨⟨r29, (I30, G, A, L), rfl, by cases h; exact ⟨rfl, rfl⟩, by rw [ht9]; exact hP, va_K.moved hW9.alike hK⟩, hS.F ht9⟩) hS.2.2 dX7_cost_37
