set_option maxHeartbeats 4000000 in
set_option maxRecDepth 100000 in
theorem e_X7_endsAs (l : Launch) (D : va_G) (K : Nat → ClassId) (ad : Nat → Nat) (hap0 : apart ad (fun _ => True)) (a1 : Int32) (a2 : Int32) (I : Nat → Nat → Int32) (G : Nat → Nat → Nat) (A : Nat → Nat → Int32) (L : Nat → Nat → Int64) (I0 : Nat → Nat → Int32) (A0 : Nat → Nat → Int32) (h : f_X7_endsAs I A a1 a2 = some (I0, A0)) : Cv l D K ad yX7_endsAs wsX7_endsAs 2 51 [.ref (ad 318), .int a1, .int a2] (I, G, A, L) (fun (u : Mem) => u = (I0, G, A0, L)) := by
  intro sz
  refine Met.ofW (cc := cX7_endsAs) (maxL := 8) (ret := none) (by decide) rfl ?_
  intro p e s m args below meth c s₁ Bd hml hv0
  obtain ⟨rfl, hsz, hP, hK⟩ := hv0
  have hx := Bd.exec
  have hb := Bd.bytes
  have hr := Bd.returns
  have hts := atoms_spec (ws := wsX7_endsAs) Bd.pre
  have hown : s.vm.findClass RX7 = some m.cls := findClass_of_methodNamed Bd.named
  have hlocks := Bd.notSynchronized
  have hi7 : ∀ w ∈ u_ws RX7 TX7 79, w ∈ wsX7_endsAs := fun w h => List.mem_cons_of_mem _ (List.mem_append_right _ h)
  subst hsz
  have hap := vF_ap hap0 s.heap.size
  have hS : va_S (vF ad s.heap.size) s.heap s.heap [] := va_S.rf
  have hP : va_P D vwCl (VW K ad I G A L) s.heap := hP
  have hl := lv_entry ([.ref (ad 318), .int a1, .int a2]) (n := 8) (Nat.le_of_ble_eq_true rfl)
  rw [lg_entry_eq]
  generalize (lg_sl ([.ref (ad 318), .int a1, .int a2]) ++ List.replicate (8 - (lg_sl ([.ref (ad 318), .int a1, .int a2])).length) Slot.unset).toArray = ls at hl ⊢
  have hl : lv_has ls 8 [(0, .ref (ad 318)), (1, .int a1), (2, .int a2)] := hl
  rw [f_X7_endsAs] at h
  refine lv_aload_n hx hb dX7_endsAs_0 rfl (lv_at hl 0 rfl) ?_
  obtain ⟨r1, hc2, h⟩ := Option.bind_eq_some_iff.mp h
  refine ecV (As := []) (rest := []) ⟨hx, hb, hml, hown, hts⟩ (e_X7_nextOf l D K ad hap0  I G A L r1 hc2) (cwV 0 hts gX7_endsAs_X7_nextOf rfl rfl rfl (by decide +kernel) ⟨Nat.le_of_ble_eq_true rfl, Nat.le_of_ble_eq_true rfl⟩) hK hP hS (by decide) (show kd 318 = 7 by decide) (by decide) rfl rfl rfl hl.1 (Nat.le_of_ble_eq_true rfl) (Nat.le_of_ble_eq_true rfl) (Nat.le_of_ble_eq_true rfl) dX7_endsAs_1 (fun H locs hP hS => ?_) rfl
  have hP : va_P D vwCl (VW K ad I G A L) H := hP
  refine lv_istore_n (lv' := [(3, .int r1), (0, .ref (ad 318)), (1, .int a1), (2, .int a2)]) hx hb dX7_endsAs_4 rfl hl (by decide) rfl (fun ls hl => ?_)
  refine lv_aload_n hx hb dX7_endsAs_5 rfl (lv_at hl 1 rfl) ?_
  refine vgI hx hb hts hi7 hown hK hP (318) (by decide) (show kd 318 = 7 by decide) (C := RX7) (T := TX7) (N := 79) rfl 31 (by decide) (by decide) (by decide) (by decide) (hts (.fieldLink RX7 303 "CrateHelpersModel" "taken" "I") (by decide +kernel)) (fun _ h9 => h9) dX7_endsAs_6 ?_
  obtain ⟨j5, ej5, h⟩ := bd_e h
  have kj5 : ∀ (z4 : Int32), j5 z4 = some (I0, A0) → ∀ (H : Heap) (locs : List Loc), va_P D vwCl (VW K ad I G A L) H → va_S (vF ad s.heap.size) s.heap H locs → ∀ (ls : Array Slot), lv_has ls 8 [(3, .int r1), (0, .ref (ad 318)), (1, .int a1), (2, .int a2)] → W p l e ({ frames := 2, cells := 0, slots := 0, locals := 51 }) s m ([.ref (ad 318), .int a1, .int a2] : List Value).toArray below meth c H locs 0 0 (MQ below (va_Qv (fun (u : Mem) => u = (I0, G, A0, L)) (vB D K ad) (vF ad s.heap.size)) ([.ref (ad 318), .int a1, .int a2] : List Value).toArray s 0 0 (vF ad s.heap.size)) (F0 m 28 ls [.int z4]) := by
    intro z4 h H locs hP hS ls hl
    subst ej5
    refine lv_istore (lv' := [(4, .int z4), (3, .int r1), (0, .ref (ad 318)), (1, .int a1), (2, .int a2)]) hx hb dX7_endsAs_28 hl (by decide) rfl (fun ls hl => ?_)
    refine lv_aload_n hx hb dX7_endsAs_30 rfl (lv_at hl 2 rfl) ?_
    refine vgC hx hb hts hi7 hown hK hP (318) (by decide) (show kd 318 = 7 by decide) (C := RX7) (T := TX7) (N := 79) rfl 44 (by decide) (by decide) (by decide) (by decide) (350) rfl (hts (.fieldLink RX7 111 "CrateHelpersModel" "toldAt" "[I") (by decide +kernel)) (fun _ h9 => h9) dX7_endsAs_31 ?_
    refine lv_bipush (v := 6) hx hb dX7_endsAs_34 (by decide) ?_
    refine lv_iload_n hx hb dX7_endsAs_36 rfl (lv_at hl 3 rfl) ?_
    refine lv_imul hx hb dX7_endsAs_37 ?_
    refine lv_iload_n hx hb dX7_endsAs_38 rfl (lv_at hl 4 rfl) ?_
    obtain ⟨hn6, h⟩ := gk h
    refine xiast hx hb hK hP hap hS (350) (by decide) (show kd 350 = 8 by decide) (by rw [show ln 350 = 30 by decide]; exact hn6) dX7_endsAs_39 (fun H locs hP hS => ?_)
    obtain ⟨A7, eA7, h⟩ := bd_e h
    rw [← eA7] at hP
    have hP : va_P D vwCl (VW K ad I G A7 L) H := hP
    refine lv_aload_n hx hb dX7_endsAs_40 rfl (lv_at hl 2 rfl) ?_
    refine vgC hx hb hts hi7 hown hK hP (318) (by decide) (show kd 318 = 7 by decide) (C := RX7) (T := TX7) (N := 79) rfl 44 (by decide) (by decide) (by decide) (by decide) (350) rfl (hts (.fieldLink RX7 111 "CrateHelpersModel" "toldAt" "[I") (by decide +kernel)) (fun _ h9 => h9) dX7_endsAs_41 ?_
    refine lv_bipush (v := 6) hx hb dX7_endsAs_44 (by decide) ?_
    refine lv_iload_n hx hb dX7_endsAs_46 rfl (lv_at hl 3 rfl) ?_
    refine lv_imul hx hb dX7_endsAs_47 ?_
    refine lv_iconst (v := 1) hx hb dX7_endsAs_48 (by decide) ?_
    refine lv_iadd hx hb dX7_endsAs_49 ?_
    refine lv_aload_n hx hb dX7_endsAs_50 rfl (lv_at hl 2 rfl) ?_
    refine vgI hx hb hts hi7 hown hK hP (318) (by decide) (show kd 318 = 7 by decide) (C := RX7) (T := TX7) (N := 79) rfl 31 (by decide) (by decide) (by decide) (by decide) (hts (.fieldLink RX7 303 "CrateHelpersModel" "taken" "I") (by decide +kernel)) (fun _ h9 => h9) dX7_endsAs_51 ?_
    obtain ⟨hn8, h⟩ := gk h
    refine xiast hx hb hK hP hap hS (350) (by decide) (show kd 350 = 8 by decide) (by rw [show ln 350 = 30 by decide]; exact hn8) dX7_endsAs_54 (fun H locs hP hS => ?_)
    obtain ⟨A9, eA9, h⟩ := bd_e h
    rw [← eA9] at hP
    have hP : va_P D vwCl (VW K ad I G A9 L) H := hP
    refine lv_aload_n hx hb dX7_endsAs_55 rfl (lv_at hl 2 rfl) ?_
    refine vgC hx hb hts hi7 hown hK hP (318) (by decide) (show kd 318 = 7 by decide) (C := RX7) (T := TX7) (N := 79) rfl 44 (by decide) (by decide) (by decide) (by decide) (350) rfl (hts (.fieldLink RX7 111 "CrateHelpersModel" "toldAt" "[I") (by decide +kernel)) (fun _ h9 => h9) dX7_endsAs_56 ?_
    refine lv_bipush (v := 6) hx hb dX7_endsAs_59 (by decide) ?_
    refine lv_iload_n hx hb dX7_endsAs_61 rfl (lv_at hl 3 rfl) ?_
    refine lv_imul hx hb dX7_endsAs_62 ?_
    refine lv_iconst (v := 2) hx hb dX7_endsAs_63 (by decide) ?_
    refine lv_iadd hx hb dX7_endsAs_64 ?_
    refine lv_aload_n hx hb dX7_endsAs_65 rfl (lv_at hl 2 rfl) ?_
    refine vgI hx hb hts hi7 hown hK hP (318) (by decide) (show kd 318 = 7 by decide) (C := RX7) (T := TX7) (N := 79) rfl 30 (by decide) (by decide) (by decide) (by decide) (hts (.fieldLink RX7 287 "CrateHelpersModel" "done" "I") (by decide +kernel)) (fun _ h9 => h9) dX7_endsAs_66 ?_
    obtain ⟨hn10, h⟩ := gk h
    refine xiast hx hb hK hP hap hS (350) (by decide) (show kd 350 = 8 by decide) (by rw [show ln 350 = 30 by decide]; exact hn10) dX7_endsAs_69 (fun H locs hP hS => ?_)
    obtain ⟨A11, eA11, h⟩ := bd_e h
    rw [← eA11] at hP
    have hP : va_P D vwCl (VW K ad I G A11 L) H := hP
    refine lv_aload_n hx hb dX7_endsAs_70 rfl (lv_at hl 2 rfl) ?_
    refine vgC hx hb hts hi7 hown hK hP (318) (by decide) (show kd 318 = 7 by decide) (C := RX7) (T := TX7) (N := 79) rfl 44 (by decide) (by decide) (by decide) (by decide) (350) rfl (hts (.fieldLink RX7 111 "CrateHelpersModel" "toldAt" "[I") (by decide +kernel)) (fun _ h9 => h9) dX7_endsAs_71 ?_
    refine lv_bipush (v := 6) hx hb dX7_endsAs_74 (by decide) ?_
    refine lv_iload_n hx hb dX7_endsAs_76 rfl (lv_at hl 3 rfl) ?_
    refine lv_imul hx hb dX7_endsAs_77 ?_
    refine lv_iconst (v := 3) hx hb dX7_endsAs_78 (by decide) ?_
    refine lv_iadd hx hb dX7_endsAs_79 ?_
    refine lv_aload_n hx hb dX7_endsAs_80 rfl (lv_at hl 2 rfl) ?_
    refine vgI hx hb hts hi7 hown hK hP (318) (by decide) (show kd 318 = 7 by decide) (C := RX7) (T := TX7) (N := 79) rfl 28 (by decide) (by decide) (by decide) (by decide) (hts (.fieldLink RX7 310 "CrateHelpersModel" "turns" "I") (by decide +kernel)) (fun _ h9 => h9) dX7_endsAs_81 ?_
    obtain ⟨hn12, h⟩ := gk h
    refine xiast hx hb hK hP hap hS (350) (by decide) (show kd 350 = 8 by decide) (by rw [show ln 350 = 30 by decide]; exact hn12) dX7_endsAs_84 (fun H locs hP hS => ?_)
    obtain ⟨A13, eA13, h⟩ := bd_e h
    rw [← eA13] at hP
    have hP : va_P D vwCl (VW K ad I G A13 L) H := hP
    refine lv_aload_n hx hb dX7_endsAs_85 rfl (lv_at hl 2 rfl) ?_
    refine vgC hx hb hts hi7 hown hK hP (318) (by decide) (show kd 318 = 7 by decide) (C := RX7) (T := TX7) (N := 79) rfl 44 (by decide) (by decide) (by decide) (by decide) (350) rfl (hts (.fieldLink RX7 111 "CrateHelpersModel" "toldAt" "[I") (by decide +kernel)) (fun _ h9 => h9) dX7_endsAs_86 ?_
    refine lv_bipush (v := 6) hx hb dX7_endsAs_89 (by decide) ?_
    refine lv_iload_n hx hb dX7_endsAs_91 rfl (lv_at hl 3 rfl) ?_
    refine lv_imul hx hb dX7_endsAs_92 ?_
    refine lv_iconst (v := 4) hx hb dX7_endsAs_93 (by decide) ?_
    refine lv_iadd hx hb dX7_endsAs_94 ?_
    refine lv_iload_n hx hb dX7_endsAs_95 rfl (lv_at hl 4 rfl) ?_
    refine lv_iconst (v := 1) hx hb dX7_endsAs_96 (by decide) ?_
    obtain ⟨j16, ej16, h⟩ := bd_e h
    have kj16 : ∀ (z15 : Int32), j16 z15 = some (I0, A0) → ∀ (H : Heap) (locs : List Loc), va_P D vwCl (VW K ad I G A13 L) H → va_S (vF ad s.heap.size) s.heap H locs → ∀ (ls : Array Slot), lv_has ls 8 [(4, .int z4), (3, .int r1), (0, .ref (ad 318)), (1, .int a1), (2, .int a2)] → W p l e ({ frames := 2, cells := 0, slots := 0, locals := 51 }) s m ([.ref (ad 318), .int a1, .int a2] : List Value).toArray below meth c H locs 0 0 (MQ below (va_Qv (fun (u : Mem) => u = (I0, G, A0, L)) (vB D K ad) (vF ad s.heap.size)) ([.ref (ad 318), .int a1, .int a2] : List Value).toArray s 0 0 (vF ad s.heap.size)) (F0 m 112 ls [.int z15, .int ((6 * a1) + 4), .ref (ad 350)]) := by
      intro z15 h H locs hP hS ls hl
      subst ej16
      obtain ⟨hn17, h⟩ := gk h
      refine xiast hx hb hK hP hap hS (350) (by decide) (show kd 350 = 8 by decide) (by rw [show ln 350 = 30 by decide]; exact hn17) dX7_endsAs_112 (fun H locs hP hS => ?_)
      obtain ⟨A18, eA18, h⟩ := bd_e h
      rw [← eA18] at hP
      have hP : va_P D vwCl (VW K ad I G A18 L) H := hP
      refine lv_aload_n hx hb dX7_endsAs_113 rfl (lv_at hl 2 rfl) ?_
      refine vgC hx hb hts hi7 hown hK hP (318) (by decide) (show kd 318 = 7 by decide) (C := RX7) (T := TX7) (N := 79) rfl 44 (by decide) (by decide) (by decide) (by decide) (350) rfl (hts (.fieldLink RX7 111 "CrateHelpersModel" "toldAt" "[I") (by decide +kernel)) (fun _ h9 => h9) dX7_endsAs_114 ?_
      refine lv_bipush (v := 6) hx hb dX7_endsAs_117 (by decide) ?_
      refine lv_iload_n hx hb dX7_endsAs_119 rfl (lv_at hl 3 rfl) ?_
      refine lv_imul hx hb dX7_endsAs_120 ?_
      refine lv_iconst (v := 5) hx hb dX7_endsAs_121 (by decide) ?_
      refine lv_iadd hx hb dX7_endsAs_122 ?_
      refine lv_iload_n hx hb dX7_endsAs_123 rfl (lv_at hl 4 rfl) ?_
      refine lv_iconst (v := 1) hx hb dX7_endsAs_124 (by decide) ?_
      obtain ⟨j23, ej23, h⟩ := bd_e h
      have kj23 : ∀ (z22 : Int32), j23 z22 = some (I0, A0) → ∀ (H : Heap) (locs : List Loc), va_P D vwCl (VW K ad I G A18 L) H → va_S (vF ad s.heap.size) s.heap H locs → ∀ (ls : Array Slot), lv_has ls 8 [(4, .int z4), (0, .ref (ad 318)), (1, .int a1), (2, .int a2)] → W p l e ({ frames := 2, cells := 0, slots := 0, locals := 51 }) s m ([.ref (ad 318), .int a1, .int a2] : List Value).toArray below meth c H locs 0 0 (MQ below (va_Qv (fun (u : Mem) => u = (I0, G, A0, L)) (vB D K ad) (vF ad s.heap.size)) ([.ref (ad 318), .int a1, .int a2] : List Value).toArray s 0 0 (vF ad s.heap.size)) (F0 m 155 ls [.int z22, .int ((6 * a1) + 5), .ref (ad 350)]) := by
        intro z22 h H locs hP hS ls hl
        subst ej23
        obtain ⟨hn24, h⟩ := gk h
        refine xiast hx hb hK hP hap hS (350) (by decide) (show kd 350 = 8 by decide) (by rw [show ln 350 = 30 by decide]; exact hn24) dX7_endsAs_155 (fun H locs hP hS => ?_)
        obtain ⟨A25, eA25, h⟩ := bd_e h
        rw [← eA25] at hP
        have hP : va_P D vwCl (VW K ad I G A25 L) H := hP
        refine lv_aload_n hx hb dX7_endsAs_156 rfl (lv_at hl 1 rfl) ?_
        refine vgC hx hb hts hi7 hown hK hP (318) (by decide) (show kd 318 = 7 by decide) (C := RX7) (T := TX7) (N := 79) rfl 45 (by decide) (by decide) (by decide) (by decide) (351) rfl (hts (.fieldLink RX7 114 "CrateHelpersModel" "isTold" "[Z") (by decide +kernel)) (fun _ h9 => h9) dX7_endsAs_157 ?_
        refine lv_iload_n hx hb dX7_endsAs_160 rfl (lv_at hl 2 rfl) ?_
        refine lv_iconst (v := 1) hx hb dX7_endsAs_161 (by decide) ?_
        obtain ⟨hn26, h⟩ := gk h
        refine xzast hx hb hK hP hap hS (351) (by decide) (show kd 351 = 11 by decide) (by rw [show ln 351 = 5 by decide]; exact hn26) dX7_endsAs_162 (fun H locs hP hS => ?_)
        obtain ⟨A27, eA27, h⟩ := bd_e h
        rw [← eA27] at hP
        have hP : va_P D vwCl (VW K ad I G A27 L) H := hP
        refine lv_aload_n hx hb dX7_endsAs_163 rfl (lv_at hl 1 rfl) ?_
        refine vgC hx hb hts hi7 hown hK hP (318) (by decide) (show kd 318 = 7 by decide) (C := RX7) (T := TX7) (N := 79) rfl 46 (by decide) (by decide) (by decide) (by decide) (352) rfl (hts (.fieldLink RX7 117 "CrateHelpersModel" "hasAnswer" "[Z") (by decide +kernel)) (fun _ h9 => h9) dX7_endsAs_164 ?_
        refine lv_iload_n hx hb dX7_endsAs_167 rfl (lv_at hl 2 rfl) ?_
        refine lv_iload_n hx hb dX7_endsAs_168 rfl (lv_at hl 3 rfl) ?_
        refine lv_iconst (v := 1) hx hb dX7_endsAs_169 (by decide) ?_
        obtain ⟨j29, ej29, h⟩ := bd_e h
        have kj29 : ∀ (z28 : Int32), j29 z28 = some (I0, A0) → ∀ (H : Heap) (locs : List Loc), va_P D vwCl (VW K ad I G A27 L) H → va_S (vF ad s.heap.size) s.heap H locs → ∀ (ls : Array Slot), lv_has ls 8 [(4, .int z4), (0, .ref (ad 318)), (1, .int a1), (2, .int a2)] → W p l e ({ frames := 2, cells := 0, slots := 0, locals := 51 }) s m ([.ref (ad 318), .int a1, .int a2] : List Value).toArray below meth c H locs 0 0 (MQ below (va_Qv (fun (u : Mem) => u = (I0, G, A0, L)) (vB D K ad) (vF ad s.heap.size)) ([.ref (ad 318), .int a1, .int a2] : List Value).toArray s 0 0 (vF ad s.heap.size)) (F0 m 178 ls [.int z28, .int a1, .ref (ad 352)]) := by
          intro z28 h H locs hP hS ls hl
          subst ej29
          refine xzast hx hb hK hP hap hS (352) (by decide) (show kd 352 = 11 by decide) (by rw [show ln 352 = 5 by decide]; exact hn26) dX7_endsAs_178 (fun H locs hP hS => ?_)
          obtain ⟨A30, eA30, h⟩ := bd_e h
          rw [← eA30] at hP
          have hP : va_P D vwCl (VW K ad I G A30 L) H := hP
          refine lv_iload_n hx hb dX7_endsAs_179 rfl (lv_at hl 3 rfl) ?_
          refine lv_iconst (v := 1) hx hb dX7_endsAs_180 (by decide) ?_
          obtain ⟨j41, ej41, h⟩ := bd_e h
          have kj41 : ∀ (A40 : Nat → Nat → Int32), j41 A40 = some (I0, A0) → ∀ (H : Heap) (locs : List Loc), va_P D vwCl (VW K ad I G A40 L) H → va_S (vF ad s.heap.size) s.heap H locs → ∀ (ls : Array Slot), lv_has ls 8 [(0, .ref (ad 318)), (1, .int a1)] → W p l e ({ frames := 2, cells := 0, slots := 0, locals := 51 }) s m ([.ref (ad 318), .int a1, .int a2] : List Value).toArray below meth c H locs 0 0 (MQ below (va_Qv (fun (u : Mem) => u = (I0, G, A0, L)) (vB D K ad) (vF ad s.heap.size)) ([.ref (ad 318), .int a1, .int a2] : List Value).toArray s 0 0 (vF ad s.heap.size)) (F0 m 225 ls []) := by
            intro A40 h H locs hP hS ls hl
            subst ej41
            refine lv_aload_n hx hb dX7_endsAs_225 rfl (lv_at hl 0 rfl) ?_
            refine lv_aload_n hx hb dX7_endsAs_226 rfl (lv_at hl 0 rfl) ?_
            refine vgI hx hb hts hi7 hown hK hP (318) (by decide) (show kd 318 = 7 by decide) (C := RX7) (T := TX7) (N := 79) rfl 31 (by decide) (by decide) (by decide) (by decide) (hts (.fieldLink RX7 303 "CrateHelpersModel" "taken" "I") (by decide +kernel)) (fun _ h9 => h9) dX7_endsAs_227 ?_
            refine vpI (v := (I 318 31)) (ty := .int) hx hb hts hi7 tyX7 tyX7_ok nmX7 hown hK hP hap hS (318) (by decide) (show kd 318 = 7 by decide) (C := RX7) (T := TX7) (N := 79) rfl 48 (by decide) (by decide) (by decide) (by decide) (hts (.fieldLink RX7 313 "CrateHelpersModel" "walked" "I") (by decide +kernel)) (fun _ h9 => h9) rfl (by decide +kernel) rfl rfl dX7_endsAs_230 (fun H locs hP hS => ?_)
            obtain ⟨I42, eI42, h⟩ := bd_e h
            rw [← eI42] at hP
            have hP : va_P D vwCl (VW K ad I42 G A40 L) H := hP
            refine lv_iconst (v := 0) hx hb dX7_endsAs_233 (by decide) ?_
            refine lv_istore (lv' := [(5, .int 0), (0, .ref (ad 318)), (1, .int a1)]) hx hb dX7_endsAs_234 hl (by decide) rfl (fun ls hl => ?_)
            obtain ⟨k46, ek46, h⟩ := bd_e h
            have kk46 : ∀ (A47 : Nat → Nat → Int32), k46 A47 = some (I0, A0) → ∀ (H : Heap) (locs : List Loc), va_P D vwCl (VW K ad I42 G A47 L) H → va_S (vF ad s.heap.size) s.heap H locs → ∀ (ls : Array Slot), lv_has ls 8 [(0, .ref (ad 318))] → W p l e ({ frames := 2, cells := 0, slots := 0, locals := 51 }) s m ([.ref (ad 318), .int a1, .int a2] : List Value).toArray below meth c H locs 0 0 (MQ below (va_Qv (fun (u : Mem) => u = (I0, G, A0, L)) (vB D K ad) (vF ad s.heap.size)) ([.ref (ad 318), .int a1, .int a2] : List Value).toArray s 0 0 (vF ad s.heap.size)) (F0 m 454 ls []) := by
              intro A47 h H locs hP hS ls hl
              subst ek46
              refine lv_aload_n hx hb dX7_endsAs_454 rfl (lv_at hl 0 rfl) ?_
              refine lv_bipush (v := (-9)) hx hb dX7_endsAs_455 (by decide) ?_
              refine vpI (v := (-9)) (ty := .int) hx hb hts hi7 tyX7 tyX7_ok nmX7 hown hK hP hap hS (318) (by decide) (show kd 318 = 7 by decide) (C := RX7) (T := TX7) (N := 79) rfl 23 (by decide) (by decide) (by decide) (by decide) (hts (.fieldLink RX7 62 "CrateHelpersModel" "under" "I") (by decide +kernel)) (fun _ h9 => h9) rfl (by decide +kernel) rfl rfl dX7_endsAs_457 (fun H locs hP hS => ?_)
              obtain ⟨I48, eI48, h⟩ := bd_e h
              rw [← eI48] at hP
              have hP : va_P D vwCl (VW K ad I48 G A47 L) H := hP
              exact W.vret hx hb hr (fun t9 ht9 hW9 => ⟨⟨(I48, G, A47, L), rfl, by cases h; rfl, by rw [ht9]; exact hP, va_K.moved hW9.alike hK⟩, hS.F ht9⟩) hS.2.2 dX7_endsAs_460
            have lp43 : ∀ (n : Nat) (v44 : Int32) (A45 : Nat → Nat → Int32), f_X7_endsAs_L236 a1 I42 k46 n v44 A45 = some (I0, A0) → ∀ (H : Heap) (locs : List Loc), va_P D vwCl (VW K ad I42 G A45 L) H → va_S (vF ad s.heap.size) s.heap H locs → ∀ (ls : Array Slot), lv_has ls 8 [(5, .int v44), (0, .ref (ad 318)), (1, .int a1)] → W p l e ({ frames := 2, cells := 0, slots := 0, locals := 51 }) s m ([.ref (ad 318), .int a1, .int a2] : List Value).toArray below meth c H locs 0 0 (MQ below (va_Qv (fun (u : Mem) => u = (I0, G, A0, L)) (vB D K ad) (vF ad s.heap.size)) ([.ref (ad 318), .int a1, .int a2] : List Value).toArray s 0 0 (vF ad s.heap.size)) (F0 m 236 ls []) := by
              intro n
              induction n with
              | zero => intro v44 A45 h; exact absurd h (by rw [f_X7_endsAs_L236]; exact nofun)
              | succ n ih43 =>
                intro v44 A45 h H locs hP hS ls hl
                rw [f_X7_endsAs_L236] at h
                refine lv_iload hx hb dX7_endsAs_236 (lv_at hl 0 rfl) ?_
                refine lv_aload_n hx hb dX7_endsAs_238 rfl (lv_at hl 1 rfl) ?_
                refine vgI hx hb hts hi7 hown hK hP (318) (by decide) (show kd 318 = 7 by decide) (C := RX7) (T := TX7) (N := 79) rfl 31 (by decide) (by decide) (by decide) (by decide) (hts (.fieldLink RX7 303 "CrateHelpersModel" "taken" "I") (by decide +kernel)) (fun _ h9 => h9) dX7_endsAs_239 ?_
                refine lv_icmp_ge (tgt := 454) hx hb dX7_endsAs_242 (by decide) (fun c_49 => ?_) (fun c_49 => ?_)
                · have h := iN (Int32.not_lt.mpr c_49) h
                  exact kk46 A45 h _ _ hP hS ls (lv_sub hl [1] rfl)
                · have h := ip (Int32.not_le.mp c_49) h
                  refine lv_aload_n hx hb dX7_endsAs_245 rfl (lv_at hl 1 rfl) ?_
                  refine vgC hx hb hts hi7 hown hK hP (318) (by decide) (show kd 318 = 7 by decide) (C := RX7) (T := TX7) (N := 79) rfl 40 (by decide) (by decide) (by decide) (by decide) (346) rfl (hts (.fieldLink RX7 99 "CrateHelpersModel" "order" "[I") (by decide +kernel)) (fun _ h9 => h9) dX7_endsAs_246 ?_
                  refine lv_iload hx hb dX7_endsAs_249 (lv_at hl 0 rfl) ?_
                  obtain ⟨hn50, h⟩ := gk h
                  refine xiald hx hb hK hP (346) (by decide) (show kd 346 = 8 by decide) (by rw [show ln 346 = 250 by decide]; exact hn50) dX7_endsAs_251 ?_
                  refine lv_istore (lv' := [(6, .int (A45 346 v44.toNatClampNeg)), (5, .int v44), (0, .ref (ad 318)), (1, .int a1)]) hx hb dX7_endsAs_252 hl (by decide) rfl (fun ls hl => ?_)
                  refine lv_aload_n hx hb dX7_endsAs_254 rfl (lv_at hl 2 rfl) ?_
                  refine vgC hx hb hts hi7 hown hK hP (318) (by decide) (show kd 318 = 7 by decide) (C := RX7) (T := TX7) (N := 79) rfl 49 (by decide) (by decide) (by decide) (by decide) (354) rfl (hts (.fieldLink RX7 123 "CrateHelpersModel" "walkedDepth" "[I") (by decide +kernel)) (fun _ h9 => h9) dX7_endsAs_255 ?_
                  refine lv_iload hx hb dX7_endsAs_258 (lv_at hl 1 rfl) ?_
                  refine lv_aload_n hx hb dX7_endsAs_260 rfl (lv_at hl 2 rfl) ?_
                  refine vgC hx hb hts hi7 hown hK hP (318) (by decide) (show kd 318 = 7 by decide) (C := RX7) (T := TX7) (N := 79) rfl 32 (by decide) (by decide) (by decide) (by decide) (338) rfl (hts (.fieldLink RX7 74 "CrateHelpersModel" "depth" "[I") (by decide +kernel)) (fun _ h9 => h9) dX7_endsAs_261 ?_
                  refine lv_iload hx hb dX7_endsAs_264 (lv_at hl 0 rfl) ?_
                  obtain ⟨hn51, h⟩ := gk h
                  refine xiald hx hb hK hP (338) (by decide) (show kd 338 = 8 by decide) (by rw [show ln 338 = 2000 by decide]; exact hn51) dX7_endsAs_266 ?_
                  refine xiast hx hb hK hP hap hS (354) (by decide) (show kd 354 = 8 by decide) (by rw [show ln 354 = 250 by decide]; exact hn50) dX7_endsAs_267 (fun H locs hP hS => ?_)
                  obtain ⟨A52, eA52, h⟩ := bd_e h
                  rw [← eA52] at hP
                  have hP : va_P D vwCl (VW K ad I42 G A52 L) H := hP
                  refine lv_aload_n hx hb dX7_endsAs_268 rfl (lv_at hl 2 rfl) ?_
                  refine vgC hx hb hts hi7 hown hK hP (318) (by decide) (show kd 318 = 7 by decide) (C := RX7) (T := TX7) (N := 79) rfl 51 (by decide) (by decide) (by decide) (by decide) (356) rfl (hts (.fieldLink RX7 129 "CrateHelpersModel" "walkedBound" "[I") (by decide +kernel)) (fun _ h9 => h9) dX7_endsAs_269 ?_
                  refine lv_iload hx hb dX7_endsAs_272 (lv_at hl 1 rfl) ?_
                  refine lv_aload_n hx hb dX7_endsAs_274 rfl (lv_at hl 2 rfl) ?_
                  refine vgC hx hb hts hi7 hown hK hP (318) (by decide) (show kd 318 = 7 by decide) (C := RX7) (T := TX7) (N := 79) rfl 35 (by decide) (by decide) (by decide) (by decide) (341) rfl (hts (.fieldLink RX7 83 "CrateHelpersModel" "bound" "[I") (by decide +kernel)) (fun _ h9 => h9) dX7_endsAs_275 ?_
                  refine lv_iload hx hb dX7_endsAs_278 (lv_at hl 0 rfl) ?_
                  refine xiald hx hb hK hP (341) (by decide) (show kd 341 = 8 by decide) (by rw [show ln 341 = 2000 by decide]; exact hn51) dX7_endsAs_280 ?_
                  refine xiast hx hb hK hP hap hS (356) (by decide) (show kd 356 = 8 by decide) (by rw [show ln 356 = 250 by decide]; exact hn50) dX7_endsAs_281 (fun H locs hP hS => ?_)
                  obtain ⟨A53, eA53, h⟩ := bd_e h
                  rw [← eA53] at hP
                  have hP : va_P D vwCl (VW K ad I42 G A53 L) H := hP
                  refine lv_aload_n hx hb dX7_endsAs_282 rfl (lv_at hl 2 rfl) ?_
                  refine vgC hx hb hts hi7 hown hK hP (318) (by decide) (show kd 318 = 7 by decide) (C := RX7) (T := TX7) (N := 79) rfl 52 (by decide) (by decide) (by decide) (by decide) (357) rfl (hts (.fieldLink RX7 132 "CrateHelpersModel" "walkedBy" "[I") (by decide +kernel)) (fun _ h9 => h9) dX7_endsAs_283 ?_
                  refine lv_iload hx hb dX7_endsAs_286 (lv_at hl 1 rfl) ?_
                  refine lv_aload_n hx hb dX7_endsAs_288 rfl (lv_at hl 2 rfl) ?_
                  refine vgC hx hb hts hi7 hown hK hP (318) (by decide) (show kd 318 = 7 by decide) (C := RX7) (T := TX7) (N := 79) rfl 37 (by decide) (by decide) (by decide) (by decide) (343) rfl (hts (.fieldLink RX7 89 "CrateHelpersModel" "holder" "[I") (by decide +kernel)) (fun _ h9 => h9) dX7_endsAs_289 ?_
                  refine lv_iload hx hb dX7_endsAs_292 (lv_at hl 0 rfl) ?_
                  refine xiald hx hb hK hP (343) (by decide) (show kd 343 = 8 by decide) (by rw [show ln 343 = 2000 by decide]; exact hn51) dX7_endsAs_294 ?_
                  refine xiast hx hb hK hP hap hS (357) (by decide) (show kd 357 = 8 by decide) (by rw [show ln 357 = 250 by decide]; exact hn50) dX7_endsAs_295 (fun H locs hP hS => ?_)
                  obtain ⟨A54, eA54, h⟩ := bd_e h
                  rw [← eA54] at hP
                  have hP : va_P D vwCl (VW K ad I42 G A54 L) H := hP
                  refine lv_aload_n hx hb dX7_endsAs_296 rfl (lv_at hl 2 rfl) ?_
                  refine vgC hx hb hts hi7 hown hK hP (318) (by decide) (show kd 318 = 7 by decide) (C := RX7) (T := TX7) (N := 79) rfl 53 (by decide) (by decide) (by decide) (by decide) (358) rfl (hts (.fieldLink RX7 135 "CrateHelpersModel" "walkedOpen" "[I") (by decide +kernel)) (fun _ h9 => h9) dX7_endsAs_297 ?_
                  refine lv_iload hx hb dX7_endsAs_300 (lv_at hl 1 rfl) ?_
                  refine lv_aload_n hx hb dX7_endsAs_302 rfl (lv_at hl 2 rfl) ?_
                  refine vgC hx hb hts hi7 hown hK hP (318) (by decide) (show kd 318 = 7 by decide) (C := RX7) (T := TX7) (N := 79) rfl 43 (by decide) (by decide) (by decide) (by decide) (349) rfl (hts (.fieldLink RX7 108 "CrateHelpersModel" "openBelow" "[I") (by decide +kernel)) (fun _ h9 => h9) dX7_endsAs_303 ?_
                  refine lv_iload hx hb dX7_endsAs_306 (lv_at hl 0 rfl) ?_
                  refine xiald hx hb hK hP (349) (by decide) (show kd 349 = 8 by decide) (by rw [show ln 349 = 2000 by decide]; exact hn51) dX7_endsAs_308 ?_
                  refine xiast hx hb hK hP hap hS (358) (by decide) (show kd 358 = 8 by decide) (by rw [show ln 358 = 250 by decide]; exact hn50) dX7_endsAs_309 (fun H locs hP hS => ?_)
                  obtain ⟨A55, eA55, h⟩ := bd_e h
                  rw [← eA55] at hP
                  have hP : va_P D vwCl (VW K ad I42 G A55 L) H := hP
                  refine lv_aload_n hx hb dX7_endsAs_310 rfl (lv_at hl 2 rfl) ?_
                  refine vgC hx hb hts hi7 hown hK hP (318) (by decide) (show kd 318 = 7 by decide) (C := RX7) (T := TX7) (N := 79) rfl 54 (by decide) (by decide) (by decide) (by decide) (359) rfl (hts (.fieldLink RX7 138 "CrateHelpersModel" "walkedValues" "[I") (by decide +kernel)) (fun _ h9 => h9) dX7_endsAs_311 ?_
                  refine lv_iload hx hb dX7_endsAs_314 (lv_at hl 1 rfl) ?_
                  refine lv_aload_n hx hb dX7_endsAs_316 rfl (lv_at hl 2 rfl) ?_
                  refine vgC hx hb hts hi7 hown hK hP (318) (by decide) (show kd 318 = 7 by decide) (C := RX7) (T := TX7) (N := 79) rfl 32 (by decide) (by decide) (by decide) (by decide) (338) rfl (hts (.fieldLink RX7 74 "CrateHelpersModel" "depth" "[I") (by decide +kernel)) (fun _ h9 => h9) dX7_endsAs_317 ?_
                  refine lv_iload hx hb dX7_endsAs_320 (lv_at hl 0 rfl) ?_
                  refine xiald hx hb hK hP (338) (by decide) (show kd 338 = 8 by decide) (by rw [show ln 338 = 2000 by decide]; exact hn51) dX7_endsAs_322 ?_
                  refine lv_aload_n hx hb dX7_endsAs_323 rfl (lv_at hl 2 rfl) ?_
                  refine vgC hx hb hts hi7 hown hK hP (318) (by decide) (show kd 318 = 7 by decide) (C := RX7) (T := TX7) (N := 79) rfl 3 (by decide) (by decide) (by decide) (by decide) (319) rfl (hts (.fieldLink RX7 7 "CrateHelpersModel" "variables" "[I") (by decide +kernel)) (fun _ h9 => h9) dX7_endsAs_324 ?_
                  refine lv_iload_n hx hb dX7_endsAs_327 rfl (lv_at hl 3 rfl) ?_
                  refine xiald hx hb hK hP (319) (by decide) (show kd 319 = 8 by decide) (by rw [show ln 319 = 5 by decide]; exact hn26) dX7_endsAs_328 ?_
                  obtain ⟨j58, ej58, h⟩ := bd_e h
                  have kj58 : ∀ (z57 : Int32), j58 z57 = some (I0, A0) → ∀ (H : Heap) (locs : List Loc), va_P D vwCl (VW K ad I42 G A55 L) H → va_S (vF ad s.heap.size) s.heap H locs → ∀ (ls : Array Slot), lv_has ls 8 [(6, .int (A45 346 v44.toNatClampNeg)), (5, .int v44), (0, .ref (ad 318)), (1, .int a1)] → W p l e ({ frames := 2, cells := 0, slots := 0, locals := 51 }) s m ([.ref (ad 318), .int a1, .int a2] : List Value).toArray below meth c H locs 0 0 (MQ below (va_Qv (fun (u : Mem) => u = (I0, G, A0, L)) (vB D K ad) (vF ad s.heap.size)) ([.ref (ad 318), .int a1, .int a2] : List Value).toArray s 0 0 (vF ad s.heap.size)) (F0 m 353 ls [.int z57, .int v44, .ref (ad 359)]) := by
                    intro z57 h H locs hP hS ls hl
                    subst ej58
                    refine xiast hx hb hK hP hap hS (359) (by decide) (show kd 359 = 8 by decide) (by rw [show ln 359 = 250 by decide]; exact hn50) dX7_endsAs_353 (fun H locs hP hS => ?_)
                    obtain ⟨A59, eA59, h⟩ := bd_e h
                    rw [← eA59] at hP
                    have hP : va_P D vwCl (VW K ad I42 G A59 L) H := hP
                    refine lv_iconst (v := 0) hx hb dX7_endsAs_354 (by decide) ?_
                    refine lv_istore (lv' := [(7, .int 0), (6, .int (A45 346 v44.toNatClampNeg)), (5, .int v44), (0, .ref (ad 318)), (1, .int a1)]) hx hb dX7_endsAs_355 hl (by decide) rfl (fun ls hl => ?_)
                    obtain ⟨k64, ek64, h⟩ := bd_e h
                    have kk64 : ∀ (A65 : Nat → Nat → Int32), k64 A65 = some (I0, A0) → ∀ (H : Heap) (locs : List Loc), va_P D vwCl (VW K ad I42 G A65 L) H → va_S (vF ad s.heap.size) s.heap H locs → ∀ (ls : Array Slot), lv_has ls 8 [(0, .ref (ad 318)), (1, .int a1), (5, .int v44)] → W p l e ({ frames := 2, cells := 0, slots := 0, locals := 51 }) s m ([.ref (ad 318), .int a1, .int a2] : List Value).toArray below meth c H locs 0 0 (MQ below (va_Qv (fun (u : Mem) => u = (I0, G, A0, L)) (vB D K ad) (vF ad s.heap.size)) ([.ref (ad 318), .int a1, .int a2] : List Value).toArray s 0 0 (vF ad s.heap.size)) (F0 m 448 ls []) := by
                      intro A65 h H locs hP hS ls hl
                      subst ek64
                      refine lv_iinc (v := (v44 + 1)) (lv' := [(5, .int (v44 + 1)), (0, .ref (ad 318)), (1, .int a1)]) hx hb dX7_endsAs_448 hl (k := 2) rfl rfl (by decide) rfl (fun ls hl => ?_)
                      refine lv_goto (tgt := 236) hx hb dX7_endsAs_451 (by decide) ?_
                      exact ih43 (v44 + 1) A65 h _ _ hP hS ls (lv_sub hl [0, 1, 2] rfl)
                    have lp60 : ∀ (n : Nat) (v61 : Int32) (v62 : Int32) (A63 : Nat → Nat → Int32), f_X7_endsAs_L357 v44 a1 I42 k64 n v61 v62 A63 = some (I0, A0) → ∀ (H : Heap) (locs : List Loc), va_P D vwCl (VW K ad I42 G A63 L) H → va_S (vF ad s.heap.size) s.heap H locs → ∀ (ls : Array Slot), lv_has ls 8 [(7, .int v61), (6, .int v62), (5, .int v44), (0, .ref (ad 318)), (1, .int a1)] → W p l e ({ frames := 2, cells := 0, slots := 0, locals := 51 }) s m ([.ref (ad 318), .int a1, .int a2] : List Value).toArray below meth c H locs 0 0 (MQ below (va_Qv (fun (u : Mem) => u = (I0, G, A0, L)) (vB D K ad) (vF ad s.heap.size)) ([.ref (ad 318), .int a1, .int a2] : List Value).toArray s 0 0 (vF ad s.heap.size)) (F0 m 357 ls []) := by
                      intro n
                      induction n with
                      | zero => intro v61 v62 A63 h; exact absurd h (by rw [f_X7_endsAs_L357]; exact nofun)
                      | succ n ih60 =>
                        intro v61 v62 A63 h H locs hP hS ls hl
                        rw [f_X7_endsAs_L357] at h
                        refine lv_iload hx hb dX7_endsAs_357 (lv_at hl 0 rfl) ?_
                        refine lv_bipush (v := 6) hx hb dX7_endsAs_359 (by decide) ?_
                        refine lv_icmp_ge (tgt := 448) hx hb dX7_endsAs_361 (by decide) (fun c_66 => ?_) (fun c_66 => ?_)
                        · have h := iN (Int32.not_lt.mpr c_66) h
                          exact kk64 A63 h _ _ hP hS ls (lv_sub hl [3, 4, 2] rfl)
                        · have h := ip (Int32.not_le.mp c_66) h
                          refine lv_aload_n hx hb dX7_endsAs_364 rfl (lv_at hl 3 rfl) ?_
                          refine vgC hx hb hts hi7 hown hK hP (318) (by decide) (show kd 318 = 7 by decide) (C := RX7) (T := TX7) (N := 79) rfl 50 (by decide) (by decide) (by decide) (by decide) (355) rfl (hts (.fieldLink RX7 126 "CrateHelpersModel" "walkedRow" "[I") (by decide +kernel)) (fun _ h9 => h9) dX7_endsAs_365 ?_
                          refine lv_bipush (v := 6) hx hb dX7_endsAs_368 (by decide) ?_
                          refine lv_iload hx hb dX7_endsAs_370 (lv_at hl 2 rfl) ?_
                          refine lv_imul hx hb dX7_endsAs_372 ?_
                          refine lv_iload hx hb dX7_endsAs_373 (lv_at hl 0 rfl) ?_
                          refine lv_iadd hx hb dX7_endsAs_375 ?_
                          refine lv_aload_n hx hb dX7_endsAs_376 rfl (lv_at hl 3 rfl) ?_
                          refine vgC hx hb hts hi7 hown hK hP (318) (by decide) (show kd 318 = 7 by decide) (C := RX7) (T := TX7) (N := 79) rfl 33 (by decide) (by decide) (by decide) (by decide) (339) rfl (hts (.fieldLink RX7 77 "CrateHelpersModel" "row" "[I") (by decide +kernel)) (fun _ h9 => h9) dX7_endsAs_377 ?_
                          refine lv_bipush (v := 6) hx hb dX7_endsAs_380 (by decide) ?_
                          refine lv_iload hx hb dX7_endsAs_382 (lv_at hl 1 rfl) ?_
                          refine lv_imul hx hb dX7_endsAs_384 ?_
                          refine lv_iload hx hb dX7_endsAs_385 (lv_at hl 0 rfl) ?_
                          refine lv_iadd hx hb dX7_endsAs_387 ?_
                          obtain ⟨hn67, h⟩ := gk h
                          refine xiald hx hb hK hP (339) (by decide) (show kd 339 = 8 by decide) (by rw [show ln 339 = 12000 by decide]; exact hn67) dX7_endsAs_388 ?_
                          obtain ⟨hn68, h⟩ := gk h
                          refine xiast hx hb hK hP hap hS (355) (by decide) (show kd 355 = 8 by decide) (by rw [show ln 355 = 1500 by decide]; exact hn68) dX7_endsAs_389 (fun H locs hP hS => ?_)
                          obtain ⟨A69, eA69, h⟩ := bd_e h
                          rw [← eA69] at hP
                          have hP : va_P D vwCl (VW K ad I42 G A69 L) H := hP
                          refine lv_aload_n hx hb dX7_endsAs_390 rfl (lv_at hl 3 rfl) ?_
                          refine vgC hx hb hts hi7 hown hK hP (318) (by decide) (show kd 318 = 7 by decide) (C := RX7) (T := TX7) (N := 79) rfl 55 (by decide) (by decide) (by decide) (by decide) (360) rfl (hts (.fieldLink RX7 141 "CrateHelpersModel" "walkedClosing" "[I") (by decide +kernel)) (fun _ h9 => h9) dX7_endsAs_391 ?_
                          refine lv_bipush (v := 6) hx hb dX7_endsAs_394 (by decide) ?_
                          refine lv_iload hx hb dX7_endsAs_396 (lv_at hl 2 rfl) ?_
                          refine lv_imul hx hb dX7_endsAs_398 ?_
                          refine lv_iload hx hb dX7_endsAs_399 (lv_at hl 0 rfl) ?_
                          refine lv_iadd hx hb dX7_endsAs_401 ?_
                          refine lv_aload_n hx hb dX7_endsAs_402 rfl (lv_at hl 3 rfl) ?_
                          refine vgC hx hb hts hi7 hown hK hP (318) (by decide) (show kd 318 = 7 by decide) (C := RX7) (T := TX7) (N := 79) rfl 41 (by decide) (by decide) (by decide) (by decide) (347) rfl (hts (.fieldLink RX7 102 "CrateHelpersModel" "closing" "[I") (by decide +kernel)) (fun _ h9 => h9) dX7_endsAs_403 ?_
                          refine lv_bipush (v := 6) hx hb dX7_endsAs_406 (by decide) ?_
                          refine lv_iload hx hb dX7_endsAs_408 (lv_at hl 1 rfl) ?_
                          refine lv_imul hx hb dX7_endsAs_410 ?_
                          refine lv_iload hx hb dX7_endsAs_411 (lv_at hl 0 rfl) ?_
                          refine lv_iadd hx hb dX7_endsAs_413 ?_
                          refine xiald hx hb hK hP (347) (by decide) (show kd 347 = 8 by decide) (by rw [show ln 347 = 12000 by decide]; exact hn67) dX7_endsAs_414 ?_
                          refine xiast hx hb hK hP hap hS (360) (by decide) (show kd 360 = 8 by decide) (by rw [show ln 360 = 1500 by decide]; exact hn68) dX7_endsAs_415 (fun H locs hP hS => ?_)
                          obtain ⟨A70, eA70, h⟩ := bd_e h
                          rw [← eA70] at hP
                          have hP : va_P D vwCl (VW K ad I42 G A70 L) H := hP
                          refine lv_aload_n hx hb dX7_endsAs_416 rfl (lv_at hl 3 rfl) ?_
                          refine vgC hx hb hts hi7 hown hK hP (318) (by decide) (show kd 318 = 7 by decide) (C := RX7) (T := TX7) (N := 79) rfl 56 (by decide) (by decide) (by decide) (by decide) (361) rfl (hts (.fieldLink RX7 144 "CrateHelpersModel" "walkedReason" "[I") (by decide +kernel)) (fun _ h9 => h9) dX7_endsAs_417 ?_
                          refine lv_bipush (v := 6) hx hb dX7_endsAs_420 (by decide) ?_
                          refine lv_iload hx hb dX7_endsAs_422 (lv_at hl 2 rfl) ?_
                          refine lv_imul hx hb dX7_endsAs_424 ?_
                          refine lv_iload hx hb dX7_endsAs_425 (lv_at hl 0 rfl) ?_
                          refine lv_iadd hx hb dX7_endsAs_427 ?_
                          refine lv_aload_n hx hb dX7_endsAs_428 rfl (lv_at hl 3 rfl) ?_
                          refine vgC hx hb hts hi7 hown hK hP (318) (by decide) (show kd 318 = 7 by decide) (C := RX7) (T := TX7) (N := 79) rfl 42 (by decide) (by decide) (by decide) (by decide) (348) rfl (hts (.fieldLink RX7 105 "CrateHelpersModel" "reason" "[I") (by decide +kernel)) (fun _ h9 => h9) dX7_endsAs_429 ?_
                          refine lv_bipush (v := 6) hx hb dX7_endsAs_432 (by decide) ?_
                          refine lv_iload hx hb dX7_endsAs_434 (lv_at hl 1 rfl) ?_
                          refine lv_imul hx hb dX7_endsAs_436 ?_
                          refine lv_iload hx hb dX7_endsAs_437 (lv_at hl 0 rfl) ?_
                          refine lv_iadd hx hb dX7_endsAs_439 ?_
                          refine xiald hx hb hK hP (348) (by decide) (show kd 348 = 8 by decide) (by rw [show ln 348 = 12000 by decide]; exact hn67) dX7_endsAs_440 ?_
                          refine xiast hx hb hK hP hap hS (361) (by decide) (show kd 361 = 8 by decide) (by rw [show ln 361 = 1500 by decide]; exact hn68) dX7_endsAs_441 (fun H locs hP hS => ?_)
                          obtain ⟨A71, eA71, h⟩ := bd_e h
                          rw [← eA71] at hP
                          have hP : va_P D vwCl (VW K ad I42 G A71 L) H := hP
                          refine lv_iinc (v := (v61 + 1)) (lv' := [(7, .int (v61 + 1)), (6, .int v62), (5, .int v44), (0, .ref (ad 318)), (1, .int a1)]) hx hb dX7_endsAs_442 hl (k := 0) rfl rfl (by decide) rfl (fun ls hl => ?_)
                          refine lv_goto (tgt := 357) hx hb dX7_endsAs_445 (by decide) ?_
                          exact ih60 (v61 + 1) v62 A71 h _ _ hP hS ls (lv_sub hl [0, 1, 2, 3, 4] rfl)
                    exact lp60 FU 0 (A45 346 v44.toNatClampNeg) A59 h _ _ hP hS ls (lv_sub hl [0, 1, 2, 3, 4] rfl)
                  refine lv_icmp_ge (tgt := 352) hx hb dX7_endsAs_329 (by decide) (fun c_72 => ?_) (fun c_72 => ?_)
                  · have h := iN (Int32.not_lt.mpr c_72) h
                    refine lv_iconst (v := 0) hx hb dX7_endsAs_352 (by decide) ?_
                    exact kj58 0 h _ _ hP hS ls (lv_sub hl [0, 1, 2, 3] rfl)
                  · have h := ip (Int32.not_le.mp c_72) h
                    refine lv_aload_n hx hb dX7_endsAs_332 rfl (lv_at hl 2 rfl) ?_
                    refine vgC hx hb hts hi7 hown hK hP (318) (by decide) (show kd 318 = 7 by decide) (C := RX7) (T := TX7) (N := 79) rfl 5 (by decide) (by decide) (by decide) (by decide) (321) rfl (hts (.fieldLink RX7 16 "CrateHelpersModel" "values" "[I") (by decide +kernel)) (fun _ h9 => h9) dX7_endsAs_333 ?_
                    refine lv_bipush (v := 6) hx hb dX7_endsAs_336 (by decide) ?_
                    refine lv_iload_n hx hb dX7_endsAs_338 rfl (lv_at hl 3 rfl) ?_
                    refine lv_imul hx hb dX7_endsAs_339 ?_
                    refine lv_aload_n hx hb dX7_endsAs_340 rfl (lv_at hl 2 rfl) ?_
                    refine vgC hx hb hts hi7 hown hK hP (318) (by decide) (show kd 318 = 7 by decide) (C := RX7) (T := TX7) (N := 79) rfl 32 (by decide) (by decide) (by decide) (by decide) (338) rfl (hts (.fieldLink RX7 74 "CrateHelpersModel" "depth" "[I") (by decide +kernel)) (fun _ h9 => h9) dX7_endsAs_341 ?_
                    refine lv_iload hx hb dX7_endsAs_344 (lv_at hl 0 rfl) ?_
                    refine xiald hx hb hK hP (338) (by decide) (show kd 338 = 8 by decide) (by rw [show ln 338 = 2000 by decide]; exact hn51) dX7_endsAs_346 ?_
                    refine lv_iadd hx hb dX7_endsAs_347 ?_
                    obtain ⟨hn73, h⟩ := gk h
                    refine xiald hx hb hK hP (321) (by decide) (show kd 321 = 8 by decide) (by rw [show ln 321 = 30 by decide]; exact hn73) dX7_endsAs_348 ?_
                    refine lv_goto (tgt := 353) hx hb dX7_endsAs_349 (by decide) ?_
                    exact kj58 (A55 321 (((6 * a1) + (A55 338 ((A45 346 v44.toNatClampNeg).toNatClampNeg))).toNatClampNeg)) h _ _ hP hS ls (lv_sub hl [0, 1, 2, 3] rfl)
            exact lp43 FU 0 A40 h _ _ hP hS ls (lv_sub hl [0, 1, 2] rfl)
          refine lv_icmp_ne (tgt := 225) hx hb dX7_endsAs_181 (by decide) (fun c_74 => ?_) (fun c_74 => ?_)
          · have h := iN c_74 h
            exact kj41 A30 h _ _ hP hS ls (lv_sub hl [1, 2] rfl)
          · have h := ip c_74 h
            refine lv_iconst (v := 0) hx hb dX7_endsAs_184 (by decide) ?_
            refine lv_istore (lv' := [(5, .int 0), (4, .int z4), (0, .ref (ad 318)), (1, .int a1), (2, .int a2)]) hx hb dX7_endsAs_185 hl (by decide) rfl (fun ls hl => ?_)
            obtain ⟨k78, ek78, h⟩ := bd_e h
            have kk78 : ∀ (A79 : Nat → Nat → Int32), k78 A79 = some (I0, A0) → ∀ (H : Heap) (locs : List Loc), va_P D vwCl (VW K ad I G A79 L) H → va_S (vF ad s.heap.size) s.heap H locs → ∀ (ls : Array Slot), lv_has ls 8 [(0, .ref (ad 318)), (1, .int a1)] → W p l e ({ frames := 2, cells := 0, slots := 0, locals := 51 }) s m ([.ref (ad 318), .int a1, .int a2] : List Value).toArray below meth c H locs 0 0 (MQ below (va_Qv (fun (u : Mem) => u = (I0, G, A0, L)) (vB D K ad) (vF ad s.heap.size)) ([.ref (ad 318), .int a1, .int a2] : List Value).toArray s 0 0 (vF ad s.heap.size)) (F0 m 225 ls []) := by
              intro A79 h H locs hP hS ls hl
              subst ek78
              exact kj41 A79 h _ _ hP hS ls (lv_sub hl [0, 1] rfl)
            have lp75 : ∀ (n : Nat) (v76 : Int32) (A77 : Nat → Nat → Int32), f_X7_endsAs_L187 z4 a1 I k78 n v76 A77 = some (I0, A0) → ∀ (H : Heap) (locs : List Loc), va_P D vwCl (VW K ad I G A77 L) H → va_S (vF ad s.heap.size) s.heap H locs → ∀ (ls : Array Slot), lv_has ls 8 [(5, .int v76), (4, .int z4), (0, .ref (ad 318)), (1, .int a1)] → W p l e ({ frames := 2, cells := 0, slots := 0, locals := 51 }) s m ([.ref (ad 318), .int a1, .int a2] : List Value).toArray below meth c H locs 0 0 (MQ below (va_Qv (fun (u : Mem) => u = (I0, G, A0, L)) (vB D K ad) (vF ad s.heap.size)) ([.ref (ad 318), .int a1, .int a2] : List Value).toArray s 0 0 (vF ad s.heap.size)) (F0 m 187 ls []) := by
              intro n
              induction n with
              | zero => intro v76 A77 h; exact absurd h (by rw [f_X7_endsAs_L187]; exact nofun)
              | succ n ih75 =>
                intro v76 A77 h H locs hP hS ls hl
                rw [f_X7_endsAs_L187] at h
                refine lv_iload hx hb dX7_endsAs_187 (lv_at hl 0 rfl) ?_
                refine lv_bipush (v := 6) hx hb dX7_endsAs_189 (by decide) ?_
                refine lv_icmp_ge (tgt := 225) hx hb dX7_endsAs_191 (by decide) (fun c_80 => ?_) (fun c_80 => ?_)
                · have h := iN (Int32.not_lt.mpr c_80) h
                  exact kk78 A77 h _ _ hP hS ls (lv_sub hl [2, 3] rfl)
                · have h := ip (Int32.not_le.mp c_80) h
                  refine lv_aload_n hx hb dX7_endsAs_194 rfl (lv_at hl 2 rfl) ?_
                  refine vgC hx hb hts hi7 hown hK hP (318) (by decide) (show kd 318 = 7 by decide) (C := RX7) (T := TX7) (N := 79) rfl 47 (by decide) (by decide) (by decide) (by decide) (353) rfl (hts (.fieldLink RX7 120 "CrateHelpersModel" "answerRow" "[I") (by decide +kernel)) (fun _ h9 => h9) dX7_endsAs_195 ?_
                  refine lv_bipush (v := 6) hx hb dX7_endsAs_198 (by decide) ?_
                  refine lv_iload_n hx hb dX7_endsAs_200 rfl (lv_at hl 3 rfl) ?_
                  refine lv_imul hx hb dX7_endsAs_201 ?_
                  refine lv_iload hx hb dX7_endsAs_202 (lv_at hl 0 rfl) ?_
                  refine lv_iadd hx hb dX7_endsAs_204 ?_
                  refine lv_aload_n hx hb dX7_endsAs_205 rfl (lv_at hl 2 rfl) ?_
                  refine vgC hx hb hts hi7 hown hK hP (318) (by decide) (show kd 318 = 7 by decide) (C := RX7) (T := TX7) (N := 79) rfl 33 (by decide) (by decide) (by decide) (by decide) (339) rfl (hts (.fieldLink RX7 77 "CrateHelpersModel" "row" "[I") (by decide +kernel)) (fun _ h9 => h9) dX7_endsAs_206 ?_
                  refine lv_bipush (v := 6) hx hb dX7_endsAs_209 (by decide) ?_
                  refine lv_iload hx hb dX7_endsAs_211 (lv_at hl 1 rfl) ?_
                  refine lv_imul hx hb dX7_endsAs_213 ?_
                  refine lv_iload hx hb dX7_endsAs_214 (lv_at hl 0 rfl) ?_
                  refine lv_iadd hx hb dX7_endsAs_216 ?_
                  obtain ⟨hn81, h⟩ := gk h
                  refine xiald hx hb hK hP (339) (by decide) (show kd 339 = 8 by decide) (by rw [show ln 339 = 12000 by decide]; exact hn81) dX7_endsAs_217 ?_
                  obtain ⟨hn82, h⟩ := gk h
                  refine xiast hx hb hK hP hap hS (353) (by decide) (show kd 353 = 8 by decide) (by rw [show ln 353 = 30 by decide]; exact hn82) dX7_endsAs_218 (fun H locs hP hS => ?_)
                  obtain ⟨A83, eA83, h⟩ := bd_e h
                  rw [← eA83] at hP
                  have hP : va_P D vwCl (VW K ad I G A83 L) H := hP
                  refine lv_iinc (v := (v76 + 1)) (lv' := [(5, .int (v76 + 1)), (4, .int z4), (0, .ref (ad 318)), (1, .int a1)]) hx hb dX7_endsAs_219 hl (k := 0) rfl rfl (by decide) rfl (fun ls hl => ?_)
                  refine lv_goto (tgt := 187) hx hb dX7_endsAs_222 (by decide) ?_
                  exact ih75 (v76 + 1) A83 h _ _ hP hS ls (lv_sub hl [0, 1, 2, 3] rfl)
            exact lp75 FU 0 A30 h _ _ hP hS ls (lv_sub hl [0, 1, 2, 3] rfl)
        refine lv_icmp_ne (tgt := 177) hx hb dX7_endsAs_170 (by decide) (fun c_84 => ?_) (fun c_84 => ?_)
        · have h := iN c_84 h
          refine lv_iconst (v := 0) hx hb dX7_endsAs_177 (by decide) ?_
          exact kj29 0 h _ _ hP hS ls (lv_sub hl [0, 1, 2, 3] rfl)
        · have h := ip c_84 h
          refine lv_iconst (v := 1) hx hb dX7_endsAs_173 (by decide) ?_
          refine lv_goto (tgt := 178) hx hb dX7_endsAs_174 (by decide) ?_
          exact kj29 1 h _ _ hP hS ls (lv_sub hl [0, 1, 2, 3] rfl)
      refine lv_icmp_ne (tgt := 138) hx hb dX7_endsAs_125 (by decide) (fun c_85 => ?_) (fun c_85 => ?_)
      · have h := iN c_85 h
        refine lv_iload_n hx hb dX7_endsAs_138 rfl (lv_at hl 1 rfl) ?_
        refine lv_bipush (v := (-9)) hx hb dX7_endsAs_139 (by decide) ?_
        refine lv_icmp_ne (tgt := 149) hx hb dX7_endsAs_141 (by decide) (fun c_86 => ?_) (fun c_86 => ?_)
        · have h := iN c_86 h
          refine lv_aload_n hx hb dX7_endsAs_149 rfl (lv_at hl 2 rfl) ?_
          refine vgC hx hb hts hi7 hown hK hP (318) (by decide) (show kd 318 = 7 by decide) (C := RX7) (T := TX7) (N := 79) rfl 35 (by decide) (by decide) (by decide) (by decide) (341) rfl (hts (.fieldLink RX7 83 "CrateHelpersModel" "bound" "[I") (by decide +kernel)) (fun _ h9 => h9) dX7_endsAs_150 ?_
          refine lv_iload_n hx hb dX7_endsAs_153 rfl (lv_at hl 1 rfl) ?_
          obtain ⟨hn87, h⟩ := gk h
          refine xiald hx hb hK hP (341) (by decide) (show kd 341 = 8 by decide) (by rw [show ln 341 = 2000 by decide]; exact hn87) dX7_endsAs_154 ?_
          exact kj23 (A18 341 r1.toNatClampNeg) h _ _ hP hS ls (lv_sub hl [0, 2, 3, 4] rfl)
        · have h := ip c_86 h
          refine lv_ldc (v := (-1000000)) hx hb hown (hts (.constant RX7 224 (-1000000)) (by decide +kernel)) dX7_endsAs_144 ?_
          refine lv_goto (tgt := 155) hx hb dX7_endsAs_146 (by decide) ?_
          exact kj23 (-1000000) h _ _ hP hS ls (lv_sub hl [0, 2, 3, 4] rfl)
      · have h := ip c_85 h
        refine lv_aload_n hx hb dX7_endsAs_128 rfl (lv_at hl 2 rfl) ?_
        refine vgC hx hb hts hi7 hown hK hP (318) (by decide) (show kd 318 = 7 by decide) (C := RX7) (T := TX7) (N := 79) rfl 35 (by decide) (by decide) (by decide) (by decide) (341) rfl (hts (.fieldLink RX7 83 "CrateHelpersModel" "bound" "[I") (by decide +kernel)) (fun _ h9 => h9) dX7_endsAs_129 ?_
        refine lv_iload hx hb dX7_endsAs_132 (lv_at hl 0 rfl) ?_
        obtain ⟨hn88, h⟩ := gk h
        refine xiald hx hb hK hP (341) (by decide) (show kd 341 = 8 by decide) (by rw [show ln 341 = 2000 by decide]; exact hn88) dX7_endsAs_134 ?_
        refine lv_goto (tgt := 155) hx hb dX7_endsAs_135 (by decide) ?_
        exact kj23 (A18 341 z4.toNatClampNeg) h _ _ hP hS ls (lv_sub hl [0, 2, 3, 4] rfl)
    refine lv_icmp_ne (tgt := 110) hx hb dX7_endsAs_97 (by decide) (fun c_89 => ?_) (fun c_89 => ?_)
    · have h := iN c_89 h
      refine lv_ldc (v := (-1000000)) hx hb hown (hts (.constant RX7 224 (-1000000)) (by decide +kernel)) dX7_endsAs_110 ?_
      exact kj16 (-1000000) h _ _ hP hS ls (lv_sub hl [0, 1, 2, 3, 4] rfl)
    · have h := ip c_89 h
      refine lv_aload_n hx hb dX7_endsAs_100 rfl (lv_at hl 2 rfl) ?_
      refine vgC hx hb hts hi7 hown hK hP (318) (by decide) (show kd 318 = 7 by decide) (C := RX7) (T := TX7) (N := 79) rfl 35 (by decide) (by decide) (by decide) (by decide) (341) rfl (hts (.fieldLink RX7 83 "CrateHelpersModel" "bound" "[I") (by decide +kernel)) (fun _ h9 => h9) dX7_endsAs_101 ?_
      refine lv_iload hx hb dX7_endsAs_104 (lv_at hl 0 rfl) ?_
      obtain ⟨hn90, h⟩ := gk h
      refine xiald hx hb hK hP (341) (by decide) (show kd 341 = 8 by decide) (by rw [show ln 341 = 2000 by decide]; exact hn90) dX7_endsAs_106 ?_
      refine lv_goto (tgt := 112) hx hb dX7_endsAs_107 (by decide) ?_
      exact kj16 (A13 341 z4.toNatClampNeg) h _ _ hP hS ls (lv_sub hl [0, 1, 2, 3, 4] rfl)
  refine lv_if_le (tgt := 26) hx hb dX7_endsAs_9 (by decide) (fun c_91 => ?_) (fun c_91 => ?_)
  · have h := iN (Int32.not_lt.mpr c_91) h
    refine lv_bipush (v := (-9)) hx hb dX7_endsAs_26 (by decide) ?_
    exact kj5 (-9) h _ _ hP hS ls (lv_sub hl [0, 1, 2, 3] rfl)
  · have h := ip (Int32.not_le.mp c_91) h
    refine lv_aload_n hx hb dX7_endsAs_12 rfl (lv_at hl 1 rfl) ?_
    refine vgC hx hb hts hi7 hown hK hP (318) (by decide) (show kd 318 = 7 by decide) (C := RX7) (T := TX7) (N := 79) rfl 40 (by decide) (by decide) (by decide) (by decide) (346) rfl (hts (.fieldLink RX7 99 "CrateHelpersModel" "order" "[I") (by decide +kernel)) (fun _ h9 => h9) dX7_endsAs_13 ?_
    refine lv_aload_n hx hb dX7_endsAs_16 rfl (lv_at hl 1 rfl) ?_
    refine vgI hx hb hts hi7 hown hK hP (318) (by decide) (show kd 318 = 7 by decide) (C := RX7) (T := TX7) (N := 79) rfl 31 (by decide) (by decide) (by decide) (by decide) (hts (.fieldLink RX7 303 "CrateHelpersModel" "taken" "I") (by decide +kernel)) (fun _ h9 => h9) dX7_endsAs_17 ?_
    refine lv_iconst (v := 1) hx hb dX7_endsAs_20 (by decide) ?_
    refine lv_isub hx hb dX7_endsAs_21 ?_
    obtain ⟨hn92, h⟩ := gk h
    refine xiald hx hb hK hP (346) (by decide) (show kd 346 = 8 by decide) (by rw [show ln 346 = 250 by decide]; exact hn92) dX7_endsAs_22 ?_
    refine lv_goto (tgt := 28) hx hb dX7_endsAs_23 (by decide) ?_
    exact kj5 (A 346 (((I 318 31) - 1).toNatClampNeg)) h _ _ hP hS ls (lv_sub hl [0, 1, 2, 3] rfl)
set_option maxHeartbeats 4000000 in
set_option maxRecDepth 100000 in
theorem e_X7_fail (l : Launch) (D : va_G) (K : Nat → ClassId) (ad : Nat → Nat) (hap0 : apart ad (fun _ => True)) (a1 : Int32) (a2 : Int32) (I : Nat → Nat → Int32) (G : Nat → Nat → Nat) (A : Nat → Nat → Int32) (L : Nat → Nat → Int64) (r0 : Int32) (I0 : Nat → Nat → Int32) (A0 : Nat → Nat → Int32) (h : f_X7_fail I A a1 a2 = some (r0, I0, A0)) : Ci l D K ad yX7_fail wsX7_fail 1 25 [.ref (ad 318), .int a1, .int a2] (I, G, A, L) (fun (r : Int32) (u : Mem) => r = r0 ∧ u = (I0, G, A0, L)) := by
  intro sz
  refine Met.ofW (cc := cX7_fail) (maxL := 3) (ret := (some .int)) (by decide) rfl ?_
  intro p e s m args below meth c s₁ Bd hml hv0
  obtain ⟨rfl, hsz, hP, hK⟩ := hv0
  have hx := Bd.exec
  have hb := Bd.bytes
  have hr := Bd.returns
  have hts := atoms_spec (ws := wsX7_fail) Bd.pre
  have hown : s.vm.findClass RX7 = some m.cls := findClass_of_methodNamed Bd.named
  have hlocks := Bd.notSynchronized
  have hi7 : ∀ w ∈ u_ws RX7 TX7 79, w ∈ wsX7_fail := fun w h => List.mem_cons_of_mem _ (List.mem_append_right _ h)
  subst hsz
  have hap := vF_ap hap0 s.heap.size
  have hS : va_S (vF ad s.heap.size) s.heap s.heap [] := va_S.rf
  have hP : va_P D vwCl (VW K ad I G A L) s.heap := hP
  have hl := lv_entry ([.ref (ad 318), .int a1, .int a2]) (n := 3) (Nat.le_of_ble_eq_true rfl)
  rw [lg_entry_eq]
  generalize (lg_sl ([.ref (ad 318), .int a1, .int a2]) ++ List.replicate (3 - (lg_sl ([.ref (ad 318), .int a1, .int a2])).length) Slot.unset).toArray = ls at hl ⊢
  have hl : lv_has ls 3 [(0, .ref (ad 318)), (1, .int a1), (2, .int a2)] := hl
  rw [f_X7_fail] at h
  refine lv_aload_n hx hb dX7_fail_0 rfl (lv_at hl 0 rfl) ?_
  refine lv_iconst (v := 0) hx hb dX7_fail_1 (by decide) ?_
  refine vpI (v := 0) (ty := .int) hx hb hts hi7 tyX7 tyX7_ok nmX7 hown hK hP hap hS (318) (by decide) (show kd 318 = 7 by decide) (C := RX7) (T := TX7) (N := 79) rfl 0 (by decide) (by decide) (by decide) (by decide) (hts (.fieldLink RX7 201 "CrateHelpersModel" "thrown" "I") (by decide +kernel)) (fun _ h9 => h9) rfl (by decide +kernel) rfl rfl dX7_fail_2 (fun H locs hP hS => ?_)
  obtain ⟨I1, eI1, h⟩ := bd_e h
  rw [← eI1] at hP
  have hP : va_P D vwCl (VW K ad I1 G A L) H := hP
  refine lv_iload_n hx hb dX7_fail_5 rfl (lv_at hl 1 rfl) ?_
  refine lv_iconst (v := 0) hx hb dX7_fail_6 (by decide) ?_
  refine lv_aload_n hx hb dX7_fail_7 rfl (lv_at hl 0 rfl) ?_
  refine vgI hx hb hts hi7 hown hK hP (318) (by decide) (show kd 318 = 7 by decide) (C := RX7) (T := TX7) (N := 79) rfl 15 (by decide) (by decide) (by decide) (by decide) (hts (.fieldLink RX7 43 "CrateHelpersModel" "helpers" "I") (by decide +kernel)) (fun _ h9 => h9) dX7_fail_8 ?_
  refine lv_iconst (v := 1) hx hb dX7_fail_11 (by decide) ?_
  refine lv_isub hx hb dX7_fail_12 ?_
  obtain ⟨r2, hc3, h⟩ := Option.bind_eq_some_iff.mp h
  refine ecS (As := [.int a1, .int 0, .int ((I1 318 15) - 1)]) (rest := []) ⟨hx, hb, hml, hown, hts⟩ (e_X7_in l D K ad hap0 a1 0 ((I1 318 15) - 1) I1 G A L r2 hc3) (va_cwS 3 hts gX7_fail_X7_in rfl rfl rfl (by decide +kernel) ⟨Nat.le_of_ble_eq_true rfl, Nat.le_of_ble_eq_true rfl⟩) hK hP hS rfl hl.1 (Nat.le_of_ble_eq_true rfl) (Nat.le_of_ble_eq_true rfl) (Nat.le_of_ble_eq_true rfl) dX7_fail_13 (fun H locs hP hS => ?_) rfl
  have hP : va_P D vwCl (VW K ad I1 G A L) H := hP
  refine lv_if_eq (tgt := 30) hx hb dX7_fail_16 (by decide) (fun c_4 => ?_) (fun c_4 => ?_)
  · have h := ip c_4 h
    refine lv_iconst (v := (-1)) hx hb dX7_fail_30 (by decide) ?_
    exact W.iret (v := (-1)) hx hb hr (fun t9 ht9 hW9 => ⟨⟨(-1), (I1, G, A, L), rfl, by cases h; exact ⟨rfl, rfl⟩, by rw [ht9]; exact hP, va_K.moved hW9.alike hK⟩, hS.F ht9⟩) hS.2.2 dX7_fail_31
  · have h := iN c_4 h
    refine lv_iload_n hx hb dX7_fail_19 rfl (lv_at hl 2 rfl) ?_
    refine lv_iconst (v := 0) hx hb dX7_fail_20 (by decide) ?_
    refine lv_sipush (v := 200) hx hb dX7_fail_21 (by decide) ?_
    obtain ⟨r5, hc6, h⟩ := Option.bind_eq_some_iff.mp h
    refine ecS (As := [.int a2, .int 0, .int 200]) (rest := []) ⟨hx, hb, hml, hown, hts⟩ (e_X7_in l D K ad hap0 a2 0 200 I1 G A L r5 hc6) (va_cwS 3 hts gX7_fail_X7_in rfl rfl rfl (by decide +kernel) ⟨Nat.le_of_ble_eq_true rfl, Nat.le_of_ble_eq_true rfl⟩) hK hP hS rfl hl.1 (Nat.le_of_ble_eq_true rfl) (Nat.le_of_ble_eq_true rfl) (Nat.le_of_ble_eq_true rfl) dX7_fail_24 (fun H locs hP hS => ?_) rfl
    have hP : va_P D vwCl (VW K ad I1 G A L) H := hP
    refine lv_if_ne (tgt := 32) hx hb dX7_fail_27 (by decide) (fun c_7 => ?_) (fun c_7 => ?_)
    · have h := iN c_7 h
      refine lv_aload_n hx hb dX7_fail_32 rfl (lv_at hl 0 rfl) ?_
      refine vgI hx hb hts hi7 hown hK hP (318) (by decide) (show kd 318 = 7 by decide) (C := RX7) (T := TX7) (N := 79) rfl 23 (by decide) (by decide) (by decide) (by decide) (hts (.fieldLink RX7 62 "CrateHelpersModel" "under" "I") (by decide +kernel)) (fun _ h9 => h9) dX7_fail_33 ?_
      refine lv_bipush (v := (-9)) hx hb dX7_fail_36 (by decide) ?_
      refine lv_icmp_eq (tgt := 44) hx hb dX7_fail_38 (by decide) (fun c_8 => ?_) (fun c_8 => ?_)
      · have h := ip c_8 h
        refine lv_aload_n hx hb dX7_fail_44 rfl (lv_at hl 0 rfl) ?_
        refine vgC hx hb hts hi7 hown hK hP (318) (by decide) (show kd 318 = 7 by decide) (C := RX7) (T := TX7) (N := 79) rfl 16 (by decide) (by decide) (by decide) (by decide) (330) rfl (hts (.fieldLink RX7 47 "CrateHelpersModel" "failAt" "[I") (by decide +kernel)) (fun _ h9 => h9) dX7_fail_45 ?_
        refine lv_iload_n hx hb dX7_fail_48 rfl (lv_at hl 1 rfl) ?_
        refine lv_iload_n hx hb dX7_fail_49 rfl (lv_at hl 2 rfl) ?_
        obtain ⟨hn9, h⟩ := gk h
        refine xiast hx hb hK hP hap hS (330) (by decide) (show kd 330 = 8 by decide) (by rw [show ln 330 = 5 by decide]; exact hn9) dX7_fail_50 (fun H locs hP hS => ?_)
        obtain ⟨A10, eA10, h⟩ := bd_e h
        rw [← eA10] at hP
        have hP : va_P D vwCl (VW K ad I1 G A10 L) H := hP
        refine lv_iconst (v := 1) hx hb dX7_fail_51 (by decide) ?_
        exact W.iret (v := 1) hx hb hr (fun t9 ht9 hW9 => ⟨⟨1, (I1, G, A10, L), rfl, by cases h; exact ⟨rfl, rfl⟩, by rw [ht9]; exact hP, va_K.moved hW9.alike hK⟩, hS.F ht9⟩) hS.2.2 dX7_fail_52
      · have h := iN c_8 h
        refine lv_bipush (v := (-2)) hx hb dX7_fail_41 (by decide) ?_
        exact W.iret (v := (-2)) hx hb hr (fun t9 ht9 hW9 => ⟨⟨(-2), (I1, G, A, L), rfl, by cases h; exact ⟨rfl, rfl⟩, by rw [ht9]; exact hP, va_K.moved hW9.alike hK⟩, hS.F ht9⟩) hS.2.2 dX7_fail_43
    · have h := ip c_7 h
      refine lv_iconst (v := (-1)) hx hb dX7_fail_30 (by decide) ?_
      exact W.iret (v := (-1)) hx hb hr (fun t9 ht9 hW9 => ⟨⟨(-1), (I1, G, A, L), rfl, by cases h; exact ⟨rfl, rfl⟩, by rw [ht9]; exact hP, va_K.moved hW9.alike hK⟩, hS.F ht9⟩) hS.2.2 dX7_fail_31
set_option maxHeartbeats 4000000 in
set_option maxRecDepth 100000 in
theorem e_X7_giveUp (l : Launch) (D : va_G) (K : Nat → ClassId) (ad : Nat → Nat) (hap0 : apart ad (fun _ => True)) (I : Nat → Nat → Int32) (G : Nat → Nat → Nat) (A : Nat → Nat → Int32) (L : Nat → Nat → Int64) (r0 : Int32) (I0 : Nat → Nat → Int32) (h : f_X7_giveUp I = some (r0, I0)) : Ci l D K ad yX7_giveUp wsX7_giveUp 0 0 [.ref (ad 318)] (I, G, A, L) (fun (r : Int32) (u : Mem) => r = r0 ∧ u = (I0, G, A, L)) := by
  intro sz
  refine Met.ofW (cc := cX7_giveUp) (maxL := 2) (ret := (some .int)) (by decide) rfl ?_
  intro p e s m args below meth c s₁ Bd hml hv0
  obtain ⟨rfl, hsz, hP, hK⟩ := hv0
  have hx := Bd.exec
  have hb := Bd.bytes
  have hr := Bd.returns
  have hts := atoms_spec (ws := wsX7_giveUp) Bd.pre
  have hown : s.vm.findClass RX7 = some m.cls := findClass_of_methodNamed Bd.named
  have hlocks := Bd.notSynchronized
  have hi7 : ∀ w ∈ u_ws RX7 TX7 79, w ∈ wsX7_giveUp := fun w h => List.mem_cons_of_mem _ (List.mem_append_right _ h)
  subst hsz
  have hap := vF_ap hap0 s.heap.size
  have hS : va_S (vF ad s.heap.size) s.heap s.heap [] := va_S.rf
  have hP : va_P D vwCl (VW K ad I G A L) s.heap := hP
  have hl := lv_entry ([.ref (ad 318)]) (n := 2) (Nat.le_of_ble_eq_true rfl)
  rw [lg_entry_eq]
  generalize (lg_sl ([.ref (ad 318)]) ++ List.replicate (2 - (lg_sl ([.ref (ad 318)])).length) Slot.unset).toArray = ls at hl ⊢
  have hl : lv_has ls 2 [(0, .ref (ad 318))] := hl
  rw [f_X7_giveUp] at h
  refine lv_aload_n hx hb dX7_giveUp_0 rfl (lv_at hl 0 rfl) ?_
  refine lv_iconst (v := 0) hx hb dX7_giveUp_1 (by decide) ?_
  refine vpI (v := 0) (ty := .int) hx hb hts hi7 tyX7 tyX7_ok nmX7 hown hK hP hap hS (318) (by decide) (show kd 318 = 7 by decide) (C := RX7) (T := TX7) (N := 79) rfl 0 (by decide) (by decide) (by decide) (by decide) (hts (.fieldLink RX7 201 "CrateHelpersModel" "thrown" "I") (by decide +kernel)) (fun _ h9 => h9) rfl (by decide +kernel) rfl rfl dX7_giveUp_2 (fun H locs hP hS => ?_)
  obtain ⟨I1, eI1, h⟩ := bd_e h
  rw [← eI1] at hP
  have hP : va_P D vwCl (VW K ad I1 G A L) H := hP
  refine lv_aload_n hx hb dX7_giveUp_5 rfl (lv_at hl 0 rfl) ?_
  refine vgI hx hb hts hi7 hown hK hP (318) (by decide) (show kd 318 = 7 by decide) (C := RX7) (T := TX7) (N := 79) rfl 23 (by decide) (by decide) (by decide) (by decide) (hts (.fieldLink RX7 62 "CrateHelpersModel" "under" "I") (by decide +kernel)) (fun _ h9 => h9) dX7_giveUp_6 ?_
  refine lv_bipush (v := (-9)) hx hb dX7_giveUp_9 (by decide) ?_
  refine lv_icmp_ne (tgt := 17) hx hb dX7_giveUp_11 (by decide) (fun c_2 => ?_) (fun c_2 => ?_)
  · have h := iN c_2 h
    refine lv_aload_n hx hb dX7_giveUp_17 rfl (lv_at hl 0 rfl) ?_
    refine vgI hx hb hts hi7 hown hK hP (318) (by decide) (show kd 318 = 7 by decide) (C := RX7) (T := TX7) (N := 79) rfl 23 (by decide) (by decide) (by decide) (by decide) (hts (.fieldLink RX7 62 "CrateHelpersModel" "under" "I") (by decide +kernel)) (fun _ h9 => h9) dX7_giveUp_18 ?_
    refine lv_istore_n (lv' := [(1, .int (I1 318 23)), (0, .ref (ad 318))]) hx hb dX7_giveUp_21 rfl hl (by decide) rfl (fun ls hl => ?_)
    refine lv_aload_n hx hb dX7_giveUp_22 rfl (lv_at hl 1 rfl) ?_
    refine lv_bipush (v := (-9)) hx hb dX7_giveUp_23 (by decide) ?_
    refine vpI (v := (-9)) (ty := .int) hx hb hts hi7 tyX7 tyX7_ok nmX7 hown hK hP hap hS (318) (by decide) (show kd 318 = 7 by decide) (C := RX7) (T := TX7) (N := 79) rfl 23 (by decide) (by decide) (by decide) (by decide) (hts (.fieldLink RX7 62 "CrateHelpersModel" "under" "I") (by decide +kernel)) (fun _ h9 => h9) rfl (by decide +kernel) rfl rfl dX7_giveUp_25 (fun H locs hP hS => ?_)
    obtain ⟨I3, eI3, h⟩ := bd_e h
    rw [← eI3] at hP
    have hP : va_P D vwCl (VW K ad I3 G A L) H := hP
    refine lv_iload_n hx hb dX7_giveUp_28 rfl (lv_at hl 0 rfl) ?_
    exact W.iret (v := (I1 318 23)) hx hb hr (fun t9 ht9 hW9 => ⟨⟨(I1 318 23), (I3, G, A, L), rfl, by cases h; exact ⟨rfl, rfl⟩, by rw [ht9]; exact hP, va_K.moved hW9.alike hK⟩, hS.F ht9⟩) hS.2.2 dX7_giveUp_29
  · have h := ip c_2 h
    refine lv_bipush (v := (-2)) hx hb dX7_giveUp_14 (by decide) ?_
    exact W.iret (v := (-2)) hx hb hr (fun t9 ht9 hW9 => ⟨⟨(-2), (I1, G, A, L), rfl, by cases h; exact ⟨rfl, rfl⟩, by rw [ht9]; exact hP, va_K.moved hW9.alike hK⟩, hS.F ht9⟩) hS.2.2 dX7_giveUp_16
set_option maxHeartbeats 4000000 in
set_option maxRecDepth 100000 in
theorem e_X7_helper (l : Launch) (D : va_G) (K : Nat → ClassId) (ad : Nat → Nat) (hap0 : apart ad (fun _ => True)) (a1 : Int32) (a2 : Int32) (I : Nat → Nat → Int32) (G : Nat → Nat → Nat) (A : Nat → Nat → Int32) (L : Nat → Nat → Int64) (r0 : Int32) (I0 : Nat → Nat → Int32) (h : f_X7_helper I A a1 a2 = some (r0, I0)) : Ci l D K ad yX7_helper wsX7_helper 1 25 [.ref (ad 318), .int a1, .int a2] (I, G, A, L) (fun (r : Int32) (u : Mem) => r = r0 ∧ u = (I0, G, A, L)) := by
  intro sz
  refine Met.ofW (cc := cX7_helper) (maxL := 3) (ret := (some .int)) (by decide) rfl ?_
  intro p e s m args below meth c s₁ Bd hml hv0
  obtain ⟨rfl, hsz, hP, hK⟩ := hv0
  have hx := Bd.exec
  have hb := Bd.bytes
  have hr := Bd.returns
  have hts := atoms_spec (ws := wsX7_helper) Bd.pre
  have hown : s.vm.findClass RX7 = some m.cls := findClass_of_methodNamed Bd.named
  have hlocks := Bd.notSynchronized
  have hi7 : ∀ w ∈ u_ws RX7 TX7 79, w ∈ wsX7_helper := fun w h => List.mem_cons_of_mem _ (List.mem_append_right _ h)
  subst hsz
  have hap := vF_ap hap0 s.heap.size
  have hS : va_S (vF ad s.heap.size) s.heap s.heap [] := va_S.rf
  have hP : va_P D vwCl (VW K ad I G A L) s.heap := hP
  have hl := lv_entry ([.ref (ad 318), .int a1, .int a2]) (n := 3) (Nat.le_of_ble_eq_true rfl)
  rw [lg_entry_eq]
  generalize (lg_sl ([.ref (ad 318), .int a1, .int a2]) ++ List.replicate (3 - (lg_sl ([.ref (ad 318), .int a1, .int a2])).length) Slot.unset).toArray = ls at hl ⊢
  have hl : lv_has ls 3 [(0, .ref (ad 318)), (1, .int a1), (2, .int a2)] := hl
  rw [f_X7_helper] at h
  refine lv_aload_n hx hb dX7_helper_0 rfl (lv_at hl 0 rfl) ?_
  refine lv_iconst (v := 0) hx hb dX7_helper_1 (by decide) ?_
  refine vpI (v := 0) (ty := .int) hx hb hts hi7 tyX7 tyX7_ok nmX7 hown hK hP hap hS (318) (by decide) (show kd 318 = 7 by decide) (C := RX7) (T := TX7) (N := 79) rfl 0 (by decide) (by decide) (by decide) (by decide) (hts (.fieldLink RX7 201 "CrateHelpersModel" "thrown" "I") (by decide +kernel)) (fun _ h9 => h9) rfl (by decide +kernel) rfl rfl dX7_helper_2 (fun H locs hP hS => ?_)
  obtain ⟨I1, eI1, h⟩ := bd_e h
  rw [← eI1] at hP
  have hP : va_P D vwCl (VW K ad I1 G A L) H := hP
  refine lv_iload_n hx hb dX7_helper_5 rfl (lv_at hl 1 rfl) ?_
  refine lv_iconst (v := 0) hx hb dX7_helper_6 (by decide) ?_
  refine lv_iconst (v := 4) hx hb dX7_helper_7 (by decide) ?_
  obtain ⟨r2, hc3, h⟩ := Option.bind_eq_some_iff.mp h
  refine ecS (As := [.int a1, .int 0, .int 4]) (rest := []) ⟨hx, hb, hml, hown, hts⟩ (e_X7_in l D K ad hap0 a1 0 4 I1 G A L r2 hc3) (va_cwS 3 hts gX7_helper_X7_in rfl rfl rfl (by decide +kernel) ⟨Nat.le_of_ble_eq_true rfl, Nat.le_of_ble_eq_true rfl⟩) hK hP hS rfl hl.1 (Nat.le_of_ble_eq_true rfl) (Nat.le_of_ble_eq_true rfl) (Nat.le_of_ble_eq_true rfl) dX7_helper_8 (fun H locs hP hS => ?_) rfl
  have hP : va_P D vwCl (VW K ad I1 G A L) H := hP
  refine lv_if_eq (tgt := 23) hx hb dX7_helper_11 (by decide) (fun c_4 => ?_) (fun c_4 => ?_)
  · have h := ip c_4 h
    refine lv_iconst (v := (-1)) hx hb dX7_helper_23 (by decide) ?_
    exact W.iret (v := (-1)) hx hb hr (fun t9 ht9 hW9 => ⟨⟨(-1), (I1, G, A, L), rfl, by cases h; exact ⟨rfl, rfl⟩, by rw [ht9]; exact hP, va_K.moved hW9.alike hK⟩, hS.F ht9⟩) hS.2.2 dX7_helper_24
  · have h := iN c_4 h
    refine lv_iload_n hx hb dX7_helper_14 rfl (lv_at hl 2 rfl) ?_
    refine lv_iconst (v := 0) hx hb dX7_helper_15 (by decide) ?_
    refine lv_iconst (v := 2) hx hb dX7_helper_16 (by decide) ?_
    obtain ⟨r5, hc6, h⟩ := Option.bind_eq_some_iff.mp h
    refine ecS (As := [.int a2, .int 0, .int 2]) (rest := []) ⟨hx, hb, hml, hown, hts⟩ (e_X7_in l D K ad hap0 a2 0 2 I1 G A L r5 hc6) (va_cwS 3 hts gX7_helper_X7_in rfl rfl rfl (by decide +kernel) ⟨Nat.le_of_ble_eq_true rfl, Nat.le_of_ble_eq_true rfl⟩) hK hP hS rfl hl.1 (Nat.le_of_ble_eq_true rfl) (Nat.le_of_ble_eq_true rfl) (Nat.le_of_ble_eq_true rfl) dX7_helper_17 (fun H locs hP hS => ?_) rfl
    have hP : va_P D vwCl (VW K ad I1 G A L) H := hP
    refine lv_if_ne (tgt := 25) hx hb dX7_helper_20 (by decide) (fun c_7 => ?_) (fun c_7 => ?_)
    · have h := iN c_7 h
      refine lv_iload_n hx hb dX7_helper_25 rfl (lv_at hl 2 rfl) ?_
      refine lv_if_ne (tgt := 38) hx hb dX7_helper_26 (by decide) (fun c_8 => ?_) (fun c_8 => ?_)
      · have h := iN c_8 h
        refine lv_iload_n hx hb dX7_helper_38 rfl (lv_at hl 2 rfl) ?_
        refine lv_iconst (v := 1) hx hb dX7_helper_39 (by decide) ?_
        refine lv_icmp_ne (tgt := 52) hx hb dX7_helper_40 (by decide) (fun c_9 => ?_) (fun c_9 => ?_)
        · have h := iN c_9 h
          refine lv_aload_n hx hb dX7_helper_52 rfl (lv_at hl 0 rfl) ?_
          refine vgC hx hb hts hi7 hown hK hP (318) (by decide) (show kd 318 = 7 by decide) (C := RX7) (T := TX7) (N := 79) rfl 21 (by decide) (by decide) (by decide) (by decide) (333) rfl (hts (.fieldLink RX7 56 "CrateHelpersModel" "replaced" "[I") (by decide +kernel)) (fun _ h9 => h9) dX7_helper_53 ?_
          refine lv_iload_n hx hb dX7_helper_56 rfl (lv_at hl 1 rfl) ?_
          obtain ⟨hn10, h⟩ := gk h
          refine xiald hx hb hK hP (333) (by decide) (show kd 333 = 8 by decide) (by rw [show ln 333 = 5 by decide]; exact hn10) dX7_helper_57 ?_
          exact W.iret (v := (A 333 a1.toNatClampNeg)) hx hb hr (fun t9 ht9 hW9 => ⟨⟨(A 333 a1.toNatClampNeg), (I1, G, A, L), rfl, by cases h; exact ⟨rfl, rfl⟩, by rw [ht9]; exact hP, va_K.moved hW9.alike hK⟩, hS.F ht9⟩) hS.2.2 dX7_helper_58
        · have h := ip c_9 h
          refine lv_aload_n hx hb dX7_helper_43 rfl (lv_at hl 0 rfl) ?_
          refine vgC hx hb hts hi7 hown hK hP (318) (by decide) (show kd 318 = 7 by decide) (C := RX7) (T := TX7) (N := 79) rfl 20 (by decide) (by decide) (by decide) (by decide) (332) rfl (hts (.fieldLink RX7 53 "CrateHelpersModel" "idle" "[I") (by decide +kernel)) (fun _ h9 => h9) dX7_helper_44 ?_
          refine lv_iload_n hx hb dX7_helper_47 rfl (lv_at hl 1 rfl) ?_
          obtain ⟨hn11, h⟩ := gk h
          refine xiald hx hb hK hP (332) (by decide) (show kd 332 = 8 by decide) (by rw [show ln 332 = 5 by decide]; exact hn11) dX7_helper_48 ?_
          refine lv_goto (tgt := 58) hx hb dX7_helper_49 (by decide) ?_
          exact W.iret (v := (A 332 a1.toNatClampNeg)) hx hb hr (fun t9 ht9 hW9 => ⟨⟨(A 332 a1.toNatClampNeg), (I1, G, A, L), rfl, by cases h; exact ⟨rfl, rfl⟩, by rw [ht9]; exact hP, va_K.moved hW9.alike hK⟩, hS.F ht9⟩) hS.2.2 dX7_helper_58
      · have h := ip c_8 h
        refine lv_aload_n hx hb dX7_helper_29 rfl (lv_at hl 0 rfl) ?_
        refine vgC hx hb hts hi7 hown hK hP (318) (by decide) (show kd 318 = 7 by decide) (C := RX7) (T := TX7) (N := 79) rfl 22 (by decide) (by decide) (by decide) (by decide) (334) rfl (hts (.fieldLink RX7 59 "CrateHelpersModel" "didNow" "[I") (by decide +kernel)) (fun _ h9 => h9) dX7_helper_30 ?_
        refine lv_iload_n hx hb dX7_helper_33 rfl (lv_at hl 1 rfl) ?_
        obtain ⟨hn12, h⟩ := gk h
        refine xiald hx hb hK hP (334) (by decide) (show kd 334 = 8 by decide) (by rw [show ln 334 = 5 by decide]; exact hn12) dX7_helper_34 ?_
        refine lv_goto (tgt := 58) hx hb dX7_helper_35 (by decide) ?_
        exact W.iret (v := (A 334 a1.toNatClampNeg)) hx hb hr (fun t9 ht9 hW9 => ⟨⟨(A 334 a1.toNatClampNeg), (I1, G, A, L), rfl, by cases h; exact ⟨rfl, rfl⟩, by rw [ht9]; exact hP, va_K.moved hW9.alike hK⟩, hS.F ht9⟩) hS.2.2 dX7_helper_58
    · have h := ip c_7 h
      refine lv_iconst (v := (-1)) hx hb dX7_helper_23 (by decide) ?_
      exact W.iret (v := (-1)) hx hb hr (fun t9 ht9 hW9 => ⟨⟨(-1), (I1, G, A, L), rfl, by cases h; exact ⟨rfl, rfl⟩, by rw [ht9]; exact hP, va_K.moved hW9.alike hK⟩, hS.F ht9⟩) hS.2.2 dX7_helper_24
set_option maxHeartbeats 4000000 in
set_option maxRecDepth 100000 in
theorem e_X7_helpers (l : Launch) (D : va_G) (K : Nat → ClassId) (ad : Nat → Nat) (hap0 : apart ad (fun _ => True)) (a1 : Int32) (I : Nat → Nat → Int32) (G : Nat → Nat → Nat) (A : Nat → Nat → Int32) (L : Nat → Nat → Int64) (r0 : Int32) (I0 : Nat → Nat → Int32) (A0 : Nat → Nat → Int32) (h : f_X7_helpers I A a1 = some (r0, I0, A0)) : Ci l D K ad yX7_helpers wsX7_helpers 1 25 [.ref (ad 318), .int a1] (I, G, A, L) (fun (r : Int32) (u : Mem) => r = r0 ∧ u = (I0, G, A0, L)) := by
  intro sz
  refine Met.ofW (cc := cX7_helpers) (maxL := 4) (ret := (some .int)) (by decide) rfl ?_
  intro p e s m args below meth c s₁ Bd hml hv0
  obtain ⟨rfl, hsz, hP, hK⟩ := hv0
  have hx := Bd.exec
  have hb := Bd.bytes
  have hr := Bd.returns
  have hts := atoms_spec (ws := wsX7_helpers) Bd.pre
  have hown : s.vm.findClass RX7 = some m.cls := findClass_of_methodNamed Bd.named
  have hlocks := Bd.notSynchronized
  have hi7 : ∀ w ∈ u_ws RX7 TX7 79, w ∈ wsX7_helpers := fun w h => List.mem_cons_of_mem _ (List.mem_append_right _ h)
  subst hsz
  have hap := vF_ap hap0 s.heap.size
  have hS : va_S (vF ad s.heap.size) s.heap s.heap [] := va_S.rf
  have hP : va_P D vwCl (VW K ad I G A L) s.heap := hP
  have hl := lv_entry ([.ref (ad 318), .int a1]) (n := 4) (Nat.le_of_ble_eq_true rfl)
  rw [lg_entry_eq]
  generalize (lg_sl ([.ref (ad 318), .int a1]) ++ List.replicate (4 - (lg_sl ([.ref (ad 318), .int a1])).length) Slot.unset).toArray = ls at hl ⊢
  have hl : lv_has ls 4 [(0, .ref (ad 318)), (1, .int a1)] := hl
  rw [f_X7_helpers] at h
  refine lv_aload_n hx hb dX7_helpers_0 rfl (lv_at hl 0 rfl) ?_
  refine lv_iconst (v := 0) hx hb dX7_helpers_1 (by decide) ?_
  refine vpI (v := 0) (ty := .int) hx hb hts hi7 tyX7 tyX7_ok nmX7 hown hK hP hap hS (318) (by decide) (show kd 318 = 7 by decide) (C := RX7) (T := TX7) (N := 79) rfl 0 (by decide) (by decide) (by decide) (by decide) (hts (.fieldLink RX7 201 "CrateHelpersModel" "thrown" "I") (by decide +kernel)) (fun _ h9 => h9) rfl (by decide +kernel) rfl rfl dX7_helpers_2 (fun H locs hP hS => ?_)
  obtain ⟨I1, eI1, h⟩ := bd_e h
  rw [← eI1] at hP
  have hP : va_P D vwCl (VW K ad I1 G A L) H := hP
  refine lv_iload_n hx hb dX7_helpers_5 rfl (lv_at hl 1 rfl) ?_
  refine lv_iconst (v := 1) hx hb dX7_helpers_6 (by decide) ?_
  refine lv_iconst (v := 5) hx hb dX7_helpers_7 (by decide) ?_
  obtain ⟨r2, hc3, h⟩ := Option.bind_eq_some_iff.mp h
  refine ecS (As := [.int a1, .int 1, .int 5]) (rest := []) ⟨hx, hb, hml, hown, hts⟩ (e_X7_in l D K ad hap0 a1 1 5 I1 G A L r2 hc3) (va_cwS 3 hts gX7_helpers_X7_in rfl rfl rfl (by decide +kernel) ⟨Nat.le_of_ble_eq_true rfl, Nat.le_of_ble_eq_true rfl⟩) hK hP hS rfl hl.1 (Nat.le_of_ble_eq_true rfl) (Nat.le_of_ble_eq_true rfl) (Nat.le_of_ble_eq_true rfl) dX7_helpers_8 (fun H locs hP hS => ?_) rfl
  have hP : va_P D vwCl (VW K ad I1 G A L) H := hP
  refine lv_if_ne (tgt := 16) hx hb dX7_helpers_11 (by decide) (fun c_4 => ?_) (fun c_4 => ?_)
  · have h := iN c_4 h
    refine lv_aload_n hx hb dX7_helpers_16 rfl (lv_at hl 0 rfl) ?_
    refine vgI hx hb hts hi7 hown hK hP (318) (by decide) (show kd 318 = 7 by decide) (C := RX7) (T := TX7) (N := 79) rfl 23 (by decide) (by decide) (by decide) (by decide) (hts (.fieldLink RX7 62 "CrateHelpersModel" "under" "I") (by decide +kernel)) (fun _ h9 => h9) dX7_helpers_17 ?_
    refine lv_bipush (v := (-9)) hx hb dX7_helpers_20 (by decide) ?_
    refine lv_icmp_eq (tgt := 28) hx hb dX7_helpers_22 (by decide) (fun c_5 => ?_) (fun c_5 => ?_)
    · have h := ip c_5 h
      refine lv_aload_n hx hb dX7_helpers_28 rfl (lv_at hl 0 rfl) ?_
      refine vgI hx hb hts hi7 hown hK hP (318) (by decide) (show kd 318 = 7 by decide) (C := RX7) (T := TX7) (N := 79) rfl 15 (by decide) (by decide) (by decide) (by decide) (hts (.fieldLink RX7 43 "CrateHelpersModel" "helpers" "I") (by decide +kernel)) (fun _ h9 => h9) dX7_helpers_29 ?_
      refine lv_istore_n (lv' := [(2, .int (I1 318 15)), (0, .ref (ad 318)), (1, .int a1)]) hx hb dX7_helpers_32 rfl hl (by decide) rfl (fun ls hl => ?_)
      refine lv_aload_n hx hb dX7_helpers_33 rfl (lv_at hl 1 rfl) ?_
      refine lv_iload_n hx hb dX7_helpers_34 rfl (lv_at hl 2 rfl) ?_
      refine vpI (v := a1) (ty := .int) hx hb hts hi7 tyX7 tyX7_ok nmX7 hown hK hP hap hS (318) (by decide) (show kd 318 = 7 by decide) (C := RX7) (T := TX7) (N := 79) rfl 15 (by decide) (by decide) (by decide) (by decide) (hts (.fieldLink RX7 43 "CrateHelpersModel" "helpers" "I") (by decide +kernel)) (fun _ h9 => h9) rfl (by decide +kernel) rfl rfl dX7_helpers_35 (fun H locs hP hS => ?_)
      obtain ⟨I6, eI6, h⟩ := bd_e h
      rw [← eI6] at hP
      have hP : va_P D vwCl (VW K ad I6 G A L) H := hP
      refine lv_iconst (v := 0) hx hb dX7_helpers_38 (by decide) ?_
      refine lv_istore_n (lv' := [(3, .int 0), (2, .int (I1 318 15)), (0, .ref (ad 318)), (1, .int a1)]) hx hb dX7_helpers_39 rfl hl (by decide) rfl (fun ls hl => ?_)
      obtain ⟨k11, ek11, h⟩ := bd_e h
      have kk11 : ∀ (v12 : Int32) (A13 : Nat → Nat → Int32), k11 v12 A13 = some (r0, I0, A0) → ∀ (H : Heap) (locs : List Loc), va_P D vwCl (VW K ad I6 G A13 L) H → va_S (vF ad s.heap.size) s.heap H locs → ∀ (ls : Array Slot), lv_has ls 4 [(2, .int v12)] → W p l e ({ frames := 1, cells := 0, slots := 0, locals := 25 }) s m ([.ref (ad 318), .int a1] : List Value).toArray below meth c H locs 0 0 (MQ below (va_Qi (fun (r : Int32) (u : Mem) => r = r0 ∧ u = (I0, G, A0, L)) (vB D K ad) (vF ad s.heap.size)) ([.ref (ad 318), .int a1] : List Value).toArray s 0 0 (vF ad s.heap.size)) (F0 m 58 ls []) := by
        intro v12 A13 h H locs hP hS ls hl
        subst ek11
        refine lv_iload_n hx hb dX7_helpers_58 rfl (lv_at hl 0 rfl) ?_
        exact W.iret (v := v12) hx hb hr (fun t9 ht9 hW9 => ⟨⟨v12, (I6, G, A13, L), rfl, by cases h; exact ⟨rfl, rfl⟩, by rw [ht9]; exact hP, va_K.moved hW9.alike hK⟩, hS.F ht9⟩) hS.2.2 dX7_helpers_59
      have lp7 : ∀ (n : Nat) (v8 : Int32) (v9 : Int32) (A10 : Nat → Nat → Int32), f_X7_helpers_L40 I6 k11 n v8 v9 A10 = some (r0, I0, A0) → ∀ (H : Heap) (locs : List Loc), va_P D vwCl (VW K ad I6 G A10 L) H → va_S (vF ad s.heap.size) s.heap H locs → ∀ (ls : Array Slot), lv_has ls 4 [(3, .int v8), (2, .int v9), (0, .ref (ad 318))] → W p l e ({ frames := 1, cells := 0, slots := 0, locals := 25 }) s m ([.ref (ad 318), .int a1] : List Value).toArray below meth c H locs 0 0 (MQ below (va_Qi (fun (r : Int32) (u : Mem) => r = r0 ∧ u = (I0, G, A0, L)) (vB D K ad) (vF ad s.heap.size)) ([.ref (ad 318), .int a1] : List Value).toArray s 0 0 (vF ad s.heap.size)) (F0 m 40 ls []) := by
        intro n
        induction n with
        | zero => intro v8 v9 A10 h; exact absurd h (by rw [f_X7_helpers_L40]; exact nofun)
        | succ n ih7 =>
          intro v8 v9 A10 h H locs hP hS ls hl
          rw [f_X7_helpers_L40] at h
          refine lv_iload_n hx hb dX7_helpers_40 rfl (lv_at hl 0 rfl) ?_
          refine lv_iconst (v := 5) hx hb dX7_helpers_41 (by decide) ?_
          refine lv_icmp_ge (tgt := 58) hx hb dX7_helpers_42 (by decide) (fun c_14 => ?_) (fun c_14 => ?_)
          · have h := iN (Int32.not_lt.mpr c_14) h
            exact kk11 v9 A10 h _ _ hP hS ls (lv_sub hl [1] rfl)
          · have h := ip (Int32.not_le.mp c_14) h
            refine lv_aload_n hx hb dX7_helpers_45 rfl (lv_at hl 2 rfl) ?_
            refine vgC hx hb hts hi7 hown hK hP (318) (by decide) (show kd 318 = 7 by decide) (C := RX7) (T := TX7) (N := 79) rfl 16 (by decide) (by decide) (by decide) (by decide) (330) rfl (hts (.fieldLink RX7 47 "CrateHelpersModel" "failAt" "[I") (by decide +kernel)) (fun _ h9 => h9) dX7_helpers_46 ?_
            refine lv_iload_n hx hb dX7_helpers_49 rfl (lv_at hl 0 rfl) ?_
            refine lv_iconst (v := 0) hx hb dX7_helpers_50 (by decide) ?_
            obtain ⟨hn15, h⟩ := gk h
            refine xiast hx hb hK hP hap hS (330) (by decide) (show kd 330 = 8 by decide) (by rw [show ln 330 = 5 by decide]; exact hn15) dX7_helpers_51 (fun H locs hP hS => ?_)
            obtain ⟨A16, eA16, h⟩ := bd_e h
            rw [← eA16] at hP
            have hP : va_P D vwCl (VW K ad I6 G A16 L) H := hP
            refine lv_iinc (v := (v8 + 1)) (lv' := [(3, .int (v8 + 1)), (2, .int v9), (0, .ref (ad 318))]) hx hb dX7_helpers_52 hl (k := 0) rfl rfl (by decide) rfl (fun ls hl => ?_)
            refine lv_goto (tgt := 40) hx hb dX7_helpers_55 (by decide) ?_
            exact ih7 (v8 + 1) v9 A16 h _ _ hP hS ls (lv_sub hl [0, 1, 2] rfl)
      exact lp7 FU 0 (I1 318 15) A h _ _ hP hS ls (lv_sub hl [0, 1, 2] rfl)
    · have h := iN c_5 h
      refine lv_bipush (v := (-2)) hx hb dX7_helpers_25 (by decide) ?_
      exact W.iret (v := (-2)) hx hb hr (fun t9 ht9 hW9 => ⟨⟨(-2), (I1, G, A, L), rfl, by cases h; exact ⟨rfl, rfl⟩, by rw [ht9]; exact hP, va_K.moved hW9.alike hK⟩, hS.F ht9⟩) hS.2.2 dX7_helpers_27
  · have h := ip c_4 h
    refine lv_iconst (v := (-1)) hx hb dX7_helpers_14 (by decide) ?_
    exact W.iret (v := (-1)) hx hb hr (fun t9 ht9 hW9 => ⟨⟨(-1), (I1, G, A, L), rfl, by cases h; exact ⟨rfl, rfl⟩, by rw [ht9]; exact hP, va_K.moved hW9.alike hK⟩, hS.F ht9⟩) hS.2.2 dX7_helpers_15
set_option maxHeartbeats 4000000 in
set_option maxRecDepth 100000 in
theorem e_X7_limit (l : Launch) (D : va_G) (K : Nat → ClassId) (ad : Nat → Nat) (hap0 : apart ad (fun _ => True)) (a1 : Int32) (I : Nat → Nat → Int32) (G : Nat → Nat → Nat) (A : Nat → Nat → Int32) (L : Nat → Nat → Int64) (r0 : Int32) (I0 : Nat → Nat → Int32) (h : f_X7_limit I a1 = some (r0, I0)) : Ci l D K ad yX7_limit wsX7_limit 1 25 [.ref (ad 318), .int a1] (I, G, A, L) (fun (r : Int32) (u : Mem) => r = r0 ∧ u = (I0, G, A, L)) := by
  intro sz
  refine Met.ofW (cc := cX7_limit) (maxL := 3) (ret := (some .int)) (by decide) rfl ?_
  intro p e s m args below meth c s₁ Bd hml hv0
  obtain ⟨rfl, hsz, hP, hK⟩ := hv0
  have hx := Bd.exec
  have hb := Bd.bytes
  have hr := Bd.returns
  have hts := atoms_spec (ws := wsX7_limit) Bd.pre
  have hown : s.vm.findClass RX7 = some m.cls := findClass_of_methodNamed Bd.named
  have hlocks := Bd.notSynchronized
  have hi7 : ∀ w ∈ u_ws RX7 TX7 79, w ∈ wsX7_limit := fun w h => List.mem_cons_of_mem _ (List.mem_append_right _ h)
  subst hsz
  have hap := vF_ap hap0 s.heap.size
  have hS : va_S (vF ad s.heap.size) s.heap s.heap [] := va_S.rf
  have hP : va_P D vwCl (VW K ad I G A L) s.heap := hP
  have hl := lv_entry ([.ref (ad 318), .int a1]) (n := 3) (Nat.le_of_ble_eq_true rfl)
  rw [lg_entry_eq]
  generalize (lg_sl ([.ref (ad 318), .int a1]) ++ List.replicate (3 - (lg_sl ([.ref (ad 318), .int a1])).length) Slot.unset).toArray = ls at hl ⊢
  have hl : lv_has ls 3 [(0, .ref (ad 318)), (1, .int a1)] := hl
  rw [f_X7_limit] at h
  refine lv_aload_n hx hb dX7_limit_0 rfl (lv_at hl 0 rfl) ?_
  refine lv_iconst (v := 0) hx hb dX7_limit_1 (by decide) ?_
  refine vpI (v := 0) (ty := .int) hx hb hts hi7 tyX7 tyX7_ok nmX7 hown hK hP hap hS (318) (by decide) (show kd 318 = 7 by decide) (C := RX7) (T := TX7) (N := 79) rfl 0 (by decide) (by decide) (by decide) (by decide) (hts (.fieldLink RX7 201 "CrateHelpersModel" "thrown" "I") (by decide +kernel)) (fun _ h9 => h9) rfl (by decide +kernel) rfl rfl dX7_limit_2 (fun H locs hP hS => ?_)
  obtain ⟨I1, eI1, h⟩ := bd_e h
  rw [← eI1] at hP
  have hP : va_P D vwCl (VW K ad I1 G A L) H := hP
  refine lv_iload_n hx hb dX7_limit_5 rfl (lv_at hl 1 rfl) ?_
  refine lv_iconst (v := 0) hx hb dX7_limit_6 (by decide) ?_
  refine lv_sipush (v := 1000) hx hb dX7_limit_7 (by decide) ?_
  obtain ⟨r2, hc3, h⟩ := Option.bind_eq_some_iff.mp h
  refine ecS (As := [.int a1, .int 0, .int 1000]) (rest := []) ⟨hx, hb, hml, hown, hts⟩ (e_X7_in l D K ad hap0 a1 0 1000 I1 G A L r2 hc3) (va_cwS 3 hts gX7_limit_X7_in rfl rfl rfl (by decide +kernel) ⟨Nat.le_of_ble_eq_true rfl, Nat.le_of_ble_eq_true rfl⟩) hK hP hS rfl hl.1 (Nat.le_of_ble_eq_true rfl) (Nat.le_of_ble_eq_true rfl) (Nat.le_of_ble_eq_true rfl) dX7_limit_10 (fun H locs hP hS => ?_) rfl
  have hP : va_P D vwCl (VW K ad I1 G A L) H := hP
  refine lv_if_ne (tgt := 18) hx hb dX7_limit_13 (by decide) (fun c_4 => ?_) (fun c_4 => ?_)
  · have h := iN c_4 h
    refine lv_aload_n hx hb dX7_limit_18 rfl (lv_at hl 0 rfl) ?_
    refine vgI hx hb hts hi7 hown hK hP (318) (by decide) (show kd 318 = 7 by decide) (C := RX7) (T := TX7) (N := 79) rfl 23 (by decide) (by decide) (by decide) (by decide) (hts (.fieldLink RX7 62 "CrateHelpersModel" "under" "I") (by decide +kernel)) (fun _ h9 => h9) dX7_limit_19 ?_
    refine lv_bipush (v := (-9)) hx hb dX7_limit_22 (by decide) ?_
    refine lv_icmp_eq (tgt := 30) hx hb dX7_limit_24 (by decide) (fun c_5 => ?_) (fun c_5 => ?_)
    · have h := ip c_5 h
      refine lv_aload_n hx hb dX7_limit_30 rfl (lv_at hl 0 rfl) ?_
      refine vgI hx hb hts hi7 hown hK hP (318) (by decide) (show kd 318 = 7 by decide) (C := RX7) (T := TX7) (N := 79) rfl 19 (by decide) (by decide) (by decide) (by decide) (hts (.fieldLink RX7 246 "CrateHelpersModel" "limit" "I") (by decide +kernel)) (fun _ h9 => h9) dX7_limit_31 ?_
      refine lv_istore_n (lv' := [(2, .int (I1 318 19)), (0, .ref (ad 318)), (1, .int a1)]) hx hb dX7_limit_34 rfl hl (by decide) rfl (fun ls hl => ?_)
      refine lv_aload_n hx hb dX7_limit_35 rfl (lv_at hl 1 rfl) ?_
      refine lv_iload_n hx hb dX7_limit_36 rfl (lv_at hl 2 rfl) ?_
      refine vpI (v := a1) (ty := .int) hx hb hts hi7 tyX7 tyX7_ok nmX7 hown hK hP hap hS (318) (by decide) (show kd 318 = 7 by decide) (C := RX7) (T := TX7) (N := 79) rfl 19 (by decide) (by decide) (by decide) (by decide) (hts (.fieldLink RX7 246 "CrateHelpersModel" "limit" "I") (by decide +kernel)) (fun _ h9 => h9) rfl (by decide +kernel) rfl rfl dX7_limit_37 (fun H locs hP hS => ?_)
      obtain ⟨I6, eI6, h⟩ := bd_e h
      rw [← eI6] at hP
      have hP : va_P D vwCl (VW K ad I6 G A L) H := hP
      refine lv_iload_n hx hb dX7_limit_40 rfl (lv_at hl 0 rfl) ?_
      exact W.iret (v := (I1 318 19)) hx hb hr (fun t9 ht9 hW9 => ⟨⟨(I1 318 19), (I6, G, A, L), rfl, by cases h; exact ⟨rfl, rfl⟩, by rw [ht9]; exact hP, va_K.moved hW9.alike hK⟩, hS.F ht9⟩) hS.2.2 dX7_limit_41
    · have h := iN c_5 h
      refine lv_bipush (v := (-2)) hx hb dX7_limit_27 (by decide) ?_
      exact W.iret (v := (-2)) hx hb hr (fun t9 ht9 hW9 => ⟨⟨(-2), (I1, G, A, L), rfl, by cases h; exact ⟨rfl, rfl⟩, by rw [ht9]; exact hP, va_K.moved hW9.alike hK⟩, hS.F ht9⟩) hS.2.2 dX7_limit_29
  · have h := ip c_4 h
    refine lv_iconst (v := (-1)) hx hb dX7_limit_16 (by decide) ?_
    exact W.iret (v := (-1)) hx hb hr (fun t9 ht9 hW9 => ⟨⟨(-1), (I1, G, A, L), rfl, by cases h; exact ⟨rfl, rfl⟩, by rw [ht9]; exact hP, va_K.moved hW9.alike hK⟩, hS.F ht9⟩) hS.2.2 dX7_limit_17
