set_option maxHeartbeats 4000000 in
set_option maxRecDepth 100000 in
theorem e_X6_second (l : Launch) (D : va_G) (K : Nat → ClassId) (ad : Nat → Nat) (hap0 : apart ad (fun _ => True)) (a1 : Int32) (a2 : Int32) (I : Nat → Nat → Int32) (G : Nat → Nat → Nat) (A : Nat → Nat → Int32) (L : Nat → Nat → Int64) (r0 : Int32) (I0 : Nat → Nat → Int32) (G0 : Nat → Nat → Nat) (A0 : Nat → Nat → Int32) (L0 : Nat → Nat → Int64) (h : f_X6_second I G A L a1 a2 = some (r0, I0, G0, A0, L0)) : Ci l D K ad yX6_second wsX6_second 6 211 [.ref (ad 0), .int a1, .int a2] (I, G, A, L) (fun (r : Int32) (u : Mem) => r = r0 ∧ u = (I0, G0, A0, L0)) := by
  intro sz
  refine Met.ofW (cc := cX6_second) (maxL := 6) (ret := (some .int)) (by decide) rfl ?_
  intro p e s m args below meth c s₁ Bd hml hv0
  obtain ⟨rfl, hsz, hP, hK⟩ := hv0
  have hx := Bd.exec
  have hb := Bd.bytes
  have hr := Bd.returns
  have hts := atoms_spec (ws := wsX6_second) Bd.pre
  have hown : s.vm.findClass RX6 = some m.cls := findClass_of_methodNamed Bd.named
  have hlocks := Bd.notSynchronized
  have hi6 : ∀ w ∈ u_ws RX6 TX6 18, w ∈ wsX6_second := fun w h => List.mem_cons_of_mem _ (List.mem_append_left _ (List.mem_append_left _ (List.mem_append_left _ (List.mem_append_left _ (List.mem_append_right _ h)))))
  have hi5 : ∀ w ∈ u_ws RX5 TX5 16, w ∈ wsX6_second := fun w h => List.mem_cons_of_mem _ (List.mem_append_left _ (List.mem_append_left _ (List.mem_append_left _ (List.mem_append_right _ h))))
  have hi1 : ∀ w ∈ u_ws RX1 TX1 9, w ∈ wsX6_second := fun w h => List.mem_cons_of_mem _ (List.mem_append_left _ (List.mem_append_left _ (List.mem_append_right _ h)))
  have hi0 : ∀ w ∈ u_ws RX0 TX0 3, w ∈ wsX6_second := fun w h => List.mem_cons_of_mem _ (List.mem_append_left _ (List.mem_append_right _ h))
  have hi2 : ∀ w ∈ u_ws RX2 TX2 7, w ∈ wsX6_second := fun w h => List.mem_cons_of_mem _ (List.mem_append_right _ h)
  subst hsz
  have hap := vF_ap hap0 s.heap.size
  have hS : va_S (vF ad s.heap.size) s.heap s.heap [] := va_S.rf
  have hP : va_P D vwCl (VW K ad I G A L) s.heap := hP
  have hl := lv_entry ([.ref (ad 0), .int a1, .int a2]) (n := 6) (Nat.le_of_ble_eq_true rfl)
  rw [lg_entry_eq]
  generalize (lg_sl ([.ref (ad 0), .int a1, .int a2]) ++ List.replicate (6 - (lg_sl ([.ref (ad 0), .int a1, .int a2])).length) Slot.unset).toArray = ls at hl ⊢
  have hl : lv_has ls 6 [(0, .ref (ad 0)), (1, .int a1), (2, .int a2)] := hl
  rw [f_X6_second] at h
  refine lv_aload_n hx hb dX6_second_0 rfl (lv_at hl 0 rfl) ?_
  refine lv_iload_n hx hb dX6_second_1 rfl (lv_at hl 1 rfl) ?_
  obtain ⟨r1, hc2, h⟩ := Option.bind_eq_some_iff.mp h
  refine ecV (As := [.int a1]) (rest := []) ⟨hx, hb, hml, hown, hts⟩ (e_X6_isProblem l D K ad hap0 a1 I G A L r1 hc2) (cwV 1 hts gX6_second_X6_isProblem rfl rfl rfl (by decide +kernel) ⟨Nat.le_of_ble_eq_true rfl, Nat.le_of_ble_eq_true rfl⟩) hK hP hS (by decide) (show kd 0 = 6 by decide) (by decide) rfl rfl rfl hl.1 (Nat.le_of_ble_eq_true rfl) (Nat.le_of_ble_eq_true rfl) (Nat.le_of_ble_eq_true rfl) dX6_second_2 (fun H locs hP hS => ?_) rfl
  have hP : va_P D vwCl (VW K ad I G A L) H := hP
  refine lv_if_eq (tgt := 18) hx hb dX6_second_5 (by decide) (fun c_3 => ?_) (fun c_3 => ?_)
  · have h := ip c_3 h
    refine lv_ldcw (v := (-1000002)) hx hb hown (hts (.constant RX6 261 (-1000002)) (by decide +kernel)) dX6_second_18 ?_
    exact W.iret (v := (-1000002)) hx hb hr (fun t9 ht9 hW9 => ⟨⟨(-1000002), (I, G, A, L), rfl, by cases h; exact ⟨rfl, rfl⟩, by rw [ht9]; exact hP, va_K.moved hW9.alike hK⟩, hS.F ht9⟩) hS.2.2 dX6_second_21
  · have h := iN c_3 h
    refine lv_iload_n hx hb dX6_second_8 rfl (lv_at hl 2 rfl) ?_
    refine lv_iconst (v := 0) hx hb dX6_second_9 (by decide) ?_
    refine lv_bipush (v := 60) hx hb dX6_second_10 (by decide) ?_
    obtain ⟨r4, hc5, h⟩ := Option.bind_eq_some_iff.mp h
    refine ecS (As := [.int a2, .int 0, .int 60]) (rest := []) ⟨hx, hb, hml, hown, hts⟩ (e_X6_isWithin l D K ad hap0 a2 0 60 I G A L r4 hc5) (va_cwS 3 hts gX6_second_X6_isWithin rfl rfl rfl (by decide +kernel) ⟨Nat.le_of_ble_eq_true rfl, Nat.le_of_ble_eq_true rfl⟩) hK hP hS rfl hl.1 (Nat.le_of_ble_eq_true rfl) (Nat.le_of_ble_eq_true rfl) (Nat.le_of_ble_eq_true rfl) dX6_second_12 (fun H locs hP hS => ?_) rfl
    have hP : va_P D vwCl (VW K ad I G A L) H := hP
    refine lv_if_ne (tgt := 22) hx hb dX6_second_15 (by decide) (fun c_6 => ?_) (fun c_6 => ?_)
    · have h := iN c_6 h
      refine lv_aload_n hx hb dX6_second_22 rfl (lv_at hl 0 rfl) ?_
      refine vgC hx hb hts hi6 hown hK hP (0) (by decide) (show kd 0 = 6 by decide) (C := RX6) (T := TX6) (N := 18) rfl 13 (by decide) (by decide) (by decide) (by decide) (19) rfl (hts (.fieldLink RX6 52 "CrateHelpers" "secondRow" "[I") (by decide +kernel)) (fun _ h9 => h9) dX6_second_23 ?_
      refine lv_bipush (v := (-9)) hx hb dX6_second_26 (by decide) ?_
      obtain ⟨A7, hc8, h⟩ := Option.bind_eq_some_iff.mp h
      refine ecSv (As := [.ref (ad 19), .int (-9)]) (rest := []) ⟨hx, hb, hml, hown, hts⟩ (e_J7_fill_53178 l D K ad hap0 19 (-9) I G A L A7 hc8) (va_cwS 2 hts gX6_second_J7_fill_53178 rfl rfl rfl (by decide +kernel) ⟨Nat.le_of_ble_eq_true rfl, Nat.le_of_ble_eq_true rfl⟩) hK hP hS rfl hl.1 (Nat.le_of_ble_eq_true rfl) (Nat.le_of_ble_eq_true rfl) (Nat.le_of_ble_eq_true rfl) dX6_second_28 (fun H locs hP hS => ?_) rfl
      have hP : va_P D vwCl (VW K ad I G A7 L) H := hP
      refine lv_aload_n hx hb dX6_second_31 rfl (lv_at hl 0 rfl) ?_
      refine vgC hx hb hts hi6 hown hK hP (0) (by decide) (show kd 0 = 6 by decide) (C := RX6) (T := TX6) (N := 18) rfl 12 (by decide) (by decide) (by decide) (by decide) (46) rfl (hts (.fieldLink RX6 86 "CrateHelpers" "secondTree" "LCrateHelpers$Tree;") (by decide +kernel)) (fun _ h9 => h9) dX6_second_32 ?_
      refine lv_aload_n hx hb dX6_second_35 rfl (lv_at hl 0 rfl) ?_
      refine vgC hx hb hts hi6 hown hK hP (0) (by decide) (show kd 0 = 6 by decide) (C := RX6) (T := TX6) (N := 18) rfl 0 (by decide) (by decide) (by decide) (by decide) (1) rfl (hts (.fieldLink RX6 11 "CrateHelpers" "problems" "[LCrateHelpers$Problem;") (by decide +kernel)) (fun _ h9 => h9) dX6_second_36 ?_
      refine lv_iload_n hx hb dX6_second_39 rfl (lv_at hl 1 rfl) ?_
      obtain ⟨hn9, h⟩ := gk h
      refine xaald hx hb hK hP (1) (by decide) 5 13 (show kd 1 = 13 by decide) (by decide) rfl (by rw [show ln 1 = 5 by decide]; exact hn9) (58 + 52 * a1.toNatClampNeg) (drf13 ((show kd 1 = 13 by decide))) dX6_second_40 ?_
      refine lv_iconst (v := 0) hx hb dX6_second_41 (by decide) ?_
      obtain ⟨⟨I10, G11, A12, L13⟩, hc14, h⟩ := Option.bind_eq_some_iff.mp h
      refine ecVv (As := [.ref (ad (58 + 52 * a1.toNatClampNeg)), .int 0]) (rest := []) ⟨hx, hb, hml, hown, hts⟩ (e_X5_plant l D K ad hap0 46 (58 + 52 * a1.toNatClampNeg) 0 I G A7 L I10 G11 A12 L13 hc14) (cwV 2 hts gX6_second_X5_plant rfl rfl rfl (by decide +kernel) ⟨Nat.le_of_ble_eq_true rfl, Nat.le_of_ble_eq_true rfl⟩) hK hP hS (by decide) (show kd 46 = 5 by decide) (by decide) rfl rfl rfl hl.1 (Nat.le_of_ble_eq_true rfl) (Nat.le_of_ble_eq_true rfl) (Nat.le_of_ble_eq_true rfl) dX6_second_42 (fun H locs hP hS => ?_) rfl
      have hP : va_P D vwCl (VW K ad I10 G11 A12 L13) H := hP
      refine lv_iload_n hx hb dX6_second_45 rfl (lv_at hl 2 rfl) ?_
      refine lv_istore_n (lv' := [(3, .int a2), (0, .ref (ad 0)), (1, .int a1), (2, .int a2)]) hx hb dX6_second_46 rfl hl (by decide) rfl (fun ls hl => ?_)
      refine lv_iconst (v := 0) hx hb dX6_second_47 (by decide) ?_
      refine lv_istore (lv' := [(4, .int 0), (3, .int a2), (0, .ref (ad 0)), (1, .int a1), (2, .int a2)]) hx hb dX6_second_48 hl (by decide) rfl (fun ls hl => ?_)
      obtain ⟨k21, ek21, h⟩ := bd_e h
      have kk21 : ∀ (I22 : Nat → Nat → Int32) (A23 : Nat → Nat → Int32) (L24 : Nat → Nat → Int64), k21 I22 A23 L24 = some (r0, I0, G0, A0, L0) → ∀ (H : Heap) (locs : List Loc), va_P D vwCl (VW K ad I22 G11 A23 L24) H → va_S (vF ad s.heap.size) s.heap H locs → ∀ (ls : Array Slot), lv_has ls 6 [] → W p l e ({ frames := 6, cells := 0, slots := 0, locals := 211 }) s m ([.ref (ad 0), .int a1, .int a2] : List Value).toArray below meth c H locs 0 0 (MQ below (va_Qi (fun (r : Int32) (u : Mem) => r = r0 ∧ u = (I0, G0, A0, L0)) (vB D K ad) (vF ad s.heap.size)) ([.ref (ad 0), .int a1, .int a2] : List Value).toArray s 0 0 (vF ad s.heap.size)) (F0 m 73 ls []) := by
        intro I22 A23 L24 h H locs hP hS ls hl
        subst ek21
        refine lv_ldcw (v := (-1000000)) hx hb hown (hts (.constant RX6 269 (-1000000)) (by decide +kernel)) dX6_second_73 ?_
        exact W.iret (v := (-1000000)) hx hb hr (fun t9 ht9 hW9 => ⟨⟨(-1000000), (I22, G11, A23, L24), rfl, by cases h; exact ⟨rfl, rfl⟩, by rw [ht9]; exact hP, va_K.moved hW9.alike hK⟩, hS.F ht9⟩) hS.2.2 dX6_second_76
      obtain ⟨k25, ek25, h⟩ := bd_e h
      have kk25 : ∀ (v26 : Int32) (I27 : Nat → Nat → Int32) (A28 : Nat → Nat → Int32) (L29 : Nat → Nat → Int64), k25 v26 I27 A28 L29 = some (r0, I0, G0, A0, L0) → ∀ (H : Heap) (locs : List Loc), va_P D vwCl (VW K ad I27 G11 A28 L29) H → va_S (vF ad s.heap.size) s.heap H locs → ∀ (ls : Array Slot), lv_has ls 6 [(0, .ref (ad 0)), (5, .int v26)] → W p l e ({ frames := 6, cells := 0, slots := 0, locals := 211 }) s m ([.ref (ad 0), .int a1, .int a2] : List Value).toArray below meth c H locs 0 0 (MQ below (va_Qi (fun (r : Int32) (u : Mem) => r = r0 ∧ u = (I0, G0, A0, L0)) (vB D K ad) (vF ad s.heap.size)) ([.ref (ad 0), .int a1, .int a2] : List Value).toArray s 0 0 (vF ad s.heap.size)) (F0 m 112 ls []) := by
        intro v26 I27 A28 L29 h H locs hP hS ls hl
        subst ek25
        refine lv_aload_n hx hb dX6_second_112 rfl (lv_at hl 0 rfl) ?_
        refine vgC hx hb hts hi6 hown hK hP (0) (by decide) (show kd 0 = 6 by decide) (C := RX6) (T := TX6) (N := 18) rfl 12 (by decide) (by decide) (by decide) (by decide) (46) rfl (hts (.fieldLink RX6 86 "CrateHelpers" "secondTree" "LCrateHelpers$Tree;") (by decide +kernel)) (fun _ h9 => h9) dX6_second_113 ?_
        refine lv_iload hx hb dX6_second_116 (lv_at hl 1 rfl) ?_
        refine lv_aload_n hx hb dX6_second_118 rfl (lv_at hl 0 rfl) ?_
        refine vgC hx hb hts hi6 hown hK hP (0) (by decide) (show kd 0 = 6 by decide) (C := RX6) (T := TX6) (N := 18) rfl 13 (by decide) (by decide) (by decide) (by decide) (19) rfl (hts (.fieldLink RX6 52 "CrateHelpers" "secondRow" "[I") (by decide +kernel)) (fun _ h9 => h9) dX6_second_119 ?_
        refine lv_iconst (v := 0) hx hb dX6_second_122 (by decide) ?_
        obtain ⟨A30, hc31, h⟩ := Option.bind_eq_some_iff.mp h
        refine ecVv (As := [.int v26, .ref (ad 19), .int 0]) (rest := []) ⟨hx, hb, hml, hown, hts⟩ (e_X5_copyValues l D K ad hap0 46 v26 19 0 I27 G11 A28 L29 A30 hc31) (cwV 3 hts gX6_second_X5_copyValues rfl rfl rfl (by decide +kernel) ⟨Nat.le_of_ble_eq_true rfl, Nat.le_of_ble_eq_true rfl⟩) hK hP hS (by decide) (show kd 46 = 5 by decide) (by decide) rfl rfl rfl hl.1 (Nat.le_of_ble_eq_true rfl) (Nat.le_of_ble_eq_true rfl) (Nat.le_of_ble_eq_true rfl) dX6_second_123 (fun H locs hP hS => ?_) rfl
        have hP : va_P D vwCl (VW K ad I27 G11 A30 L29) H := hP
        refine lv_aload_n hx hb dX6_second_126 rfl (lv_at hl 0 rfl) ?_
        refine vgC hx hb hts hi6 hown hK hP (0) (by decide) (show kd 0 = 6 by decide) (C := RX6) (T := TX6) (N := 18) rfl 12 (by decide) (by decide) (by decide) (by decide) (46) rfl (hts (.fieldLink RX6 86 "CrateHelpers" "secondTree" "LCrateHelpers$Tree;") (by decide +kernel)) (fun _ h9 => h9) dX6_second_127 ?_
        refine lv_iload hx hb dX6_second_130 (lv_at hl 1 rfl) ?_
        obtain ⟨r32, hc33, h⟩ := Option.bind_eq_some_iff.mp h
        refine ecV (As := [.int v26]) (rest := []) ⟨hx, hb, hml, hown, hts⟩ (e_X5_boundOf l D K ad hap0 46 v26 I27 G11 A30 L29 r32 hc33) (cwV 1 hts gX6_second_X5_boundOf rfl rfl rfl (by decide +kernel) ⟨Nat.le_of_ble_eq_true rfl, Nat.le_of_ble_eq_true rfl⟩) hK hP hS (by decide) (show kd 46 = 5 by decide) (by decide) rfl rfl rfl hl.1 (Nat.le_of_ble_eq_true rfl) (Nat.le_of_ble_eq_true rfl) (Nat.le_of_ble_eq_true rfl) dX6_second_132 (fun H locs hP hS => ?_) rfl
        have hP : va_P D vwCl (VW K ad I27 G11 A30 L29) H := hP
        exact W.iret (v := r32) hx hb hr (fun t9 ht9 hW9 => ⟨⟨r32, (I27, G11, A30, L29), rfl, by cases h; exact ⟨rfl, rfl⟩, by rw [ht9]; exact hP, va_K.moved hW9.alike hK⟩, hS.F ht9⟩) hS.2.2 dX6_second_135
      obtain ⟨k34, ek34, h⟩ := bd_e h
      have kk34 : ∀ (I35 : Nat → Nat → Int32) (A36 : Nat → Nat → Int32) (L37 : Nat → Nat → Int64), k34 I35 A36 L37 = some (r0, I0, G0, A0, L0) → ∀ (H : Heap) (locs : List Loc), va_P D vwCl (VW K ad I35 G11 A36 L37) H → va_S (vF ad s.heap.size) s.heap H locs → ∀ (ls : Array Slot), lv_has ls 6 [(0, .ref (ad 0))] → W p l e ({ frames := 6, cells := 0, slots := 0, locals := 211 }) s m ([.ref (ad 0), .int a1, .int a2] : List Value).toArray below meth c H locs 0 0 (MQ below (va_Qi (fun (r : Int32) (u : Mem) => r = r0 ∧ u = (I0, G0, A0, L0)) (vB D K ad) (vF ad s.heap.size)) ([.ref (ad 0), .int a1, .int a2] : List Value).toArray s 0 0 (vF ad s.heap.size)) (F0 m 145 ls []) := by
        intro I35 A36 L37 h H locs hP hS ls hl
        subst ek34
        refine lv_aload_n hx hb dX6_second_145 rfl (lv_at hl 0 rfl) ?_
        refine vgC hx hb hts hi6 hown hK hP (0) (by decide) (show kd 0 = 6 by decide) (C := RX6) (T := TX6) (N := 18) rfl 12 (by decide) (by decide) (by decide) (by decide) (46) rfl (hts (.fieldLink RX6 86 "CrateHelpers" "secondTree" "LCrateHelpers$Tree;") (by decide +kernel)) (fun _ h9 => h9) dX6_second_146 ?_
        obtain ⟨r38, hc39, h⟩ := Option.bind_eq_some_iff.mp h
        refine ecV (As := []) (rest := []) ⟨hx, hb, hml, hown, hts⟩ (e_X5_nextOfWalk l D K ad hap0 46 I35 G11 A36 L37 r38 hc39) (cwV 0 hts gX6_second_X5_nextOfWalk rfl rfl rfl (by decide +kernel) ⟨Nat.le_of_ble_eq_true rfl, Nat.le_of_ble_eq_true rfl⟩) hK hP hS (by decide) (show kd 46 = 5 by decide) (by decide) rfl rfl rfl hl.1 (Nat.le_of_ble_eq_true rfl) (Nat.le_of_ble_eq_true rfl) (Nat.le_of_ble_eq_true rfl) dX6_second_149 (fun H locs hP hS => ?_) rfl
        have hP : va_P D vwCl (VW K ad I35 G11 A36 L37) H := hP
        refine lv_iconst (v := (-1)) hx hb dX6_second_152 (by decide) ?_
        refine lv_icmp_ne (tgt := 162) hx hb dX6_second_153 (by decide) (fun c_40 => ?_) (fun c_40 => ?_)
        · have h := iN c_40 h
          refine lv_ldcw (v := (-1000001)) hx hb hown (hts (.constant RX6 284 (-1000001)) (by decide +kernel)) dX6_second_162 ?_
          exact W.iret (v := (-1000001)) hx hb hr (fun t9 ht9 hW9 => ⟨⟨(-1000001), (I35, G11, A36, L37), rfl, by cases h; exact ⟨rfl, rfl⟩, by rw [ht9]; exact hP, va_K.moved hW9.alike hK⟩, hS.F ht9⟩) hS.2.2 dX6_second_165
        · have h := ip c_40 h
          refine lv_ldcw (v := (-1000000)) hx hb hown (hts (.constant RX6 269 (-1000000)) (by decide +kernel)) dX6_second_156 ?_
          refine lv_goto (tgt := 165) hx hb dX6_second_159 (by decide) ?_
          exact W.iret (v := (-1000000)) hx hb hr (fun t9 ht9 hW9 => ⟨⟨(-1000000), (I35, G11, A36, L37), rfl, by cases h; exact ⟨rfl, rfl⟩, by rw [ht9]; exact hP, va_K.moved hW9.alike hK⟩, hS.F ht9⟩) hS.2.2 dX6_second_165
      have lp15 : ∀ (n : Nat) (v16 : Int32) (v17 : Int32) (I18 : Nat → Nat → Int32) (A19 : Nat → Nat → Int32) (L20 : Nat → Nat → Int64), f_X6_second_L50 G11 k21 k25 k34 n v16 v17 I18 A19 L20 = some (r0, I0, G0, A0, L0) → ∀ (H : Heap) (locs : List Loc), va_P D vwCl (VW K ad I18 G11 A19 L20) H → va_S (vF ad s.heap.size) s.heap H locs → ∀ (ls : Array Slot), lv_has ls 6 [(4, .int v16), (3, .int v17), (0, .ref (ad 0))] → W p l e ({ frames := 6, cells := 0, slots := 0, locals := 211 }) s m ([.ref (ad 0), .int a1, .int a2] : List Value).toArray below meth c H locs 0 0 (MQ below (va_Qi (fun (r : Int32) (u : Mem) => r = r0 ∧ u = (I0, G0, A0, L0)) (vB D K ad) (vF ad s.heap.size)) ([.ref (ad 0), .int a1, .int a2] : List Value).toArray s 0 0 (vF ad s.heap.size)) (F0 m 50 ls []) := by
        intro n
        induction n with
        | zero => intro v16 v17 I18 A19 L20 h; exact absurd h (by rw [f_X6_second_L50]; exact nofun)
        | succ n ih15 =>
          intro v16 v17 I18 A19 L20 h H locs hP hS ls hl
          rw [f_X6_second_L50] at h
          refine lv_iload hx hb dX6_second_50 (lv_at hl 0 rfl) ?_
          refine lv_sipush (v := 250) hx hb dX6_second_52 (by decide) ?_
          refine lv_icmp_ge (tgt := 145) hx hb dX6_second_55 (by decide) (fun c_41 => ?_) (fun c_41 => ?_)
          · have h := iN (Int32.not_lt.mpr c_41) h
            exact kk34 I18 A19 L20 h _ _ hP hS ls (lv_sub hl [2] rfl)
          · have h := ip (Int32.not_le.mp c_41) h
            refine lv_aload_n hx hb dX6_second_58 rfl (lv_at hl 2 rfl) ?_
            refine vgC hx hb hts hi6 hown hK hP (0) (by decide) (show kd 0 = 6 by decide) (C := RX6) (T := TX6) (N := 18) rfl 12 (by decide) (by decide) (by decide) (by decide) (46) rfl (hts (.fieldLink RX6 86 "CrateHelpers" "secondTree" "LCrateHelpers$Tree;") (by decide +kernel)) (fun _ h9 => h9) dX6_second_59 ?_
            obtain ⟨r42, hc43, h⟩ := Option.bind_eq_some_iff.mp h
            refine ecV (As := []) (rest := []) ⟨hx, hb, hml, hown, hts⟩ (e_X5_nextOfWalk l D K ad hap0 46 I18 G11 A19 L20 r42 hc43) (cwV 0 hts gX6_second_X5_nextOfWalk rfl rfl rfl (by decide +kernel) ⟨Nat.le_of_ble_eq_true rfl, Nat.le_of_ble_eq_true rfl⟩) hK hP hS (by decide) (show kd 46 = 5 by decide) (by decide) rfl rfl rfl hl.1 (Nat.le_of_ble_eq_true rfl) (Nat.le_of_ble_eq_true rfl) (Nat.le_of_ble_eq_true rfl) dX6_second_62 (fun H locs hP hS => ?_) rfl
            have hP : va_P D vwCl (VW K ad I18 G11 A19 L20) H := hP
            refine lv_istore (lv' := [(5, .int r42), (4, .int v16), (3, .int v17), (0, .ref (ad 0))]) hx hb dX6_second_65 hl (by decide) rfl (fun ls hl => ?_)
            refine lv_iload hx hb dX6_second_67 (lv_at hl 0 rfl) ?_
            refine lv_iconst (v := (-1)) hx hb dX6_second_69 (by decide) ?_
            refine lv_icmp_ne (tgt := 77) hx hb dX6_second_70 (by decide) (fun c_44 => ?_) (fun c_44 => ?_)
            · have h := iN c_44 h
              refine lv_aload_n hx hb dX6_second_77 rfl (lv_at hl 3 rfl) ?_
              refine vgC hx hb hts hi6 hown hK hP (0) (by decide) (show kd 0 = 6 by decide) (C := RX6) (T := TX6) (N := 18) rfl 12 (by decide) (by decide) (by decide) (by decide) (46) rfl (hts (.fieldLink RX6 86 "CrateHelpers" "secondTree" "LCrateHelpers$Tree;") (by decide +kernel)) (fun _ h9 => h9) dX6_second_78 ?_
              refine lv_iload hx hb dX6_second_81 (lv_at hl 0 rfl) ?_
              refine lv_iconst (v := 0) hx hb dX6_second_83 (by decide) ?_
              obtain ⟨⟨I45, A46, L47⟩, hc48, h⟩ := Option.bind_eq_some_iff.mp h
              refine ecVv (As := [.int r42, .int 0]) (rest := []) ⟨hx, hb, hml, hown, hts⟩ (e_X5_finish l D K ad hap0 46 r42 0 I18 G11 A19 L20 I45 A46 L47 hc48) (cwV 2 hts gX6_second_X5_finish rfl rfl rfl (by decide +kernel) ⟨Nat.le_of_ble_eq_true rfl, Nat.le_of_ble_eq_true rfl⟩) hK hP hS (by decide) (show kd 46 = 5 by decide) (by decide) rfl rfl rfl hl.1 (Nat.le_of_ble_eq_true rfl) (Nat.le_of_ble_eq_true rfl) (Nat.le_of_ble_eq_true rfl) dX6_second_84 (fun H locs hP hS => ?_) rfl
              have hP : va_P D vwCl (VW K ad I45 G11 A46 L47) H := hP
              refine lv_aload_n hx hb dX6_second_87 rfl (lv_at hl 3 rfl) ?_
              refine vgC hx hb hts hi6 hown hK hP (0) (by decide) (show kd 0 = 6 by decide) (C := RX6) (T := TX6) (N := 18) rfl 12 (by decide) (by decide) (by decide) (by decide) (46) rfl (hts (.fieldLink RX6 86 "CrateHelpers" "secondTree" "LCrateHelpers$Tree;") (by decide +kernel)) (fun _ h9 => h9) dX6_second_88 ?_
              refine lv_iload hx hb dX6_second_91 (lv_at hl 0 rfl) ?_
              obtain ⟨⟨I49, A50⟩, hc51, h⟩ := Option.bind_eq_some_iff.mp h
              refine ecVv (As := [.int r42]) (rest := []) ⟨hx, hb, hml, hown, hts⟩ (e_X5_take l D K ad hap0 46 r42 I45 G11 A46 L47 I49 A50 hc51) (cwV 1 hts gX6_second_X5_take rfl rfl rfl (by decide +kernel) ⟨Nat.le_of_ble_eq_true rfl, Nat.le_of_ble_eq_true rfl⟩) hK hP hS (by decide) (show kd 46 = 5 by decide) (by decide) rfl rfl rfl hl.1 (Nat.le_of_ble_eq_true rfl) (Nat.le_of_ble_eq_true rfl) (Nat.le_of_ble_eq_true rfl) dX6_second_93 (fun H locs hP hS => ?_) rfl
              have hP : va_P D vwCl (VW K ad I49 G11 A50 L47) H := hP
              refine lv_aload_n hx hb dX6_second_96 rfl (lv_at hl 3 rfl) ?_
              refine vgC hx hb hts hi6 hown hK hP (0) (by decide) (show kd 0 = 6 by decide) (C := RX6) (T := TX6) (N := 18) rfl 12 (by decide) (by decide) (by decide) (by decide) (46) rfl (hts (.fieldLink RX6 86 "CrateHelpers" "secondTree" "LCrateHelpers$Tree;") (by decide +kernel)) (fun _ h9 => h9) dX6_second_97 ?_
              refine lv_iload hx hb dX6_second_100 (lv_at hl 0 rfl) ?_
              obtain ⟨r52, hc53, h⟩ := Option.bind_eq_some_iff.mp h
              refine ecV (As := [.int r42]) (rest := []) ⟨hx, hb, hml, hown, hts⟩ (e_X5_isFull l D K ad hap0 46 r42 I49 G11 A50 L47 r52 hc53) (cwV 1 hts gX6_second_X5_isFull rfl rfl rfl (by decide +kernel) ⟨Nat.le_of_ble_eq_true rfl, Nat.le_of_ble_eq_true rfl⟩) hK hP hS (by decide) (show kd 46 = 5 by decide) (by decide) rfl rfl rfl hl.1 (Nat.le_of_ble_eq_true rfl) (Nat.le_of_ble_eq_true rfl) (Nat.le_of_ble_eq_true rfl) dX6_second_102 (fun H locs hP hS => ?_) rfl
              have hP : va_P D vwCl (VW K ad I49 G11 A50 L47) H := hP
              refine lv_if_eq (tgt := 139) hx hb dX6_second_105 (by decide) (fun c_54 => ?_) (fun c_54 => ?_)
              · have h := ip c_54 h
                refine lv_iinc (v := (v16 + 1)) (lv' := [(4, .int (v16 + 1)), (5, .int r42), (3, .int v17), (0, .ref (ad 0))]) hx hb dX6_second_139 hl (k := 1) rfl rfl (by decide) rfl (fun ls hl => ?_)
                refine lv_goto (tgt := 50) hx hb dX6_second_142 (by decide) ?_
                exact ih15 (v16 + 1) v17 I49 A50 L47 h _ _ hP hS ls (lv_sub hl [0, 2, 3] rfl)
              · have h := iN c_54 h
                refine lv_iload_n hx hb dX6_second_108 rfl (lv_at hl 2 rfl) ?_
                refine lv_if_ne (tgt := 136) hx hb dX6_second_109 (by decide) (fun c_55 => ?_) (fun c_55 => ?_)
                · have h := iN c_55 h
                  refine lv_iinc (v := (v17 + (-1))) (lv' := [(3, .int (v17 + (-1))), (5, .int r42), (4, .int v16), (0, .ref (ad 0))]) hx hb dX6_second_136 hl (k := 2) rfl rfl (by decide) rfl (fun ls hl => ?_)
                  refine lv_iinc (v := (v16 + 1)) (lv' := [(4, .int (v16 + 1)), (3, .int (v17 + (-1))), (5, .int r42), (0, .ref (ad 0))]) hx hb dX6_second_139 hl (k := 2) rfl rfl (by decide) rfl (fun ls hl => ?_)
                  refine lv_goto (tgt := 50) hx hb dX6_second_142 (by decide) ?_
                  exact ih15 (v16 + 1) (v17 + (-1)) I49 A50 L47 h _ _ hP hS ls (lv_sub hl [0, 1, 3] rfl)
                · have h := ip c_55 h
                  exact kk25 r42 I49 A50 L47 h _ _ hP hS ls (lv_sub hl [3, 0] rfl)
            · have h := ip c_44 h
              exact kk21 I18 A19 L20 h _ _ hP hS ls (lv_sub hl [] rfl)
      exact lp15 FU 0 a2 I10 A12 L13 h _ _ hP hS ls (lv_sub hl [0, 1, 2] rfl)
    · have h := ip c_6 h
      refine lv_ldcw (v := (-1000002)) hx hb hown (hts (.constant RX6 261 (-1000002)) (by decide +kernel)) dX6_second_18 ?_
      exact W.iret (v := (-1000002)) hx hb hr (fun t9 ht9 hW9 => ⟨⟨(-1000002), (I, G, A, L), rfl, by cases h; exact ⟨rfl, rfl⟩, by rw [ht9]; exact hP, va_K.moved hW9.alike hK⟩, hS.F ht9⟩) hS.2.2 dX6_second_21
set_option maxHeartbeats 4000000 in
set_option maxRecDepth 100000 in
theorem e_X6_solve (l : Launch) (D : va_G) (K : Nat → ClassId) (ad : Nat → Nat) (hap0 : apart ad (fun _ => True)) (a1 : Int32) (a2 : Int32) (I : Nat → Nat → Int32) (G : Nat → Nat → Nat) (A : Nat → Nat → Int32) (L : Nat → Nat → Int64) (r0 : Int32) (I0 : Nat → Nat → Int32) (G0 : Nat → Nat → Nat) (A0 : Nat → Nat → Int32) (L0 : Nat → Nat → Int64) (h : f_X6_solve I G A L a1 a2 = some (r0, I0, G0, A0, L0)) : Ci l D K ad yX6_solve wsX6_solve 7 235 [.ref (ad 0), .int a1, .int a2] (I, G, A, L) (fun (r : Int32) (u : Mem) => r = r0 ∧ u = (I0, G0, A0, L0)) := by
  intro sz
  refine Met.ofW (cc := cX6_solve) (maxL := 5) (ret := (some .int)) (by decide) rfl ?_
  intro p e s m args below meth c s₁ Bd hml hv0
  obtain ⟨rfl, hsz, hP, hK⟩ := hv0
  have hx := Bd.exec
  have hb := Bd.bytes
  have hr := Bd.returns
  have hts := atoms_spec (ws := wsX6_solve) Bd.pre
  have hown : s.vm.findClass RX6 = some m.cls := findClass_of_methodNamed Bd.named
  have hlocks := Bd.notSynchronized
  have hi6 : ∀ w ∈ u_ws RX6 TX6 18, w ∈ wsX6_solve := fun w h => List.mem_cons_of_mem _ (List.mem_append_left _ (List.mem_append_left _ (List.mem_append_left _ (List.mem_append_left _ (List.mem_append_left _ (List.mem_append_left _ (List.mem_append_right _ h)))))))
  have hi3 : ∀ w ∈ u_ws RX3 TX3 6, w ∈ wsX6_solve := fun w h => List.mem_cons_of_mem _ (List.mem_append_left _ (List.mem_append_left _ (List.mem_append_left _ (List.mem_append_left _ (List.mem_append_left _ (List.mem_append_right _ h))))))
  have hi4 : ∀ w ∈ u_ws RX4 TX4 7, w ∈ wsX6_solve := fun w h => List.mem_cons_of_mem _ (List.mem_append_left _ (List.mem_append_left _ (List.mem_append_left _ (List.mem_append_left _ (List.mem_append_right _ h)))))
  have hi5 : ∀ w ∈ u_ws RX5 TX5 16, w ∈ wsX6_solve := fun w h => List.mem_cons_of_mem _ (List.mem_append_left _ (List.mem_append_left _ (List.mem_append_left _ (List.mem_append_right _ h))))
  have hi1 : ∀ w ∈ u_ws RX1 TX1 9, w ∈ wsX6_solve := fun w h => List.mem_cons_of_mem _ (List.mem_append_left _ (List.mem_append_left _ (List.mem_append_right _ h)))
  have hi0 : ∀ w ∈ u_ws RX0 TX0 3, w ∈ wsX6_solve := fun w h => List.mem_cons_of_mem _ (List.mem_append_left _ (List.mem_append_right _ h))
  have hi2 : ∀ w ∈ u_ws RX2 TX2 7, w ∈ wsX6_solve := fun w h => List.mem_cons_of_mem _ (List.mem_append_right _ h)
  subst hsz
  have hap := vF_ap hap0 s.heap.size
  have hS : va_S (vF ad s.heap.size) s.heap s.heap [] := va_S.rf
  have hP : va_P D vwCl (VW K ad I G A L) s.heap := hP
  have hl := lv_entry ([.ref (ad 0), .int a1, .int a2]) (n := 5) (Nat.le_of_ble_eq_true rfl)
  rw [lg_entry_eq]
  generalize (lg_sl ([.ref (ad 0), .int a1, .int a2]) ++ List.replicate (5 - (lg_sl ([.ref (ad 0), .int a1, .int a2])).length) Slot.unset).toArray = ls at hl ⊢
  have hl : lv_has ls 5 [(0, .ref (ad 0)), (1, .int a1), (2, .int a2)] := hl
  rw [f_X6_solve] at h
  refine lv_aload_n hx hb dX6_solve_0 rfl (lv_at hl 0 rfl) ?_
  refine lv_iload_n hx hb dX6_solve_1 rfl (lv_at hl 1 rfl) ?_
  obtain ⟨r1, hc2, h⟩ := Option.bind_eq_some_iff.mp h
  refine ecV (As := [.int a1]) (rest := []) ⟨hx, hb, hml, hown, hts⟩ (e_X6_isProblem l D K ad hap0 a1 I G A L r1 hc2) (cwV 1 hts gX6_solve_X6_isProblem rfl rfl rfl (by decide +kernel) ⟨Nat.le_of_ble_eq_true rfl, Nat.le_of_ble_eq_true rfl⟩) hK hP hS (by decide) (show kd 0 = 6 by decide) (by decide) rfl rfl rfl hl.1 (Nat.le_of_ble_eq_true rfl) (Nat.le_of_ble_eq_true rfl) (Nat.le_of_ble_eq_true rfl) dX6_solve_2 (fun H locs hP hS => ?_) rfl
  have hP : va_P D vwCl (VW K ad I G A L) H := hP
  refine lv_if_eq (tgt := 19) hx hb dX6_solve_5 (by decide) (fun c_3 => ?_) (fun c_3 => ?_)
  · have h := ip c_3 h
    refine lv_iconst (v := (-1)) hx hb dX6_solve_19 (by decide) ?_
    exact W.iret (v := (-1)) hx hb hr (fun t9 ht9 hW9 => ⟨⟨(-1), (I, G, A, L), rfl, by cases h; exact ⟨rfl, rfl⟩, by rw [ht9]; exact hP, va_K.moved hW9.alike hK⟩, hS.F ht9⟩) hS.2.2 dX6_solve_20
  · have h := iN c_3 h
    refine lv_iload_n hx hb dX6_solve_8 rfl (lv_at hl 2 rfl) ?_
    refine lv_iconst (v := 1) hx hb dX6_solve_9 (by decide) ?_
    refine lv_sipush (v := 500) hx hb dX6_solve_10 (by decide) ?_
    obtain ⟨r4, hc5, h⟩ := Option.bind_eq_some_iff.mp h
    refine ecS (As := [.int a2, .int 1, .int 500]) (rest := []) ⟨hx, hb, hml, hown, hts⟩ (e_X6_isWithin l D K ad hap0 a2 1 500 I G A L r4 hc5) (va_cwS 3 hts gX6_solve_X6_isWithin rfl rfl rfl (by decide +kernel) ⟨Nat.le_of_ble_eq_true rfl, Nat.le_of_ble_eq_true rfl⟩) hK hP hS rfl hl.1 (Nat.le_of_ble_eq_true rfl) (Nat.le_of_ble_eq_true rfl) (Nat.le_of_ble_eq_true rfl) dX6_solve_13 (fun H locs hP hS => ?_) rfl
    have hP : va_P D vwCl (VW K ad I G A L) H := hP
    refine lv_if_ne (tgt := 21) hx hb dX6_solve_16 (by decide) (fun c_6 => ?_) (fun c_6 => ?_)
    · have h := iN c_6 h
      refine lv_aload_n hx hb dX6_solve_21 rfl (lv_at hl 0 rfl) ?_
      refine vgI hx hb hts hi6 hown hK hP (0) (by decide) (show kd 0 = 6 by decide) (C := RX6) (T := TX6) (N := 18) rfl 5 (by decide) (by decide) (by decide) (by decide) (hts (.fieldLink RX6 29 "CrateHelpers" "underWay" "I") (by decide +kernel)) (fun _ h9 => h9) dX6_solve_22 ?_
      refine lv_bipush (v := (-9)) hx hb dX6_solve_25 (by decide) ?_
      obtain ⟨j8, ej8, h⟩ := bd_e h
      have kj8 : ∀ (_ : Unit), j8 () = some (r0, I0, G0, A0, L0) → ∀ (H : Heap) (locs : List Loc), va_P D vwCl (VW K ad I G A L) H → va_S (vF ad s.heap.size) s.heap H locs → ∀ (ls : Array Slot), lv_has ls 5 [(0, .ref (ad 0)), (1, .int a1), (2, .int a2)] → W p l e ({ frames := 7, cells := 0, slots := 0, locals := 235 }) s m ([.ref (ad 0), .int a1, .int a2] : List Value).toArray below meth c H locs 0 0 (MQ below (va_Qi (fun (r : Int32) (u : Mem) => r = r0 ∧ u = (I0, G0, A0, L0)) (vB D K ad) (vF ad s.heap.size)) ([.ref (ad 0), .int a1, .int a2] : List Value).toArray s 0 0 (vF ad s.heap.size)) (F0 m 41 ls []) := by
        intro _ h H locs hP hS ls hl
        subst ej8
        refine lv_iconst (v := 0) hx hb dX6_solve_41 (by decide) ?_
        refine lv_istore_n (lv' := [(3, .int 0), (0, .ref (ad 0)), (1, .int a1), (2, .int a2)]) hx hb dX6_solve_42 rfl hl (by decide) rfl (fun ls hl => ?_)
        refine lv_aload_n hx hb dX6_solve_43 rfl (lv_at hl 1 rfl) ?_
        refine vgI hx hb hts hi6 hown hK hP (0) (by decide) (show kd 0 = 6 by decide) (C := RX6) (T := TX6) (N := 18) rfl 5 (by decide) (by decide) (by decide) (by decide) (hts (.fieldLink RX6 29 "CrateHelpers" "underWay" "I") (by decide +kernel)) (fun _ h9 => h9) dX6_solve_44 ?_
        refine lv_bipush (v := (-9)) hx hb dX6_solve_47 (by decide) ?_
        obtain ⟨j22, ej22, h⟩ := bd_e h
        have kj22 : ∀ (v17 : Int32) (I18 : Nat → Nat → Int32) (G19 : Nat → Nat → Nat) (A20 : Nat → Nat → Int32) (L21 : Nat → Nat → Int64), j22 v17 I18 G19 A20 L21 = some (r0, I0, G0, A0, L0) → ∀ (H : Heap) (locs : List Loc), va_P D vwCl (VW K ad I18 G19 A20 L21) H → va_S (vF ad s.heap.size) s.heap H locs → ∀ (ls : Array Slot), lv_has ls 5 [(3, .int v17), (0, .ref (ad 0)), (2, .int a2)] → W p l e ({ frames := 7, cells := 0, slots := 0, locals := 235 }) s m ([.ref (ad 0), .int a1, .int a2] : List Value).toArray below meth c H locs 0 0 (MQ below (va_Qi (fun (r : Int32) (u : Mem) => r = r0 ∧ u = (I0, G0, A0, L0)) (vB D K ad) (vF ad s.heap.size)) ([.ref (ad 0), .int a1, .int a2] : List Value).toArray s 0 0 (vF ad s.heap.size)) (F0 m 79 ls []) := by
          intro v17 I18 G19 A20 L21 h H locs hP hS ls hl
          subst ej22
          refine lv_iconst (v := 0) hx hb dX6_solve_79 (by decide) ?_
          refine lv_istore (lv' := [(4, .int 0), (3, .int v17), (0, .ref (ad 0)), (2, .int a2)]) hx hb dX6_solve_80 hl (by decide) rfl (fun ls hl => ?_)
          obtain ⟨k29, ek29, h⟩ := bd_e h
          have kk29 : ∀ (v30 : Int32) (I31 : Nat → Nat → Int32) (A32 : Nat → Nat → Int32) (L33 : Nat → Nat → Int64), k29 v30 I31 A32 L33 = some (r0, I0, G0, A0, L0) → ∀ (H : Heap) (locs : List Loc), va_P D vwCl (VW K ad I31 G19 A32 L33) H → va_S (vF ad s.heap.size) s.heap H locs → ∀ (ls : Array Slot), lv_has ls 5 [(0, .ref (ad 0)), (3, .int v30)] → W p l e ({ frames := 7, cells := 0, slots := 0, locals := 235 }) s m ([.ref (ad 0), .int a1, .int a2] : List Value).toArray below meth c H locs 0 0 (MQ below (va_Qi (fun (r : Int32) (u : Mem) => r = r0 ∧ u = (I0, G0, A0, L0)) (vB D K ad) (vF ad s.heap.size)) ([.ref (ad 0), .int a1, .int a2] : List Value).toArray s 0 0 (vF ad s.heap.size)) (F0 m 106 ls []) := by
            intro v30 I31 A32 L33 h H locs hP hS ls hl
            subst ek29
            refine lv_iload_n hx hb dX6_solve_106 rfl (lv_at hl 1 rfl) ?_
            refine lv_if_eq (tgt := 115) hx hb dX6_solve_107 (by decide) (fun c_34 => ?_) (fun c_34 => ?_)
            · have h := ip c_34 h
              refine lv_iload_n hx hb dX6_solve_115 rfl (lv_at hl 1 rfl) ?_
              exact W.iret (v := v30) hx hb hr (fun t9 ht9 hW9 => ⟨⟨v30, (I31, G19, A32, L33), rfl, by cases h; exact ⟨rfl, rfl⟩, by rw [ht9]; exact hP, va_K.moved hW9.alike hK⟩, hS.F ht9⟩) hS.2.2 dX6_solve_116
            · have h := iN c_34 h
              refine lv_aload_n hx hb dX6_solve_110 rfl (lv_at hl 0 rfl) ?_
              refine lv_iload_n hx hb dX6_solve_111 rfl (lv_at hl 1 rfl) ?_
              obtain ⟨⟨I35, G36, A37⟩, hc38, h⟩ := Option.bind_eq_some_iff.mp h
              refine ecVv (As := [.int v30]) (rest := []) ⟨hx, hb, hml, hown, hts⟩ (e_X6_endSolving l D K ad hap0 v30 I31 G19 A32 L33 I35 G36 A37 hc38) (cwV 1 hts gX6_solve_X6_endSolving rfl rfl rfl (by decide +kernel) ⟨Nat.le_of_ble_eq_true rfl, Nat.le_of_ble_eq_true rfl⟩) hK hP hS (by decide) (show kd 0 = 6 by decide) (by decide) rfl rfl rfl hl.1 (Nat.le_of_ble_eq_true rfl) (Nat.le_of_ble_eq_true rfl) (Nat.le_of_ble_eq_true rfl) dX6_solve_112 (fun H locs hP hS => ?_) rfl
              have hP : va_P D vwCl (VW K ad I35 G36 A37 L33) H := hP
              refine lv_iload_n hx hb dX6_solve_115 rfl (lv_at hl 1 rfl) ?_
              exact W.iret (v := v30) hx hb hr (fun t9 ht9 hW9 => ⟨⟨v30, (I35, G36, A37, L33), rfl, by cases h; exact ⟨rfl, rfl⟩, by rw [ht9]; exact hP, va_K.moved hW9.alike hK⟩, hS.F ht9⟩) hS.2.2 dX6_solve_116
          have lp23 : ∀ (n : Nat) (v24 : Int32) (v25 : Int32) (I26 : Nat → Nat → Int32) (A27 : Nat → Nat → Int32) (L28 : Nat → Nat → Int64), f_X6_solve_L82 a2 G19 k29 n v24 v25 I26 A27 L28 = some (r0, I0, G0, A0, L0) → ∀ (H : Heap) (locs : List Loc), va_P D vwCl (VW K ad I26 G19 A27 L28) H → va_S (vF ad s.heap.size) s.heap H locs → ∀ (ls : Array Slot), lv_has ls 5 [(4, .int v24), (3, .int v25), (0, .ref (ad 0)), (2, .int a2)] → W p l e ({ frames := 7, cells := 0, slots := 0, locals := 235 }) s m ([.ref (ad 0), .int a1, .int a2] : List Value).toArray below meth c H locs 0 0 (MQ below (va_Qi (fun (r : Int32) (u : Mem) => r = r0 ∧ u = (I0, G0, A0, L0)) (vB D K ad) (vF ad s.heap.size)) ([.ref (ad 0), .int a1, .int a2] : List Value).toArray s 0 0 (vF ad s.heap.size)) (F0 m 82 ls []) := by
            intro n
            induction n with
            | zero => intro v24 v25 I26 A27 L28 h; exact absurd h (by rw [f_X6_solve_L82]; exact nofun)
            | succ n ih23 =>
              intro v24 v25 I26 A27 L28 h H locs hP hS ls hl
              rw [f_X6_solve_L82] at h
              refine lv_iload hx hb dX6_solve_82 (lv_at hl 0 rfl) ?_
              refine lv_iload_n hx hb dX6_solve_84 rfl (lv_at hl 3 rfl) ?_
              refine lv_icmp_ge (tgt := 106) hx hb dX6_solve_85 (by decide) (fun c_39 => ?_) (fun c_39 => ?_)
              · have h := iN (Int32.not_lt.mpr c_39) h
                exact kk29 v25 I26 A27 L28 h _ _ hP hS ls (lv_sub hl [2, 1] rfl)
              · have h := ip (Int32.not_le.mp c_39) h
                refine lv_iload_n hx hb dX6_solve_88 rfl (lv_at hl 1 rfl) ?_
                refine lv_if_ne (tgt := 106) hx hb dX6_solve_89 (by decide) (fun c_40 => ?_) (fun c_40 => ?_)
                · have h := iN c_40 h
                  exact kk29 v25 I26 A27 L28 h _ _ hP hS ls (lv_sub hl [2, 1] rfl)
                · have h := ip c_40 h
                  refine lv_aload_n hx hb dX6_solve_92 rfl (lv_at hl 2 rfl) ?_
                  refine vgC hx hb hts hi6 hown hK hP (0) (by decide) (show kd 0 = 6 by decide) (C := RX6) (T := TX6) (N := 18) rfl 4 (by decide) (by decide) (by decide) (by decide) (14) rfl (hts (.fieldLink RX6 73 "CrateHelpers" "solving" "LCrateHelpers$Solving;") (by decide +kernel)) (fun _ h9 => h9) dX6_solve_93 ?_
                  obtain ⟨⟨r41, I42, A43, L44⟩, hc45, h⟩ := Option.bind_eq_some_iff.mp h
                  refine ecV (As := []) (rest := []) ⟨hx, hb, hml, hown, hts⟩ (e_X3_takeTurn l D K ad hap0  I26 G19 A27 L28 r41 I42 A43 L44 hc45) (cwV 0 hts gX6_solve_X3_takeTurn rfl rfl rfl (by decide +kernel) ⟨Nat.le_of_ble_eq_true rfl, Nat.le_of_ble_eq_true rfl⟩) hK hP hS (by decide) (show kd 14 = 3 by decide) (by decide) rfl rfl rfl hl.1 (Nat.le_of_ble_eq_true rfl) (Nat.le_of_ble_eq_true rfl) (Nat.le_of_ble_eq_true rfl) dX6_solve_96 (fun H locs hP hS => ?_) rfl
                  have hP : va_P D vwCl (VW K ad I42 G19 A43 L44) H := hP
                  refine lv_istore_n (lv' := [(3, .int r41), (4, .int v24), (0, .ref (ad 0)), (2, .int a2)]) hx hb dX6_solve_99 rfl hl (by decide) rfl (fun ls hl => ?_)
                  refine lv_iinc (v := (v24 + 1)) (lv' := [(4, .int (v24 + 1)), (3, .int r41), (0, .ref (ad 0)), (2, .int a2)]) hx hb dX6_solve_100 hl (k := 1) rfl rfl (by decide) rfl (fun ls hl => ?_)
                  refine lv_goto (tgt := 82) hx hb dX6_solve_103 (by decide) ?_
                  exact ih23 (v24 + 1) r41 I42 A43 L44 h _ _ hP hS ls (lv_sub hl [0, 1, 2, 3] rfl)
          exact lp23 FU 0 v17 I18 A20 L21 h _ _ hP hS ls (lv_sub hl [0, 1, 2, 3] rfl)
        refine lv_icmp_ne (tgt := 79) hx hb dX6_solve_49 (by decide) (fun c_46 => ?_) (fun c_46 => ?_)
        · have h := iN c_46 h
          exact kj22 0 I G A L h _ _ hP hS ls (lv_sub hl [0, 1, 3] rfl)
        · have h := ip c_46 h
          refine lv_aload_n hx hb dX6_solve_52 rfl (lv_at hl 1 rfl) ?_
          refine lv_iload_n hx hb dX6_solve_53 rfl (lv_at hl 2 rfl) ?_
          refine vpI (v := a1) (ty := .int) hx hb hts hi6 tyX6 tyX6_ok nmX6 hown hK hP hap hS (0) (by decide) (show kd 0 = 6 by decide) (C := RX6) (T := TX6) (N := 18) rfl 5 (by decide) (by decide) (by decide) (by decide) (hts (.fieldLink RX6 29 "CrateHelpers" "underWay" "I") (by decide +kernel)) (fun _ h9 => h9) rfl (by decide +kernel) rfl rfl dX6_solve_54 (fun H locs hP hS => ?_)
          obtain ⟨I47, eI47, h⟩ := bd_e h
          rw [← eI47] at hP
          have hP : va_P D vwCl (VW K ad I47 G A L) H := hP
          refine lv_aload_n hx hb dX6_solve_57 rfl (lv_at hl 1 rfl) ?_
          refine vgC hx hb hts hi6 hown hK hP (0) (by decide) (show kd 0 = 6 by decide) (C := RX6) (T := TX6) (N := 18) rfl 4 (by decide) (by decide) (by decide) (by decide) (14) rfl (hts (.fieldLink RX6 73 "CrateHelpers" "solving" "LCrateHelpers$Solving;") (by decide +kernel)) (fun _ h9 => h9) dX6_solve_58 ?_
          refine lv_aload_n hx hb dX6_solve_61 rfl (lv_at hl 1 rfl) ?_
          refine vgC hx hb hts hi6 hown hK hP (0) (by decide) (show kd 0 = 6 by decide) (C := RX6) (T := TX6) (N := 18) rfl 0 (by decide) (by decide) (by decide) (by decide) (1) rfl (hts (.fieldLink RX6 11 "CrateHelpers" "problems" "[LCrateHelpers$Problem;") (by decide +kernel)) (fun _ h9 => h9) dX6_solve_62 ?_
          refine lv_iload_n hx hb dX6_solve_65 rfl (lv_at hl 2 rfl) ?_
          obtain ⟨hn48, h⟩ := gk h
          refine xaald hx hb hK hP (1) (by decide) 5 13 (show kd 1 = 13 by decide) (by decide) rfl (by rw [show ln 1 = 5 by decide]; exact hn48) (58 + 52 * a1.toNatClampNeg) (drf13 ((show kd 1 = 13 by decide))) dX6_solve_66 ?_
          refine lv_aload_n hx hb dX6_solve_67 rfl (lv_at hl 1 rfl) ?_
          refine vgC hx hb hts hi6 hown hK hP (0) (by decide) (show kd 0 = 6 by decide) (C := RX6) (T := TX6) (N := 18) rfl 2 (by decide) (by decide) (by decide) (by decide) (2) rfl (hts (.fieldLink RX6 22 "CrateHelpers" "team" "LCrateHelpers$Team;") (by decide +kernel)) (fun _ h9 => h9) dX6_solve_68 ?_
          refine lv_aload_n hx hb dX6_solve_71 rfl (lv_at hl 1 rfl) ?_
          refine vgI hx hb hts hi6 hown hK hP (0) (by decide) (show kd 0 = 6 by decide) (C := RX6) (T := TX6) (N := 18) rfl 3 (by decide) (by decide) (by decide) (by decide) (hts (.fieldLink RX6 26 "CrateHelpers" "nodeLimit" "I") (by decide +kernel)) (fun _ h9 => h9) dX6_solve_72 ?_
          obtain ⟨⟨r49, I50, G51, A52, L53⟩, hc54, h⟩ := Option.bind_eq_some_iff.mp h
          refine ecV (As := [.ref (ad (58 + 52 * a1.toNatClampNeg)), .ref (ad 2), .int (I47 0 3)]) (rest := []) ⟨hx, hb, hml, hown, hts⟩ (e_X3_begin l D K ad hap0 (58 + 52 * a1.toNatClampNeg) 2 (I47 0 3) I47 G A L r49 I50 G51 A52 L53 hc54) (cwV 3 hts gX6_solve_X3_begin rfl rfl rfl (by decide +kernel) ⟨Nat.le_of_ble_eq_true rfl, Nat.le_of_ble_eq_true rfl⟩) hK hP hS (by decide) (show kd 14 = 3 by decide) (by decide) rfl rfl rfl hl.1 (Nat.le_of_ble_eq_true rfl) (Nat.le_of_ble_eq_true rfl) (Nat.le_of_ble_eq_true rfl) dX6_solve_75 (fun H locs hP hS => ?_) rfl
          have hP : va_P D vwCl (VW K ad I50 G51 A52 L53) H := hP
          refine lv_istore_n (lv' := [(3, .int r49), (0, .ref (ad 0)), (1, .int a1), (2, .int a2)]) hx hb dX6_solve_78 rfl hl (by decide) rfl (fun ls hl => ?_)
          exact kj22 r49 I50 G51 A52 L53 h _ _ hP hS ls (lv_sub hl [0, 1, 3] rfl)
      refine lv_icmp_eq (tgt := 41) hx hb dX6_solve_27 (by decide) (fun c_55 => ?_) (fun c_55 => ?_)
      · have h := ip c_55 h
        exact kj8 () h _ _ hP hS ls (lv_sub hl [0, 1, 2] rfl)
      · have h := iN c_55 h
        refine lv_aload_n hx hb dX6_solve_30 rfl (lv_at hl 0 rfl) ?_
        refine vgI hx hb hts hi6 hown hK hP (0) (by decide) (show kd 0 = 6 by decide) (C := RX6) (T := TX6) (N := 18) rfl 5 (by decide) (by decide) (by decide) (by decide) (hts (.fieldLink RX6 29 "CrateHelpers" "underWay" "I") (by decide +kernel)) (fun _ h9 => h9) dX6_solve_31 ?_
        refine lv_iload_n hx hb dX6_solve_34 rfl (lv_at hl 1 rfl) ?_
        refine lv_icmp_eq (tgt := 41) hx hb dX6_solve_35 (by decide) (fun c_56 => ?_) (fun c_56 => ?_)
        · have h := ip c_56 h
          exact kj8 () h _ _ hP hS ls (lv_sub hl [0, 1, 2] rfl)
        · have h := iN c_56 h
          refine lv_bipush (v := (-2)) hx hb dX6_solve_38 (by decide) ?_
          exact W.iret (v := (-2)) hx hb hr (fun t9 ht9 hW9 => ⟨⟨(-2), (I, G, A, L), rfl, by cases h; exact ⟨rfl, rfl⟩, by rw [ht9]; exact hP, va_K.moved hW9.alike hK⟩, hS.F ht9⟩) hS.2.2 dX6_solve_40
    · have h := ip c_6 h
      refine lv_iconst (v := (-1)) hx hb dX6_solve_19 (by decide) ?_
      exact W.iret (v := (-1)) hx hb hr (fun t9 ht9 hW9 => ⟨⟨(-1), (I, G, A, L), rfl, by cases h; exact ⟨rfl, rfl⟩, by rw [ht9]; exact hP, va_K.moved hW9.alike hK⟩, hS.F ht9⟩) hS.2.2 dX6_solve_20
set_option maxHeartbeats 4000000 in
set_option maxRecDepth 100000 in
theorem e_X6_status (l : Launch) (D : va_G) (K : Nat → ClassId) (ad : Nat → Nat) (hap0 : apart ad (fun _ => True)) (I : Nat → Nat → Int32) (G : Nat → Nat → Nat) (A : Nat → Nat → Int32) (L : Nat → Nat → Int64) (r0 : Int32) (h : f_X6_status I = some r0) : Ci l D K ad yX6_status wsX6_status 0 0 [.ref (ad 0)] (I, G, A, L) (fun (r : Int32) (u : Mem) => r = r0 ∧ u = (I, G, A, L)) := by
  intro sz
  refine Met.ofW (cc := cX6_status) (maxL := 1) (ret := (some .int)) (by decide) rfl ?_
  intro p e s m args below meth c s₁ Bd hml hv0
  obtain ⟨rfl, hsz, hP, hK⟩ := hv0
  have hx := Bd.exec
  have hb := Bd.bytes
  have hr := Bd.returns
  have hts := atoms_spec (ws := wsX6_status) Bd.pre
  have hown : s.vm.findClass RX6 = some m.cls := findClass_of_methodNamed Bd.named
  have hlocks := Bd.notSynchronized
  have hi6 : ∀ w ∈ u_ws RX6 TX6 18, w ∈ wsX6_status := fun w h => List.mem_cons_of_mem _ (List.mem_append_right _ h)
  subst hsz
  have hap := vF_ap hap0 s.heap.size
  have hS : va_S (vF ad s.heap.size) s.heap s.heap [] := va_S.rf
  have hP : va_P D vwCl (VW K ad I G A L) s.heap := hP
  have hl := lv_entry ([.ref (ad 0)]) (n := 1) (Nat.le_of_ble_eq_true rfl)
  rw [lg_entry_eq]
  generalize (lg_sl ([.ref (ad 0)]) ++ List.replicate (1 - (lg_sl ([.ref (ad 0)])).length) Slot.unset).toArray = ls at hl ⊢
  have hl : lv_has ls 1 [(0, .ref (ad 0))] := hl
  rw [f_X6_status] at h
  refine lv_aload_n hx hb dX6_status_0 rfl (lv_at hl 0 rfl) ?_
  refine vgI hx hb hts hi6 hown hK hP (0) (by decide) (show kd 0 = 6 by decide) (C := RX6) (T := TX6) (N := 18) rfl 17 (by decide) (by decide) (by decide) (by decide) (hts (.fieldLink RX6 64 "CrateHelpers" "refusedBy" "I") (by decide +kernel)) (fun _ h9 => h9) dX6_status_1 ?_
  exact W.iret (v := (I 0 17)) hx hb hr (fun t9 ht9 hW9 => ⟨⟨(I 0 17), (I, G, A, L), rfl, by cases h; exact ⟨rfl, rfl⟩, by rw [ht9]; exact hP, va_K.moved hW9.alike hK⟩, hS.F ht9⟩) hS.2.2 dX6_status_4
set_option maxHeartbeats 4000000 in
set_option maxRecDepth 100000 in
theorem e_X6_told (l : Launch) (D : va_G) (K : Nat → ClassId) (ad : Nat → Nat) (hap0 : apart ad (fun _ => True)) (a1 : Int32) (a2 : Int32) (I : Nat → Nat → Int32) (G : Nat → Nat → Nat) (A : Nat → Nat → Int32) (L : Nat → Nat → Int64) (r0 : Int32) (h : f_X6_told I A a1 a2 = some r0) : Ci l D K ad yX6_told wsX6_told 2 49 [.ref (ad 0), .int a1, .int a2] (I, G, A, L) (fun (r : Int32) (u : Mem) => r = r0 ∧ u = (I, G, A, L)) := by
  intro sz
  refine Met.ofW (cc := cX6_told) (maxL := 4) (ret := (some .int)) (by decide) rfl ?_
  intro p e s m args below meth c s₁ Bd hml hv0
  obtain ⟨rfl, hsz, hP, hK⟩ := hv0
  have hx := Bd.exec
  have hb := Bd.bytes
  have hr := Bd.returns
  have hts := atoms_spec (ws := wsX6_told) Bd.pre
  have hown : s.vm.findClass RX6 = some m.cls := findClass_of_methodNamed Bd.named
  have hlocks := Bd.notSynchronized
  have hi6 : ∀ w ∈ u_ws RX6 TX6 18, w ∈ wsX6_told := fun w h => List.mem_cons_of_mem _ (List.mem_append_left _ (List.mem_append_right _ h))
  have hi1 : ∀ w ∈ u_ws RX1 TX1 9, w ∈ wsX6_told := fun w h => List.mem_cons_of_mem _ (List.mem_append_right _ h)
  subst hsz
  have hap := vF_ap hap0 s.heap.size
  have hS : va_S (vF ad s.heap.size) s.heap s.heap [] := va_S.rf
  have hP : va_P D vwCl (VW K ad I G A L) s.heap := hP
  have hl := lv_entry ([.ref (ad 0), .int a1, .int a2]) (n := 4) (Nat.le_of_ble_eq_true rfl)
  rw [lg_entry_eq]
  generalize (lg_sl ([.ref (ad 0), .int a1, .int a2]) ++ List.replicate (4 - (lg_sl ([.ref (ad 0), .int a1, .int a2])).length) Slot.unset).toArray = ls at hl ⊢
  have hl : lv_has ls 4 [(0, .ref (ad 0)), (1, .int a1), (2, .int a2)] := hl
  rw [f_X6_told] at h
  refine lv_aload_n hx hb dX6_told_0 rfl (lv_at hl 0 rfl) ?_
  refine lv_iload_n hx hb dX6_told_1 rfl (lv_at hl 1 rfl) ?_
  obtain ⟨r1, hc2, h⟩ := Option.bind_eq_some_iff.mp h
  refine ecV (As := [.int a1]) (rest := []) ⟨hx, hb, hml, hown, hts⟩ (e_X6_isProblem l D K ad hap0 a1 I G A L r1 hc2) (cwV 1 hts gX6_told_X6_isProblem rfl rfl rfl (by decide +kernel) ⟨Nat.le_of_ble_eq_true rfl, Nat.le_of_ble_eq_true rfl⟩) hK hP hS (by decide) (show kd 0 = 6 by decide) (by decide) rfl rfl rfl hl.1 (Nat.le_of_ble_eq_true rfl) (Nat.le_of_ble_eq_true rfl) (Nat.le_of_ble_eq_true rfl) dX6_told_2 (fun H locs hP hS => ?_) rfl
  have hP : va_P D vwCl (VW K ad I G A L) H := hP
  refine lv_if_eq (tgt := 17) hx hb dX6_told_5 (by decide) (fun c_3 => ?_) (fun c_3 => ?_)
  · have h := ip c_3 h
    refine lv_iconst (v := (-1)) hx hb dX6_told_17 (by decide) ?_
    exact W.iret (v := (-1)) hx hb hr (fun t9 ht9 hW9 => ⟨⟨(-1), (I, G, A, L), rfl, by cases h; exact ⟨rfl, rfl⟩, by rw [ht9]; exact hP, va_K.moved hW9.alike hK⟩, hS.F ht9⟩) hS.2.2 dX6_told_18
  · have h := iN c_3 h
    refine lv_iload_n hx hb dX6_told_8 rfl (lv_at hl 2 rfl) ?_
    refine lv_iconst (v := 0) hx hb dX6_told_9 (by decide) ?_
    refine lv_iconst (v := 5) hx hb dX6_told_10 (by decide) ?_
    obtain ⟨r4, hc5, h⟩ := Option.bind_eq_some_iff.mp h
    refine ecS (As := [.int a2, .int 0, .int 5]) (rest := []) ⟨hx, hb, hml, hown, hts⟩ (e_X6_isWithin l D K ad hap0 a2 0 5 I G A L r4 hc5) (va_cwS 3 hts gX6_told_X6_isWithin rfl rfl rfl (by decide +kernel) ⟨Nat.le_of_ble_eq_true rfl, Nat.le_of_ble_eq_true rfl⟩) hK hP hS rfl hl.1 (Nat.le_of_ble_eq_true rfl) (Nat.le_of_ble_eq_true rfl) (Nat.le_of_ble_eq_true rfl) dX6_told_11 (fun H locs hP hS => ?_) rfl
    have hP : va_P D vwCl (VW K ad I G A L) H := hP
    refine lv_if_ne (tgt := 19) hx hb dX6_told_14 (by decide) (fun c_6 => ?_) (fun c_6 => ?_)
    · have h := iN c_6 h
      refine lv_aload_n hx hb dX6_told_19 rfl (lv_at hl 0 rfl) ?_
      refine vgC hx hb hts hi6 hown hK hP (0) (by decide) (show kd 0 = 6 by decide) (C := RX6) (T := TX6) (N := 18) rfl 0 (by decide) (by decide) (by decide) (by decide) (1) rfl (hts (.fieldLink RX6 11 "CrateHelpers" "problems" "[LCrateHelpers$Problem;") (by decide +kernel)) (fun _ h9 => h9) dX6_told_20 ?_
      refine lv_iload_n hx hb dX6_told_23 rfl (lv_at hl 1 rfl) ?_
      obtain ⟨hn7, h⟩ := gk h
      refine xaald hx hb hK hP (1) (by decide) 5 13 (show kd 1 = 13 by decide) (by decide) rfl (by rw [show ln 1 = 5 by decide]; exact hn7) (58 + 52 * a1.toNatClampNeg) (drf13 ((show kd 1 = 13 by decide))) dX6_told_24 ?_
      refine lv_astore_n (lv' := [(3, .ref (ad (58 + 52 * a1.toNatClampNeg))), (0, .ref (ad 0)), (1, .int a1), (2, .int a2)]) hx hb dX6_told_25 rfl hl (by decide) rfl (fun ls hl => ?_)
      refine lv_aload_n hx hb dX6_told_26 rfl (lv_at hl 0 rfl) ?_
      obtain ⟨hk8, h⟩ := gk h
      refine vgI hx hb hts hi1 hown hK hP (58 + 52 * a1.toNatClampNeg) (s318 hk8.1) hk8.2 (C := RX1) (T := TX1) (N := 9) rfl 3 (by decide) (by decide) (by decide) (by decide) (hts (.fieldLink RX6 185 "CrateHelpers$Problem" "hasEnded" "Z") (by decide +kernel)) (fun _ h9 => h9) dX6_told_27 ?_
      refine lv_if_eq (tgt := 42) hx hb dX6_told_30 (by decide) (fun c_9 => ?_) (fun c_9 => ?_)
      · have h := ip c_9 h
        refine lv_bipush (v := (-9)) hx hb dX6_told_42 (by decide) ?_
        exact W.iret (v := (-9)) hx hb hr (fun t9 ht9 hW9 => ⟨⟨(-9), (I, G, A, L), rfl, by cases h; exact ⟨rfl, rfl⟩, by rw [ht9]; exact hP, va_K.moved hW9.alike hK⟩, hS.F ht9⟩) hS.2.2 dX6_told_44
      · have h := iN c_9 h
        refine lv_aload_n hx hb dX6_told_33 rfl (lv_at hl 0 rfl) ?_
        refine vgS hx hb hts hi1 hown hK hP (58 + 52 * a1.toNatClampNeg) (s318 hk8.1) hk8.2 (C := RX1) (T := TX1) (N := 9) rfl 8 (by decide) (by decide) (by decide) (by decide) (58 + 52 * a1.toNatClampNeg + 11) rfl (hts (.fieldLink RX6 189 "CrateHelpers$Problem" "outcome" "[I") (by decide +kernel)) (fun _ h9 => h9) dX6_told_34 ?_
        refine lv_iload_n hx hb dX6_told_37 rfl (lv_at hl 3 rfl) ?_
        obtain ⟨hk10, h⟩ := gk h
        obtain ⟨hn11, h⟩ := gk h
        refine xiald hx hb hK hP (58 + 52 * a1.toNatClampNeg + 11) (s318 hk10.1) hk10.2 hn11 dX6_told_38 ?_
        refine lv_goto (tgt := 44) hx hb dX6_told_39 (by decide) ?_
        exact W.iret (v := (A (58 + 52 * a1.toNatClampNeg + 11) a2.toNatClampNeg)) hx hb hr (fun t9 ht9 hW9 => ⟨⟨(A (58 + 52 * a1.toNatClampNeg + 11) a2.toNatClampNeg), (I, G, A, L), rfl, by cases h; exact ⟨rfl, rfl⟩, by rw [ht9]; exact hP, va_K.moved hW9.alike hK⟩, hS.F ht9⟩) hS.2.2 dX6_told_44
    · have h := ip c_6 h
      refine lv_iconst (v := (-1)) hx hb dX6_told_17 (by decide) ?_
      exact W.iret (v := (-1)) hx hb hr (fun t9 ht9 hW9 => ⟨⟨(-1), (I, G, A, L), rfl, by cases h; exact ⟨rfl, rfl⟩, by rw [ht9]; exact hP, va_K.moved hW9.alike hK⟩, hS.F ht9⟩) hS.2.2 dX6_told_18
set_option maxHeartbeats 4000000 in
set_option maxRecDepth 100000 in
theorem e_X6_turn (l : Launch) (D : va_G) (K : Nat → ClassId) (ad : Nat → Nat) (hap0 : apart ad (fun _ => True)) (a1 : Int32) (I : Nat → Nat → Int32) (G : Nat → Nat → Nat) (A : Nat → Nat → Int32) (L : Nat → Nat → Int64) (r0 : Int32) (I0 : Nat → Nat → Int32) (A0 : Nat → Nat → Int32) (h : f_X6_turn I A a1 = some (r0, I0, A0)) : Ci l D K ad yX6_turn wsX6_turn 1 25 [.ref (ad 0), .int a1] (I, G, A, L) (fun (r : Int32) (u : Mem) => r = r0 ∧ u = (I0, G, A0, L)) := by
  intro sz
  refine Met.ofW (cc := cX6_turn) (maxL := 2) (ret := (some .int)) (by decide) rfl ?_
  intro p e s m args below meth c s₁ Bd hml hv0
  obtain ⟨rfl, hsz, hP, hK⟩ := hv0
  have hx := Bd.exec
  have hb := Bd.bytes
  have hr := Bd.returns
  have hts := atoms_spec (ws := wsX6_turn) Bd.pre
  have hown : s.vm.findClass RX6 = some m.cls := findClass_of_methodNamed Bd.named
  have hlocks := Bd.notSynchronized
  have hi6 : ∀ w ∈ u_ws RX6 TX6 18, w ∈ wsX6_turn := fun w h => List.mem_cons_of_mem _ (List.mem_append_left _ (List.mem_append_right _ h))
  have hi4 : ∀ w ∈ u_ws RX4 TX4 7, w ∈ wsX6_turn := fun w h => List.mem_cons_of_mem _ (List.mem_append_right _ h)
  subst hsz
  have hap := vF_ap hap0 s.heap.size
  have hS : va_S (vF ad s.heap.size) s.heap s.heap [] := va_S.rf
  have hP : va_P D vwCl (VW K ad I G A L) s.heap := hP
  have hl := lv_entry ([.ref (ad 0), .int a1]) (n := 2) (Nat.le_of_ble_eq_true rfl)
  rw [lg_entry_eq]
  generalize (lg_sl ([.ref (ad 0), .int a1]) ++ List.replicate (2 - (lg_sl ([.ref (ad 0), .int a1])).length) Slot.unset).toArray = ls at hl ⊢
  have hl : lv_has ls 2 [(0, .ref (ad 0)), (1, .int a1)] := hl
  rw [f_X6_turn] at h
  refine lv_iload_n hx hb dX6_turn_0 rfl (lv_at hl 1 rfl) ?_
  refine lv_iconst (v := 0) hx hb dX6_turn_1 (by decide) ?_
  refine lv_iconst (v := 4) hx hb dX6_turn_2 (by decide) ?_
  obtain ⟨r1, hc2, h⟩ := Option.bind_eq_some_iff.mp h
  refine ecS (As := [.int a1, .int 0, .int 4]) (rest := []) ⟨hx, hb, hml, hown, hts⟩ (e_X6_isWithin l D K ad hap0 a1 0 4 I G A L r1 hc2) (va_cwS 3 hts gX6_turn_X6_isWithin rfl rfl rfl (by decide +kernel) ⟨Nat.le_of_ble_eq_true rfl, Nat.le_of_ble_eq_true rfl⟩) hK hP hS rfl hl.1 (Nat.le_of_ble_eq_true rfl) (Nat.le_of_ble_eq_true rfl) (Nat.le_of_ble_eq_true rfl) dX6_turn_3 (fun H locs hP hS => ?_) rfl
  have hP : va_P D vwCl (VW K ad I G A L) H := hP
  refine lv_if_ne (tgt := 11) hx hb dX6_turn_6 (by decide) (fun c_3 => ?_) (fun c_3 => ?_)
  · have h := iN c_3 h
    refine lv_aload_n hx hb dX6_turn_11 rfl (lv_at hl 0 rfl) ?_
    refine vgI hx hb hts hi6 hown hK hP (0) (by decide) (show kd 0 = 6 by decide) (C := RX6) (T := TX6) (N := 18) rfl 5 (by decide) (by decide) (by decide) (by decide) (hts (.fieldLink RX6 29 "CrateHelpers" "underWay" "I") (by decide +kernel)) (fun _ h9 => h9) dX6_turn_12 ?_
    refine lv_bipush (v := (-9)) hx hb dX6_turn_15 (by decide) ?_
    refine lv_icmp_eq (tgt := 23) hx hb dX6_turn_17 (by decide) (fun c_4 => ?_) (fun c_4 => ?_)
    · have h := ip c_4 h
      refine lv_aload_n hx hb dX6_turn_23 rfl (lv_at hl 0 rfl) ?_
      refine vgC hx hb hts hi6 hown hK hP (0) (by decide) (show kd 0 = 6 by decide) (C := RX6) (T := TX6) (N := 18) rfl 2 (by decide) (by decide) (by decide) (by decide) (2) rfl (hts (.fieldLink RX6 22 "CrateHelpers" "team" "LCrateHelpers$Team;") (by decide +kernel)) (fun _ h9 => h9) dX6_turn_24 ?_
      refine vgI hx hb hts hi4 hown hK hP (2) (by decide) (show kd 2 = 4 by decide) (C := RX4) (T := TX4) (N := 7) rfl 1 (by decide) (by decide) (by decide) (by decide) (hts (.fieldLink RX6 168 "CrateHelpers$Team" "scheduled" "I") (by decide +kernel)) (fun _ h9 => h9) dX6_turn_27 ?_
      refine lv_sipush (v := 200) hx hb dX6_turn_30 (by decide) ?_
      refine lv_icmp_lt (tgt := 39) hx hb dX6_turn_33 (by decide) (fun c_5 => ?_) (fun c_5 => ?_)
      · have h := ip c_5 h
        refine lv_aload_n hx hb dX6_turn_39 rfl (lv_at hl 0 rfl) ?_
        refine vgC hx hb hts hi6 hown hK hP (0) (by decide) (show kd 0 = 6 by decide) (C := RX6) (T := TX6) (N := 18) rfl 2 (by decide) (by decide) (by decide) (by decide) (2) rfl (hts (.fieldLink RX6 22 "CrateHelpers" "team" "LCrateHelpers$Team;") (by decide +kernel)) (fun _ h9 => h9) dX6_turn_40 ?_
        refine vgS hx hb hts hi4 hown hK hP (2) (by decide) (show kd 2 = 4 by decide) (C := RX4) (T := TX4) (N := 7) rfl 3 (by decide) (by decide) (by decide) (by decide) (4) rfl (hts (.fieldLink RX6 171 "CrateHelpers$Team" "schedule" "[I") (by decide +kernel)) (fun _ h9 => h9) dX6_turn_43 ?_
        refine lv_aload_n hx hb dX6_turn_46 rfl (lv_at hl 0 rfl) ?_
        refine vgC hx hb hts hi6 hown hK hP (0) (by decide) (show kd 0 = 6 by decide) (C := RX6) (T := TX6) (N := 18) rfl 2 (by decide) (by decide) (by decide) (by decide) (2) rfl (hts (.fieldLink RX6 22 "CrateHelpers" "team" "LCrateHelpers$Team;") (by decide +kernel)) (fun _ h9 => h9) dX6_turn_47 ?_
        refine vgI hx hb hts hi4 hown hK hP (2) (by decide) (show kd 2 = 4 by decide) (C := RX4) (T := TX4) (N := 7) rfl 1 (by decide) (by decide) (by decide) (by decide) (hts (.fieldLink RX6 168 "CrateHelpers$Team" "scheduled" "I") (by decide +kernel)) (fun _ h9 => h9) dX6_turn_50 ?_
        refine lv_iload_n hx hb dX6_turn_53 rfl (lv_at hl 1 rfl) ?_
        obtain ⟨hn6, h⟩ := gk h
        refine xiast hx hb hK hP hap hS (4) (by decide) (show kd 4 = 8 by decide) (by rw [show ln 4 = 200 by decide]; exact hn6) dX6_turn_54 (fun H locs hP hS => ?_)
        obtain ⟨A7, eA7, h⟩ := bd_e h
        rw [← eA7] at hP
        have hP : va_P D vwCl (VW K ad I G A7 L) H := hP
        refine lv_aload_n hx hb dX6_turn_55 rfl (lv_at hl 0 rfl) ?_
        refine vgC hx hb hts hi6 hown hK hP (0) (by decide) (show kd 0 = 6 by decide) (C := RX6) (T := TX6) (N := 18) rfl 2 (by decide) (by decide) (by decide) (by decide) (2) rfl (hts (.fieldLink RX6 22 "CrateHelpers" "team" "LCrateHelpers$Team;") (by decide +kernel)) (fun _ h9 => h9) dX6_turn_56 ?_
        refine lv_dup hx hb dX6_turn_59 rfl ?_
        refine vgI hx hb hts hi4 hown hK hP (2) (by decide) (show kd 2 = 4 by decide) (C := RX4) (T := TX4) (N := 7) rfl 1 (by decide) (by decide) (by decide) (by decide) (hts (.fieldLink RX6 168 "CrateHelpers$Team" "scheduled" "I") (by decide +kernel)) (fun _ h9 => h9) dX6_turn_60 ?_
        refine lv_iconst (v := 1) hx hb dX6_turn_63 (by decide) ?_
        refine lv_iadd hx hb dX6_turn_64 ?_
        refine vpI (v := ((I 2 1) + 1)) (ty := .int) hx hb hts hi4 tyX4 tyX4_ok nmX4 hown hK hP hap hS (2) (by decide) (show kd 2 = 4 by decide) (C := RX4) (T := TX4) (N := 7) rfl 1 (by decide) (by decide) (by decide) (by decide) (hts (.fieldLink RX6 168 "CrateHelpers$Team" "scheduled" "I") (by decide +kernel)) (fun _ h9 => h9) rfl (by decide +kernel) rfl rfl dX6_turn_65 (fun H locs hP hS => ?_)
        obtain ⟨I8, eI8, h⟩ := bd_e h
        rw [← eI8] at hP
        have hP : va_P D vwCl (VW K ad I8 G A7 L) H := hP
        refine lv_aload_n hx hb dX6_turn_68 rfl (lv_at hl 0 rfl) ?_
        refine vgC hx hb hts hi6 hown hK hP (0) (by decide) (show kd 0 = 6 by decide) (C := RX6) (T := TX6) (N := 18) rfl 2 (by decide) (by decide) (by decide) (by decide) (2) rfl (hts (.fieldLink RX6 22 "CrateHelpers" "team" "LCrateHelpers$Team;") (by decide +kernel)) (fun _ h9 => h9) dX6_turn_69 ?_
        refine vgI hx hb hts hi4 hown hK hP (2) (by decide) (show kd 2 = 4 by decide) (C := RX4) (T := TX4) (N := 7) rfl 1 (by decide) (by decide) (by decide) (by decide) (hts (.fieldLink RX6 168 "CrateHelpers$Team" "scheduled" "I") (by decide +kernel)) (fun _ h9 => h9) dX6_turn_72 ?_
        exact W.iret (v := (I8 2 1)) hx hb hr (fun t9 ht9 hW9 => ⟨⟨(I8 2 1), (I8, G, A7, L), rfl, by cases h; exact ⟨rfl, rfl⟩, by rw [ht9]; exact hP, va_K.moved hW9.alike hK⟩, hS.F ht9⟩) hS.2.2 dX6_turn_75
      · have h := iN c_5 h
        refine lv_bipush (v := (-3)) hx hb dX6_turn_36 (by decide) ?_
        exact W.iret (v := (-3)) hx hb hr (fun t9 ht9 hW9 => ⟨⟨(-3), (I, G, A, L), rfl, by cases h; exact ⟨rfl, rfl⟩, by rw [ht9]; exact hP, va_K.moved hW9.alike hK⟩, hS.F ht9⟩) hS.2.2 dX6_turn_38
    · have h := iN c_4 h
      refine lv_bipush (v := (-2)) hx hb dX6_turn_20 (by decide) ?_
      exact W.iret (v := (-2)) hx hb hr (fun t9 ht9 hW9 => ⟨⟨(-2), (I, G, A, L), rfl, by cases h; exact ⟨rfl, rfl⟩, by rw [ht9]; exact hP, va_K.moved hW9.alike hK⟩, hS.F ht9⟩) hS.2.2 dX6_turn_22
  · have h := ip c_3 h
    refine lv_iconst (v := (-1)) hx hb dX6_turn_9 (by decide) ?_
    exact W.iret (v := (-1)) hx hb hr (fun t9 ht9 hW9 => ⟨⟨(-1), (I, G, A, L), rfl, by cases h; exact ⟨rfl, rfl⟩, by rw [ht9]; exact hP, va_K.moved hW9.alike hK⟩, hS.F ht9⟩) hS.2.2 dX6_turn_10
set_option maxHeartbeats 4000000 in
set_option maxRecDepth 100000 in
theorem e_X1_addVariable (l : Launch) (D : va_G) (K : Nat → ClassId) (ad : Nat → Nat) (hap0 : apart ad (fun _ => True)) (o : Nat) (a1 : Int32) (a2 : Int32) (I : Nat → Nat → Int32) (G : Nat → Nat → Nat) (A : Nat → Nat → Int32) (L : Nat → Nat → Int64) (r0 : Int32) (I0 : Nat → Nat → Int32) (A0 : Nat → Nat → Int32) (h : f_X1_addVariable I A o a1 a2 = some (r0, I0, A0)) : Ci l D K ad yX1_addVariable wsX1_addVariable 1 23 [.ref (ad o), .int a1, .int a2] (I, G, A, L) (fun (r : Int32) (u : Mem) => r = r0 ∧ u = (I0, G, A0, L)) := by
  intro sz
  refine Met.ofW (cc := cX1_addVariable) (maxL := 3) (ret := (some .int)) (by decide) rfl ?_
  intro p e s m args below meth c s₁ Bd hml hv0
  obtain ⟨rfl, hsz, hP, hK⟩ := hv0
  have hx := Bd.exec
  have hb := Bd.bytes
  have hr := Bd.returns
  have hts := atoms_spec (ws := wsX1_addVariable) Bd.pre
  have hown : s.vm.findClass RX1 = some m.cls := findClass_of_methodNamed Bd.named
  have hlocks := Bd.notSynchronized
  have hi1 : ∀ w ∈ u_ws RX1 TX1 9, w ∈ wsX1_addVariable := fun w h => List.mem_cons_of_mem _ (List.mem_append_right _ h)
  subst hsz
  have hap := vF_ap hap0 s.heap.size
  have hS : va_S (vF ad s.heap.size) s.heap s.heap [] := va_S.rf
  have hP : va_P D vwCl (VW K ad I G A L) s.heap := hP
  have hl := lv_entry ([.ref (ad o), .int a1, .int a2]) (n := 3) (Nat.le_of_ble_eq_true rfl)
  rw [lg_entry_eq]
  generalize (lg_sl ([.ref (ad o), .int a1, .int a2]) ++ List.replicate (3 - (lg_sl ([.ref (ad o), .int a1, .int a2])).length) Slot.unset).toArray = ls at hl ⊢
  have hl : lv_has ls 3 [(0, .ref (ad o)), (1, .int a1), (2, .int a2)] := hl
  rw [f_X1_addVariable] at h
  refine lv_aload_n hx hb dX1_addVariable_0 rfl (lv_at hl 0 rfl) ?_
  obtain ⟨hk1, h⟩ := gk h
  obtain ⟨I2, hc3, h⟩ := Option.bind_eq_some_iff.mp h
  refine ecVv (As := []) (rest := []) ⟨hx, hb, hml, hown, hts⟩ (e_X1_change l D K ad hap0 o I G A L I2 hc3) (cwV 0 hts gX1_addVariable_X1_change rfl rfl rfl (by decide +kernel) ⟨Nat.le_of_ble_eq_true rfl, Nat.le_of_ble_eq_true rfl⟩) hK hP hS (s318 hk1.1) hk1.2 (by decide) rfl rfl rfl hl.1 (Nat.le_of_ble_eq_true rfl) (Nat.le_of_ble_eq_true rfl) (Nat.le_of_ble_eq_true rfl) dX1_addVariable_1 (fun H locs hP hS => ?_) rfl
  have hP : va_P D vwCl (VW K ad I2 G A L) H := hP
  refine lv_aload_n hx hb dX1_addVariable_4 rfl (lv_at hl 0 rfl) ?_
  refine vgS hx hb hts hi1 hown hK hP (o) (s318 hk1.1) hk1.2 (C := RX1) (T := TX1) (N := 9) rfl 4 (by decide) (by decide) (by decide) (by decide) (o + 1) rfl (hts (.fieldLink RX1 25 "CrateHelpers$Problem" "sizes" "[I") (by decide +kernel)) (fun _ h9 => h9) dX1_addVariable_5 ?_
  refine lv_aload_n hx hb dX1_addVariable_8 rfl (lv_at hl 0 rfl) ?_
  refine vgI hx hb hts hi1 hown hK hP (o) (s318 hk1.1) hk1.2 (C := RX1) (T := TX1) (N := 9) rfl 0 (by decide) (by decide) (by decide) (by decide) (hts (.fieldLink RX1 9 "CrateHelpers$Problem" "variables" "I") (by decide +kernel)) (fun _ h9 => h9) dX1_addVariable_9 ?_
  refine lv_iload_n hx hb dX1_addVariable_12 rfl (lv_at hl 1 rfl) ?_
  obtain ⟨hk4, h⟩ := gk h
  obtain ⟨hn5, h⟩ := gk h
  refine xiast hx hb hK hP hap hS (o + 1) (s318 hk4.1) hk4.2 hn5 dX1_addVariable_13 (fun H locs hP hS => ?_)
  obtain ⟨A6, eA6, h⟩ := bd_e h
  rw [← eA6] at hP
  have hP : va_P D vwCl (VW K ad I2 G A6 L) H := hP
  refine lv_aload_n hx hb dX1_addVariable_14 rfl (lv_at hl 0 rfl) ?_
  refine vgS hx hb hts hi1 hown hK hP (o) (s318 hk1.1) hk1.2 (C := RX1) (T := TX1) (N := 9) rfl 5 (by decide) (by decide) (by decide) (by decide) (o + 2) rfl (hts (.fieldLink RX1 29 "CrateHelpers$Problem" "kinds" "[I") (by decide +kernel)) (fun _ h9 => h9) dX1_addVariable_15 ?_
  refine lv_aload_n hx hb dX1_addVariable_18 rfl (lv_at hl 0 rfl) ?_
  refine vgI hx hb hts hi1 hown hK hP (o) (s318 hk1.1) hk1.2 (C := RX1) (T := TX1) (N := 9) rfl 0 (by decide) (by decide) (by decide) (by decide) (hts (.fieldLink RX1 9 "CrateHelpers$Problem" "variables" "I") (by decide +kernel)) (fun _ h9 => h9) dX1_addVariable_19 ?_
  refine lv_iload_n hx hb dX1_addVariable_22 rfl (lv_at hl 2 rfl) ?_
  obtain ⟨hk7, h⟩ := gk h
  obtain ⟨hn8, h⟩ := gk h
  refine xiast hx hb hK hP hap hS (o + 2) (s318 hk7.1) hk7.2 hn8 dX1_addVariable_23 (fun H locs hP hS => ?_)
  obtain ⟨A9, eA9, h⟩ := bd_e h
  rw [← eA9] at hP
  have hP : va_P D vwCl (VW K ad I2 G A9 L) H := hP
  refine lv_aload_n hx hb dX1_addVariable_24 rfl (lv_at hl 0 rfl) ?_
  refine lv_dup hx hb dX1_addVariable_25 rfl ?_
  refine vgI hx hb hts hi1 hown hK hP (o) (s318 hk1.1) hk1.2 (C := RX1) (T := TX1) (N := 9) rfl 0 (by decide) (by decide) (by decide) (by decide) (hts (.fieldLink RX1 9 "CrateHelpers$Problem" "variables" "I") (by decide +kernel)) (fun _ h9 => h9) dX1_addVariable_26 ?_
  refine lv_dup_x1 hx hb dX1_addVariable_29 rfl rfl ?_
  refine lv_iconst (v := 1) hx hb dX1_addVariable_30 (by decide) ?_
  refine lv_iadd hx hb dX1_addVariable_31 ?_
  refine vpI (v := ((I2 o 0) + 1)) (ty := .int) hx hb hts hi1 tyX1 tyX1_ok nmX1 hown hK hP hap hS (o) (s318 hk1.1) hk1.2 (C := RX1) (T := TX1) (N := 9) rfl 0 (by decide) (by decide) (by decide) (by decide) (hts (.fieldLink RX1 9 "CrateHelpers$Problem" "variables" "I") (by decide +kernel)) (fun _ h9 => h9) rfl (by decide +kernel) rfl rfl dX1_addVariable_32 (fun H locs hP hS => ?_)
  obtain ⟨I10, eI10, h⟩ := bd_e h
  rw [← eI10] at hP
  have hP : va_P D vwCl (VW K ad I10 G A9 L) H := hP
  exact W.iret (v := (I2 o 0)) hx hb hr (fun t9 ht9 hW9 => ⟨⟨(I2 o 0), (I10, G, A9, L), rfl, by cases h; exact ⟨rfl, rfl⟩, by rw [ht9]; exact hP, va_K.moved hW9.alike hK⟩, hS.F ht9⟩) hS.2.2 dX1_addVariable_35
set_option maxHeartbeats 4000000 in
set_option maxRecDepth 100000 in
theorem e_X6_variable (l : Launch) (D : va_G) (K : Nat → ClassId) (ad : Nat → Nat) (hap0 : apart ad (fun _ => True)) (a1 : Int32) (a2 : Int32) (a3 : Int32) (I : Nat → Nat → Int32) (G : Nat → Nat → Nat) (A : Nat → Nat → Int32) (L : Nat → Nat → Int64) (r0 : Int32) (I0 : Nat → Nat → Int32) (A0 : Nat → Nat → Int32) (h : f_X6_variable I A a1 a2 a3 = some (r0, I0, A0)) : Ci l D K ad yX6_variable wsX6_variable 2 49 [.ref (ad 0), .int a1, .int a2, .int a3] (I, G, A, L) (fun (r : Int32) (u : Mem) => r = r0 ∧ u = (I0, G, A0, L)) := by
  intro sz
  refine Met.ofW (cc := cX6_variable) (maxL := 5) (ret := (some .int)) (by decide) rfl ?_
  intro p e s m args below meth c s₁ Bd hml hv0
  obtain ⟨rfl, hsz, hP, hK⟩ := hv0
  have hx := Bd.exec
  have hb := Bd.bytes
  have hr := Bd.returns
  have hts := atoms_spec (ws := wsX6_variable) Bd.pre
  have hown : s.vm.findClass RX6 = some m.cls := findClass_of_methodNamed Bd.named
  have hlocks := Bd.notSynchronized
  have hi6 : ∀ w ∈ u_ws RX6 TX6 18, w ∈ wsX6_variable := fun w h => List.mem_cons_of_mem _ (List.mem_append_left _ (List.mem_append_right _ h))
  have hi1 : ∀ w ∈ u_ws RX1 TX1 9, w ∈ wsX6_variable := fun w h => List.mem_cons_of_mem _ (List.mem_append_right _ h)
  subst hsz
  have hap := vF_ap hap0 s.heap.size
  have hS : va_S (vF ad s.heap.size) s.heap s.heap [] := va_S.rf
  have hP : va_P D vwCl (VW K ad I G A L) s.heap := hP
  have hl := lv_entry ([.ref (ad 0), .int a1, .int a2, .int a3]) (n := 5) (Nat.le_of_ble_eq_true rfl)
  rw [lg_entry_eq]
  generalize (lg_sl ([.ref (ad 0), .int a1, .int a2, .int a3]) ++ List.replicate (5 - (lg_sl ([.ref (ad 0), .int a1, .int a2, .int a3])).length) Slot.unset).toArray = ls at hl ⊢
  have hl : lv_has ls 5 [(0, .ref (ad 0)), (1, .int a1), (2, .int a2), (3, .int a3)] := hl
  rw [f_X6_variable] at h
  refine lv_aload_n hx hb dX6_variable_0 rfl (lv_at hl 0 rfl) ?_
  refine lv_iload_n hx hb dX6_variable_1 rfl (lv_at hl 1 rfl) ?_
  obtain ⟨r1, hc2, h⟩ := Option.bind_eq_some_iff.mp h
  refine ecV (As := [.int a1]) (rest := []) ⟨hx, hb, hml, hown, hts⟩ (e_X6_isProblem l D K ad hap0 a1 I G A L r1 hc2) (cwV 1 hts gX6_variable_X6_isProblem rfl rfl rfl (by decide +kernel) ⟨Nat.le_of_ble_eq_true rfl, Nat.le_of_ble_eq_true rfl⟩) hK hP hS (by decide) (show kd 0 = 6 by decide) (by decide) rfl rfl rfl hl.1 (Nat.le_of_ble_eq_true rfl) (Nat.le_of_ble_eq_true rfl) (Nat.le_of_ble_eq_true rfl) dX6_variable_2 (fun H locs hP hS => ?_) rfl
  have hP : va_P D vwCl (VW K ad I G A L) H := hP
  refine lv_if_eq (tgt := 27) hx hb dX6_variable_5 (by decide) (fun c_3 => ?_) (fun c_3 => ?_)
  · have h := ip c_3 h
    refine lv_iconst (v := (-1)) hx hb dX6_variable_27 (by decide) ?_
    exact W.iret (v := (-1)) hx hb hr (fun t9 ht9 hW9 => ⟨⟨(-1), (I, G, A, L), rfl, by cases h; exact ⟨rfl, rfl⟩, by rw [ht9]; exact hP, va_K.moved hW9.alike hK⟩, hS.F ht9⟩) hS.2.2 dX6_variable_28
  · have h := iN c_3 h
    refine lv_iload_n hx hb dX6_variable_8 rfl (lv_at hl 2 rfl) ?_
    refine lv_iconst (v := 1) hx hb dX6_variable_9 (by decide) ?_
    refine lv_bipush (v := 6) hx hb dX6_variable_10 (by decide) ?_
    obtain ⟨r4, hc5, h⟩ := Option.bind_eq_some_iff.mp h
    refine ecS (As := [.int a2, .int 1, .int 6]) (rest := []) ⟨hx, hb, hml, hown, hts⟩ (e_X6_isWithin l D K ad hap0 a2 1 6 I G A L r4 hc5) (va_cwS 3 hts gX6_variable_X6_isWithin rfl rfl rfl (by decide +kernel) ⟨Nat.le_of_ble_eq_true rfl, Nat.le_of_ble_eq_true rfl⟩) hK hP hS rfl hl.1 (Nat.le_of_ble_eq_true rfl) (Nat.le_of_ble_eq_true rfl) (Nat.le_of_ble_eq_true rfl) dX6_variable_12 (fun H locs hP hS => ?_) rfl
    have hP : va_P D vwCl (VW K ad I G A L) H := hP
    refine lv_if_eq (tgt := 27) hx hb dX6_variable_15 (by decide) (fun c_6 => ?_) (fun c_6 => ?_)
    · have h := ip c_6 h
      refine lv_iconst (v := (-1)) hx hb dX6_variable_27 (by decide) ?_
      exact W.iret (v := (-1)) hx hb hr (fun t9 ht9 hW9 => ⟨⟨(-1), (I, G, A, L), rfl, by cases h; exact ⟨rfl, rfl⟩, by rw [ht9]; exact hP, va_K.moved hW9.alike hK⟩, hS.F ht9⟩) hS.2.2 dX6_variable_28
    · have h := iN c_6 h
      refine lv_iload_n hx hb dX6_variable_18 rfl (lv_at hl 3 rfl) ?_
      refine lv_iconst (v := 0) hx hb dX6_variable_19 (by decide) ?_
      refine lv_iconst (v := 3) hx hb dX6_variable_20 (by decide) ?_
      obtain ⟨r7, hc8, h⟩ := Option.bind_eq_some_iff.mp h
      refine ecS (As := [.int a3, .int 0, .int 3]) (rest := []) ⟨hx, hb, hml, hown, hts⟩ (e_X6_isWithin l D K ad hap0 a3 0 3 I G A L r7 hc8) (va_cwS 3 hts gX6_variable_X6_isWithin rfl rfl rfl (by decide +kernel) ⟨Nat.le_of_ble_eq_true rfl, Nat.le_of_ble_eq_true rfl⟩) hK hP hS rfl hl.1 (Nat.le_of_ble_eq_true rfl) (Nat.le_of_ble_eq_true rfl) (Nat.le_of_ble_eq_true rfl) dX6_variable_21 (fun H locs hP hS => ?_) rfl
      have hP : va_P D vwCl (VW K ad I G A L) H := hP
      refine lv_if_ne (tgt := 29) hx hb dX6_variable_24 (by decide) (fun c_9 => ?_) (fun c_9 => ?_)
      · have h := iN c_9 h
        refine lv_aload_n hx hb dX6_variable_29 rfl (lv_at hl 0 rfl) ?_
        refine vgI hx hb hts hi6 hown hK hP (0) (by decide) (show kd 0 = 6 by decide) (C := RX6) (T := TX6) (N := 18) rfl 5 (by decide) (by decide) (by decide) (by decide) (hts (.fieldLink RX6 29 "CrateHelpers" "underWay" "I") (by decide +kernel)) (fun _ h9 => h9) dX6_variable_30 ?_
        refine lv_bipush (v := (-9)) hx hb dX6_variable_33 (by decide) ?_
        refine lv_icmp_eq (tgt := 41) hx hb dX6_variable_35 (by decide) (fun c_10 => ?_) (fun c_10 => ?_)
        · have h := ip c_10 h
          refine lv_aload_n hx hb dX6_variable_41 rfl (lv_at hl 0 rfl) ?_
          refine vgC hx hb hts hi6 hown hK hP (0) (by decide) (show kd 0 = 6 by decide) (C := RX6) (T := TX6) (N := 18) rfl 0 (by decide) (by decide) (by decide) (by decide) (1) rfl (hts (.fieldLink RX6 11 "CrateHelpers" "problems" "[LCrateHelpers$Problem;") (by decide +kernel)) (fun _ h9 => h9) dX6_variable_42 ?_
          refine lv_iload_n hx hb dX6_variable_45 rfl (lv_at hl 1 rfl) ?_
          obtain ⟨hn11, h⟩ := gk h
          refine xaald hx hb hK hP (1) (by decide) 5 13 (show kd 1 = 13 by decide) (by decide) rfl (by rw [show ln 1 = 5 by decide]; exact hn11) (58 + 52 * a1.toNatClampNeg) (drf13 ((show kd 1 = 13 by decide))) dX6_variable_46 ?_
          refine lv_astore (lv' := [(4, .ref (ad (58 + 52 * a1.toNatClampNeg))), (0, .ref (ad 0)), (1, .int a1), (2, .int a2), (3, .int a3)]) hx hb dX6_variable_47 hl (by decide) rfl (fun ls hl => ?_)
          refine lv_aload hx hb dX6_variable_49 (lv_at hl 0 rfl) ?_
          obtain ⟨hk12, h⟩ := gk h
          refine vgI hx hb hts hi1 hown hK hP (58 + 52 * a1.toNatClampNeg) (s318 hk12.1) hk12.2 (C := RX1) (T := TX1) (N := 9) rfl 0 (by decide) (by decide) (by decide) (by decide) (hts (.fieldLink RX6 103 "CrateHelpers$Problem" "variables" "I") (by decide +kernel)) (fun _ h9 => h9) dX6_variable_51 ?_
          refine lv_bipush (v := 6) hx hb dX6_variable_54 (by decide) ?_
          refine lv_icmp_lt (tgt := 64) hx hb dX6_variable_56 (by decide) (fun c_13 => ?_) (fun c_13 => ?_)
          · have h := ip c_13 h
            refine lv_aload hx hb dX6_variable_64 (lv_at hl 0 rfl) ?_
            refine lv_iload_n hx hb dX6_variable_66 rfl (lv_at hl 3 rfl) ?_
            refine lv_iload_n hx hb dX6_variable_67 rfl (lv_at hl 4 rfl) ?_
            obtain ⟨⟨r14, I15, A16⟩, hc17, h⟩ := Option.bind_eq_some_iff.mp h
            refine ecV (As := [.int a2, .int a3]) (rest := []) ⟨hx, hb, hml, hown, hts⟩ (e_X1_addVariable l D K ad hap0 (58 + 52 * a1.toNatClampNeg) a2 a3 I G A L r14 I15 A16 hc17) (cwV 2 hts gX6_variable_X1_addVariable rfl rfl rfl (by decide +kernel) ⟨Nat.le_of_ble_eq_true rfl, Nat.le_of_ble_eq_true rfl⟩) hK hP hS (s318 hk12.1) hk12.2 (by decide) rfl rfl rfl hl.1 (Nat.le_of_ble_eq_true rfl) (Nat.le_of_ble_eq_true rfl) (Nat.le_of_ble_eq_true rfl) dX6_variable_68 (fun H locs hP hS => ?_) rfl
            have hP : va_P D vwCl (VW K ad I15 G A16 L) H := hP
            exact W.iret (v := r14) hx hb hr (fun t9 ht9 hW9 => ⟨⟨r14, (I15, G, A16, L), rfl, by cases h; exact ⟨rfl, rfl⟩, by rw [ht9]; exact hP, va_K.moved hW9.alike hK⟩, hS.F ht9⟩) hS.2.2 dX6_variable_71
          · have h := iN c_13 h
            refine lv_bipush (v := (-3)) hx hb dX6_variable_59 (by decide) ?_
            refine lv_goto (tgt := 71) hx hb dX6_variable_61 (by decide) ?_
            exact W.iret (v := (-3)) hx hb hr (fun t9 ht9 hW9 => ⟨⟨(-3), (I, G, A, L), rfl, by cases h; exact ⟨rfl, rfl⟩, by rw [ht9]; exact hP, va_K.moved hW9.alike hK⟩, hS.F ht9⟩) hS.2.2 dX6_variable_71
        · have h := iN c_10 h
          refine lv_bipush (v := (-2)) hx hb dX6_variable_38 (by decide) ?_
          exact W.iret (v := (-2)) hx hb hr (fun t9 ht9 hW9 => ⟨⟨(-2), (I, G, A, L), rfl, by cases h; exact ⟨rfl, rfl⟩, by rw [ht9]; exact hP, va_K.moved hW9.alike hK⟩, hS.F ht9⟩) hS.2.2 dX6_variable_40
      · have h := ip c_9 h
        refine lv_iconst (v := (-1)) hx hb dX6_variable_27 (by decide) ?_
        exact W.iret (v := (-1)) hx hb hr (fun t9 ht9 hW9 => ⟨⟨(-1), (I, G, A, L), rfl, by cases h; exact ⟨rfl, rfl⟩, by rw [ht9]; exact hP, va_K.moved hW9.alike hK⟩, hS.F ht9⟩) hS.2.2 dX6_variable_28
set_option maxHeartbeats 4000000 in
set_option maxRecDepth 100000 in
theorem e_X5_valueOf (l : Launch) (D : va_G) (K : Nat → ClassId) (ad : Nat → Nat) (hap0 : apart ad (fun _ => True)) (o : Nat) (a1 : Int32) (a2 : Int32) (I : Nat → Nat → Int32) (G : Nat → Nat → Nat) (A : Nat → Nat → Int32) (L : Nat → Nat → Int64) (r0 : Int32) (h : f_X5_valueOf L o a1 a2 = some r0) : Ci l D K ad yX5_valueOf wsX5_valueOf 1 23 [.ref (ad o), .int a1, .int a2] (I, G, A, L) (fun (r : Int32) (u : Mem) => r = r0 ∧ u = (I, G, A, L)) := by
  intro sz
  refine Met.ofW (cc := cX5_valueOf) (maxL := 3) (ret := (some .int)) (by decide) rfl ?_
  intro p e s m args below meth c s₁ Bd hml hv0
  obtain ⟨rfl, hsz, hP, hK⟩ := hv0
  have hx := Bd.exec
  have hb := Bd.bytes
  have hr := Bd.returns
  have hts := atoms_spec (ws := wsX5_valueOf) Bd.pre
  have hown : s.vm.findClass RX5 = some m.cls := findClass_of_methodNamed Bd.named
  have hlocks := Bd.notSynchronized
  have hi5 : ∀ w ∈ u_ws RX5 TX5 16, w ∈ wsX5_valueOf := fun w h => List.mem_cons_of_mem _ (List.mem_append_right _ h)
  subst hsz
  have hap := vF_ap hap0 s.heap.size
  have hS : va_S (vF ad s.heap.size) s.heap s.heap [] := va_S.rf
  have hP : va_P D vwCl (VW K ad I G A L) s.heap := hP
  have hl := lv_entry ([.ref (ad o), .int a1, .int a2]) (n := 3) (Nat.le_of_ble_eq_true rfl)
  rw [lg_entry_eq]
  generalize (lg_sl ([.ref (ad o), .int a1, .int a2]) ++ List.replicate (3 - (lg_sl ([.ref (ad o), .int a1, .int a2])).length) Slot.unset).toArray = ls at hl ⊢
  have hl : lv_has ls 3 [(0, .ref (ad o)), (1, .int a1), (2, .int a2)] := hl
  rw [f_X5_valueOf] at h
  refine lv_aload_n hx hb dX5_valueOf_0 rfl (lv_at hl 0 rfl) ?_
  obtain ⟨hk1, h⟩ := gk h
  refine vgS hx hb hts hi5 hown hK hP (o) (s318 hk1.1) hk1.2 (C := RX5) (T := TX5) (N := 16) rfl 0 (by decide) (by decide) (by decide) (by decide) (o + 1) rfl (hts (.fieldLink RX5 49 "CrateHelpers$Tree" "place" "[J") (by decide +kernel)) (fun _ h9 => h9) dX5_valueOf_1 ?_
  refine lv_iload_n hx hb dX5_valueOf_4 rfl (lv_at hl 1 rfl) ?_
  obtain ⟨hk2, h⟩ := gk h
  obtain ⟨hn3, h⟩ := gk h
  refine xlald hx hb hK hP (o + 1) (s318 hk2.1) hk2.2 hn3 dX5_valueOf_5 ?_
  refine lv_iload_n hx hb dX5_valueOf_6 rfl (lv_at hl 2 rfl) ?_
  obtain ⟨r4, hc5, h⟩ := Option.bind_eq_some_iff.mp h
  refine ecS (As := [.int a2]) (rest := [.long (L (o + 1) a1.toNatClampNeg)]) ⟨hx, hb, hml, hown, hts⟩ (e_X5_shiftOf l D K ad hap0 a2 I G A L r4 hc5) (va_cwS 1 hts gX5_valueOf_X5_shiftOf rfl rfl rfl (by decide +kernel) ⟨Nat.le_of_ble_eq_true rfl, Nat.le_of_ble_eq_true rfl⟩) hK hP hS rfl hl.1 (Nat.le_of_ble_eq_true rfl) (Nat.le_of_ble_eq_true rfl) (Nat.le_of_ble_eq_true rfl) dX5_valueOf_7 (fun H locs hP hS => ?_) rfl
  have hP : va_P D vwCl (VW K ad I G A L) H := hP
  refine lv_lshr hx hb dX5_valueOf_10 rfl ?_
  refine lv_ldc2 (v := 7) hx hb hown (hts (.constantLong RX5 123 (7)) (by decide +kernel)) dX5_valueOf_11 ?_
  refine lv_land hx hb dX5_valueOf_14 ?_
  refine lv_l2i hx hb dX5_valueOf_15 rfl ?_
  refine lv_iconst (v := 1) hx hb dX5_valueOf_16 (by decide) ?_
  refine lv_isub hx hb dX5_valueOf_17 ?_
  exact W.iret (v := (((((L (o + 1) a1.toNatClampNeg) >>> (r4.toInt64 &&& 63)) &&& 7).toInt32) - 1)) hx hb hr (fun t9 ht9 hW9 => ⟨⟨(((((L (o + 1) a1.toNatClampNeg) >>> (r4.toInt64 &&& 63)) &&& 7).toInt32) - 1), (I, G, A, L), rfl, by cases h; exact ⟨rfl, rfl⟩, by rw [ht9]; exact hP, va_K.moved hW9.alike hK⟩, hS.F ht9⟩) hS.2.2 dX5_valueOf_18
