/-! part 53.c05 -/
set_option maxHeartbeats 4000000 in
set_option maxRecDepth 100000 in
theorem e_X6_second (l : Launch) (D : va_G) (K : Nat → ClassId) (ad : Nat → Nat) (hap0 : apart ad (fun _ => True)) (a1 : Int32) (a2 : Int32) (I : Nat → Nat → Int32) (G : Nat → Nat → Nat) (A : Nat → Nat → Int32) (L : Nat → Nat → Int64) (r0 : Int32) (I0 : Nat → Nat → Int32) (G0 : Nat → Nat → Nat) (A0 : Nat → Nat → Int32) (L0 : Nat → Nat → Int64) (h : f_X6_second I G A L a1 a2 = some (r0, I0, G0, A0, L0)) : Ci l D K ad yX6_second wsX6_second 6 211 [.ref (ad 0), .int a1, .int a2] (I, G, A, L) (fun (r : Int32) (u : Mem) => r = r0 ∧ u = (I0, G0, A0, L0)) := by
  intro sz
  refine Met.ofW (cc := cX6_second) (maxL := 6) (ret := (some .int)) (by decide) rfl ?_
  intro p e s m args below meth c s₁ Bd hml hv0
  obtain ⟨rfl, hsz, hP, hK⟩ := hv0
  have hx := Bd.exec
  have hb := Bd.bytes
  have hr := Bd.returns
  have hts := atoms_spec (ws := wsX6_second) Bd.pre
  have hown : s.vm.findClass RX6 = some m.cls := findClass_of_methodNamed Bd.named
  have hlocks := Bd.notSynchronized
  have hi6 : ∀ w ∈ u_ws RX6 TX6 18, w ∈ wsX6_second := fun w h => List.mem_cons_of_mem _ (List.mem_append_left _ (List.mem_append_left _ (List.mem_append_left _ (List.mem_append_left _ (List.mem_append_right _ h)))))
  have hi5 : ∀ w ∈ u_ws RX5 TX5 16, w ∈ wsX6_second := fun w h => List.mem_cons_of_mem _ (List.mem_append_left _ (List.mem_append_left _ (List.mem_append_left _ (List.mem_append_right _ h))))
  have hi1 : ∀ w ∈ u_ws RX1 TX1 9, w ∈ wsX6_second := fun w h => List.mem_cons_of_mem _ (List.mem_append_left _ (List.mem_append_left _ (List.mem_append_right _ h)))
  have hi0 : ∀ w ∈ u_ws RX0 TX0 3, w ∈ wsX6_second := fun w h => List.mem_cons_of_mem _ (List.mem_append_left _ (List.mem_append_right _ h))
  have hi2 : ∀ w ∈ u_ws RX2 TX2 7, w ∈ wsX6_second := fun w h => List.mem_cons_of_mem _ (List.mem_append_right _ h)
  subst hsz
  have hap := vF_ap hap0 s.heap.size
  have hS : va_S (vF ad s.heap.size) s.heap s.heap [] := va_S.rf
  have hP : va_P D vwCl (VW K ad I G A L) s.heap := hP
  have hl := lv_entry ([.ref (ad 0), .int a1, .int a2]) (n := 6) (Nat.le_of_ble_eq_true rfl)
  rw [lg_entry_eq]
  generalize (lg_sl ([.ref (ad 0), .int a1, .int a2]) ++ List.replicate (6 - (lg_sl ([.ref (ad 0), .int a1, .int a2])).length) Slot.unset).toArray = ls at hl ⊢
  have hl : lv_has ls 6 [(0, .ref (ad 0)), (1, .int a1), (2, .int a2)] := hl
  rw [f_X6_second] at h
  refine lv_aload_n hx hb dX6_second_0 rfl (lv_at hl 0 rfl) ?_
  refine lv_iload_n hx hb dX6_second_1 rfl (lv_at hl 1 rfl) ?_
  obtain ⟨r1, hc2, h⟩ := Option.bind_eq_some_iff.mp h
  refine ecV (As := [.int a1]) (rest := []) ⟨hx, hb, hml, hown, hts⟩ (e_X6_isProblem l D K ad hap0 a1 I G A L r1 hc2) (cwV 1 hts gX6_second_X6_isProblem rfl rfl rfl (by decide +kernel) ⟨Nat.le_of_ble_eq_true rfl, Nat.le_of_ble_eq_true rfl⟩) hK hP hS (by decide) (show kd 0 = 6 by decide) (by decide) rfl rfl rfl hl.1 (Nat.le_of_ble_eq_true rfl) (Nat.le_of_ble_eq_true rfl) (Nat.le_of_ble_eq_true rfl) dX6_second_2 (fun H locs hP hS => ?_) rfl
  have hP : va_P D vwCl (VW K ad I G A L) H := hP
  refine lv_if_eq (tgt := 18) hx hb dX6_second_5 (by decide) (fun c_3 => ?_) (fun c_3 => ?_)
  · have h := ip c_3 h
    refine lv_ldcw (v := (-1000002)) hx hb hown (hts (.constant RX6 261 (-1000002)) (by decide +kernel)) dX6_second_18 ?_
    exact W.iret (v := (-1000002)) hx hb hr (fun t9 ht9 hW9 => ⟨⟨(-1000002), (I, G, A, L), rfl, by cases h; exact ⟨rfl, rfl⟩, by rw [ht9]; exact hP, va_K.moved hW9.alike hK⟩, hS.F ht9⟩) hS.2.2 dX6_second_21
  · have h := iN c_3 h
    refine lv_iload_n hx hb dX6_second_8 rfl (lv_at hl 2 rfl) ?_
    refine lv_iconst (v := 0) hx hb dX6_second_9 (by decide) ?_
    refine lv_bipush (v := 60) hx hb dX6_second_10 (by decide) ?_
    obtain ⟨r4, hc5, h⟩ := Option.bind_eq_some_iff.mp h
    refine ecS (As := [.int a2, .int 0, .int 60]) (rest := []) ⟨hx, hb, hml, hown, hts⟩ (e_X6_isWithin l D K ad hap0 a2 0 60 I G A L r4 hc5) (va_cwS 3 hts gX6_second_X6_isWithin rfl rfl rfl (by decide +kernel) ⟨Nat.le_of_ble_eq_true rfl, Nat.le_of_ble_eq_true rfl⟩) hK hP hS rfl hl.1 (Nat.le_of_ble_eq_true rfl) (Nat.le_of_ble_eq_true rfl) (Nat.le_of_ble_eq_true rfl) dX6_second_12 (fun H locs hP hS => ?_) rfl
    have hP : va_P D vwCl (VW K ad I G A L) H := hP
    refine lv_if_ne (tgt := 22) hx hb dX6_second_15 (by decide) (fun c_6 => ?_) (fun c_6 => ?_)
    · have h := iN c_6 h
      refine lv_aload_n hx hb dX6_second_22 rfl (lv_at hl 0 rfl) ?_
      refine vgC hx hb hts hi6 hown hK hP (0) (by decide) (show kd 0 = 6 by decide) (C := RX6) (T := TX6) (N := 18) rfl 13 (by decide) (by decide) (by decide) (by decide) (19) rfl (hts (.fieldLink RX6 52 "CrateHelpers" "secondRow" "[I") (by decide +kernel)) (fun _ h9 => h9) dX6_second_23 ?_
      refine lv_bipush (v := (-9)) hx hb dX6_second_26 (by decide) ?_
      obtain ⟨A7, hc8, h⟩ := Option.bind_eq_some_iff.mp h
      refine ecSv (As := [.ref (ad 19), .int (-9)]) (rest := []) ⟨hx, hb, hml, hown, hts⟩ (e_J7_fill_53178 l D K ad hap0 19 (-9) I G A L A7 hc8) (va_cwS 2 hts gX6_second_J7_fill_53178 rfl rfl rfl (by decide +kernel) ⟨Nat.le_of_ble_eq_true rfl, Nat.le_of_ble_eq_true rfl⟩) hK hP hS rfl hl.1 (Nat.le_of_ble_eq_true rfl) (Nat.le_of_ble_eq_true rfl) (Nat.le_of_ble_eq_true rfl) dX6_second_28 (fun H locs hP hS => ?_) rfl
      have hP : va_P D vwCl (VW K ad I G A7 L) H := hP
      refine lv_aload_n hx hb dX6_second_31 rfl (lv_at hl 0 rfl) ?_
      refine vgC hx hb hts hi6 hown hK hP (0) (by decide) (show kd 0 = 6 by decide) (C := RX6) (T := TX6) (N := 18) rfl 12 (by decide) (by decide) (by decide) (by decide) (46) rfl (hts (.fieldLink RX6 86 "CrateHelpers" "secondTree" "LCrateHelpers$Tree;") (by decide +kernel)) (fun _ h9 => h9) dX6_second_32 ?_
      refine lv_aload_n hx hb dX6_second_35 rfl (lv_at hl 0 rfl) ?_
      refine vgC hx hb hts hi6 hown hK hP (0) (by decide) (show kd 0 = 6 by decide) (C := RX6) (T := TX6) (N := 18) rfl 0 (by decide) (by decide) (by decide) (by decide) (1) rfl (hts (.fieldLink RX6 11 "CrateHelpers" "problems" "[LCrateHelpers$Problem;") (by decide +kernel)) (fun _ h9 => h9) dX6_second_36 ?_
      refine lv_iload_n hx hb dX6_second_39 rfl (lv_at hl 1 rfl) ?_
      obtain ⟨hn9, h⟩ := gk h
      refine xaald hx hb hK hP (1) (by decide) 5 13 (show kd 1 = 13 by decide) (by decide) rfl (by rw [show ln 1 = 5 by decide]; exact hn9) (58 + 52 * a1.toNatClampNeg) (drf13 ((show kd 1 = 13 by decide))) dX6_second_40 ?_
      refine lv_iconst (v := 0) hx hb dX6_second_41 (by decide) ?_
      obtain ⟨⟨I10, G11, A12, L13⟩, hc14, h⟩ := Option.bind_eq_some_iff.mp h
      refine ecVv (As := [.ref (ad (58 + 52 * a1.toNatClampNeg)), .int 0]) (rest := []) ⟨hx, hb, hml, hown, hts⟩ (e_X5_plant l D K ad hap0 46 (58 + 52 * a1.toNatClampNeg) 0 I G A7 L I10 G11 A12 L13 hc14) (cwV 2 hts gX6_second_X5_plant rfl rfl rfl (by decide +kernel) ⟨Nat.le_of_ble_eq_true rfl, Nat.le_of_ble_eq_true rfl⟩) hK hP hS (by decide) (show kd 46 = 5 by decide) (by decide) rfl rfl rfl hl.1 (Nat.le_of_ble_eq_true rfl) (Nat.le_of_ble_eq_true rfl) (Nat.le_of_ble_eq_true rfl) dX6_second_42 (fun H locs hP hS => ?_) rfl
      have hP : va_P D vwCl (VW K ad I10 G11 A12 L13) H := hP
      refine lv_iload_n hx hb dX6_second_45 rfl (lv_at hl 2 rfl) ?_
      refine lv_istore_n (lv' := [(3, .int a2), (0, .ref (ad 0)), (1, .int a1), (2, .int a2)]) hx hb dX6_second_46 rfl hl (by decide) rfl (fun ls hl => ?_)
      refine lv_iconst (v := 0) hx hb dX6_second_47 (by decide) ?_
      refine lv_istore (lv' := [(4, .int 0), (3, .int a2), (0, .ref (ad 0)), (1, .int a1), (2, .int a2)]) hx hb dX6_second_48 hl (by decide) rfl (fun ls hl => ?_)
      obtain ⟨k21, ek21, h⟩ := bd_e h
      have kk21 : ∀ (I22 : Nat → Nat → Int32) (A23 : Nat → Nat → Int32) (L24 : Nat → Nat → Int64), k21 I22 A23 L24 = some (r0, I0, G0, A0, L0) → ∀ (H : Heap) (locs : List Loc), va_P D vwCl (VW K ad I22 G11 A23 L24) H → va_S (vF ad s.heap.size) s.heap H locs → ∀ (ls : Array Slot), lv_has ls 6 [] → W p l e ({ frames := 6, cells := 0, slots := 0, locals := 211 }) s m ([.ref (ad 0), .int a1, .int a2] : List Value).toArray below meth c H locs 0 0 (MQ below (va_Qi (fun (r : Int32) (u : Mem) => r = r0 ∧ u = (I0, G0, A0, L0)) (vB D K ad) (vF ad s.heap.size)) ([.ref (ad 0), .int a1, .int a2] : List Value).toArray s 0 0 (vF ad s.heap.size)) (F0 m 73 ls []) := by
        intro I22 A23 L24 h H locs hP hS ls hl
        subst ek21
        refine lv_ldcw (v := (-1000000)) hx hb hown (hts (.constant RX6 269 (-1000000)) (by decide +kernel)) dX6_second_73 ?_
        exact W.iret (v := (-1000000)) hx hb hr (fun t9 ht9 hW9 => ⟨⟨(-1000000), (I22, G11, A23, L24), rfl, by cases h; exact ⟨rfl, rfl⟩, by rw [ht9]; exact hP, va_K.moved hW9.alike hK⟩, hS.F ht9⟩) hS.2.2 dX6_second_76
      obtain ⟨k25, ek25, h⟩ := bd_e h
      have kk25 : ∀ (v26 : Int32) (I27 : Nat → Nat → Int32) (A28 : Nat → Nat → Int32) (L29 : Nat → Nat → Int64), k25 v26 I27 A28 L29 = some (r0, I0, G0, A0, L0) → ∀ (H : Heap) (locs : List Loc), va_P D vwCl (VW K ad I27 G11 A28 L29) H → va_S (vF ad s.heap.size) s.heap H locs → ∀ (ls : Array Slot), lv_has ls 6 [(0, .ref (ad 0)), (5, .int v26)] → W p l e ({ frames := 6, cells := 0, slots := 0, locals := 211 }) s m ([.ref (ad 0), .int a1, .int a2] : List Value).toArray below meth c H locs 0 0 (MQ below (va_Qi (fun (r : Int32) (u : Mem) => r = r0 ∧ u = (I0, G0, A0, L0)) (vB D K ad) (vF ad s.heap.size)) ([.ref (ad 0), .int a1, .int a2] : List Value).toArray s 0 0 (vF ad s.heap.size)) (F0 m 112 ls []) := by
        intro v26 I27 A28 L29 h H locs hP hS ls hl
        subst ek25
        refine lv_aload_n hx hb dX6_second_112 rfl (lv_at hl 0 rfl) ?_
        refine vgC hx hb hts hi6 hown hK hP (0) (by decide) (show kd 0 = 6 by decide) (C := RX6) (T := TX6) (N := 18) rfl 12 (by decide) (by decide) (by decide) (by decide) (46) rfl (hts (.fieldLink RX6 86 "CrateHelpers" "secondTree" "LCrateHelpers$Tree;") (by decide +kernel)) (fun _ h9 => h9) dX6_second_113 ?_
        refine lv_iload hx hb dX6_second_116 (lv_at hl 1 rfl) ?_
        refine lv_aload_n hx hb dX6_second_118 rfl (lv_at hl 0 rfl) ?_
        refine vgC hx hb hts hi6 hown hK hP (0) (by decide) (show kd 0 = 6 by decide) (C := RX6) (T := TX6) (N := 18) rfl 13 (by decide) (by decide) (by decide) (by decide) (19) rfl (hts (.fieldLink RX6 52 "CrateHelpers" "secondRow" "[I") (by decide +kernel)) (fun _ h9 => h9) dX6_second_119 ?_
        refine lv_iconst (v := 0) hx hb dX6_second_122 (by decide) ?_
        obtain ⟨A30, hc31, h⟩ := Option.bind_eq_some_iff.mp h
        refine ecVv (As := [.int v26, .ref (ad 19), .int 0]) (rest := []) ⟨hx, hb, hml, hown, hts⟩ (e_X5_copyValues l D K ad hap0 46 v26 19 0 I27 G11 A28 L29 A30 hc31) (cwV 3 hts gX6_second_X5_copyValues rfl rfl rfl (by decide +kernel) ⟨Nat.le_of_ble_eq_true rfl, Nat.le_of_ble_eq_true rfl⟩) hK hP hS (by decide) (show kd 46 = 5 by decide) (by decide) rfl rfl rfl hl.1 (Nat.le_of_ble_eq_true rfl) (Nat.le_of_ble_eq_true rfl) (Nat.le_of_ble_eq_true rfl) dX6_second_123 (fun H locs hP hS => ?_) rfl
        have hP : va_P D vwCl (VW K ad I27 G11 A30 L29) H := hP
        refine lv_aload_n hx hb dX6_second_126 rfl (lv_at hl 0 rfl) ?_
        refine vgC hx hb hts hi6 hown hK hP (0) (by decide) (show kd 0 = 6 by decide) (C := RX6) (T := TX6) (N := 18) rfl 12 (by decide) (by decide) (by decide) (by decide) (46) rfl (hts (.fieldLink RX6 86 "CrateHelpers" "secondTree" "LCrateHelpers$Tree;") (by decide +kernel)) (fun _ h9 => h9) dX6_second_127 ?_
        refine lv_iload hx hb dX6_second_130 (lv_at hl 1 rfl) ?_
        obtain ⟨r32, hc33, h⟩ := Option.bind_eq_some_iff.mp h
        refine ecV (As := [.int v26]) (rest := []) ⟨hx, hb, hml, hown, hts⟩ (e_X5_boundOf l D K ad hap0 46 v26 I27 G11 A30 L29 r32 hc33) (cwV 1 hts gX6_second_X5_boundOf rfl rfl rfl (by decide +kernel) ⟨Nat.le_of_ble_eq_true rfl, Nat.le_of_ble_eq_true rfl⟩) hK hP hS (by decide) (show kd 46 = 5 by decide) (by decide) rfl rfl rfl hl.1 (Nat.le_of_ble_eq_true rfl) (Nat.le_of_ble_eq_true rfl) (Nat.le_of_ble_eq_true rfl) dX6_second_132 (fun H locs hP hS => ?_) rfl
        have hP : va_P D vwCl (VW K ad I27 G11 A30 L29) H := hP
        exact W.iret (v := r32) hx hb hr (fun t9 ht9 hW9 => ⟨⟨r32, (I27, G11, A30, L29), rfl, by cases h; exact ⟨rfl, rfl⟩, by rw [ht9]; exact hP, va_K.moved hW9.alike hK⟩, hS.F ht9⟩) hS.2.2 dX6_second_135
      obtain ⟨k34, ek34, h⟩ := bd_e h
      have kk34 : ∀ (I35 : Nat → Nat → Int32) (A36 : Nat → Nat → Int32) (L37 : Nat → Nat → Int64), k34 I35 A36 L37 = some (r0, I0, G0, A0, L0) → ∀ (H : Heap) (locs : List Loc), va_P D vwCl (VW K ad I35 G11 A36 L37) H → va_S (vF ad s.heap.size) s.heap H locs → ∀ (ls : Array Slot), lv_has ls 6 [(0, .ref (ad 0))] → W p l e ({ frames := 6, cells := 0, slots := 0, locals := 211 }) s m ([.ref (ad 0), .int a1, .int a2] : List Value).toArray below meth c H locs 0 0 (MQ below (va_Qi (fun (r : Int32) (u : Mem) => r = r0 ∧ u = (I0, G0, A0, L0)) (vB D K ad) (vF ad s.heap.size)) ([.ref (ad 0), .int a1, .int a2] : List Value).toArray s 0 0 (vF ad s.heap.size)) (F0 m 145 ls []) := by
        intro I35 A36 L37 h H locs hP hS ls hl
        subst ek34
        refine lv_aload_n hx hb dX6_second_145 rfl (lv_at hl 0 rfl) ?_
        refine vgC hx hb hts hi6 hown hK hP (0) (by decide) (show kd 0 = 6 by decide) (C := RX6) (T := TX6) (N := 18) rfl 12 (by decide) (by decide) (by decide) (by decide) (46) rfl (hts (.fieldLink RX6 86 "CrateHelpers" "secondTree" "LCrateHelpers$Tree;") (by decide +kernel)) (fun _ h9 => h9) dX6_second_146 ?_
        obtain ⟨r38, hc39, h⟩ := Option.bind_eq_some_iff.mp h
        refine ecV (As := []) (rest := []) ⟨hx, hb, hml, hown, hts⟩ (e_X5_nextOfWalk l D K ad hap0 46 I35 G11 A36 L37 r38 hc39) (cwV 0 hts gX6_second_X5_nextOfWalk rfl rfl rfl (by decide +kernel) ⟨Nat.le_of_ble_eq_true rfl, Nat.le_of_ble_eq_true rfl⟩) hK hP hS (by decide) (show kd 46 = 5 by decide) (by decide) rfl rfl rfl hl.1 (Nat.le_of_ble_eq_true rfl) (Nat.le_of_ble_eq_true rfl) (Nat.le_of_ble_eq_true rfl) dX6_second_149 (fun H locs hP hS => ?_) rfl
        have hP : va_P D vwCl (VW K ad I35 G11 A36 L37) H := hP
        refine lv_iconst (v := (-1)) hx hb dX6_second_152 (by decide) ?_
        refine lv_icmp_ne (tgt := 162) hx hb dX6_second_153 (by decide) (fun c_40 => ?_) (fun c_40 => ?_)
        · have h := iN c_40 h
          refine lv_ldcw (v := (-1000001)) hx hb hown (hts (.constant RX6 284 (-1000001)) (by decide +kernel)) dX6_second_162 ?_
          exact W.iret (v := (-1000001)) hx hb hr (fun t9 ht9 hW9 => ⟨⟨(-1000001), (I35, G11, A36, L37), rfl, by cases h; exact ⟨rfl, rfl⟩, by rw [ht9]; exact hP, va_K.moved hW9.alike hK⟩, hS.F ht9⟩) hS.2.2 dX6_second_165
        · have h := ip c_40 h
          refine lv_ldcw (v := (-1000000)) hx hb hown (hts (.constant RX6 269 (-1000000)) (by decide +kernel)) dX6_second_156 ?_
          refine lv_goto (tgt := 165) hx hb dX6_second_159 (by decide) ?_
          exact W.iret (v := (-1000000)) hx hb hr (fun t9 ht9 hW9 => ⟨⟨(-1000000), (I35, G11, A36, L37), rfl, by cases h; exact ⟨rfl, rfl⟩, by rw [ht9]; exact hP, va_K.moved hW9.alike hK⟩, hS.F ht9⟩) hS.2.2 dX6_second_165
      have lp15 : ∀ (n : Nat) (v16 : Int32) (v17 : Int32) (I18 : Nat → Nat → Int32) (A19 : Nat → Nat → Int32) (L20 : Nat → Nat → Int64), f_X6_second_L50 G11 k21 k25 k34 n v16 v17 I18 A19 L20 = some (r0, I0, G0, A0, L0) → ∀ (H : Heap) (locs : List Loc), va_P D vwCl (VW K ad I18 G11 A19 L20) H → va_S (vF ad s.heap.size) s.heap H locs → ∀ (ls : Array Slot), lv_has ls 6 [(4, .int v16), (3, .int v17), (0, .ref (ad 0))] → W p l e ({ frames := 6, cells := 0, slots := 0, locals := 211 }) s m ([.ref (ad 0), .int a1, .int a2] : List Value).toArray below meth c H locs 0 0 (MQ below (va_Qi (fun (r : Int32) (u : Mem) => r = r0 ∧ u = (I0, G0, A0, L0)) (vB D K ad) (vF ad s.heap.size)) ([.ref (ad 0), .int a1, .int a2] : List Value).toArray s 0 0 (vF ad s.heap.size)) (F0 m 50 ls []) := by
        intro n
        induction n with
        | zero => intro v16 v17 I18 A19 L20 h; exact absurd h (by rw [f_X6_second_L50]; exact nofun)
        | succ n ih15 =>
          intro v16 v17 I18 A19 L20 h H locs hP hS ls hl
          rw [f_X6_second_L50] at h
          refine lv_iload hx hb dX6_second_50 (lv_at hl 0 rfl) ?_
          refine lv_sipush (v := 250) hx hb dX6_second_52 (by decide) ?_
          refine lv_icmp_ge (tgt := 145) hx hb dX6_second_55 (by decide) (fun c_41 => ?_) (fun c_41 => ?_)
          · have h := iN (Int32.not_lt.mpr c_41) h
            exact kk34 I18 A19 L20 h _ _ hP hS ls (lv_sub hl [2] rfl)
          · have h := ip (Int32.not_le.mp c_41) h
            refine lv_aload_n hx hb dX6_second_58 rfl (lv_at hl 2 rfl) ?_
            refine vgC hx hb hts hi6 hown hK hP (0) (by decide) (show kd 0 = 6 by decide) (C := RX6) (T := TX6) (N := 18) rfl 12 (by decide) (by decide) (by decide) (by decide) (46) rfl (hts (.fieldLink RX6 86 "CrateHelpers" "secondTree" "LCrateHelpers$Tree;") (by decide +kernel)) (fun _ h9 => h9) dX6_second_59 ?_
            obtain ⟨r42, hc43, h⟩ := Option.bind_eq_some_iff.mp h
            refine ecV (As := []) (rest := []) ⟨hx, hb, hml, hown, hts⟩ (e_X5_nextOfWalk l D K ad hap0 46 I18 G11 A19 L20 r42 hc43) (cwV 0 hts gX6_second_X5_nextOfWalk rfl rfl rfl (by decide +kernel) ⟨Nat.le_of_ble_eq_true rfl, Nat.le_of_ble_eq_true rfl⟩) hK hP hS (by decide) (show kd 46 = 5 by decide) (by decide) rfl rfl rfl hl.1 (Nat.le_of_ble_eq_true rfl) (Nat.le_of_ble_eq_true rfl) (Nat.le_of_ble_eq_true rfl) dX6_second_62 (fun H locs hP hS => ?_) rfl
            have hP : va_P D vwCl (VW K ad I18 G11 A19 L20) H := hP
            refine lv_istore (lv' := [(5, .int r42), (4, .int v16), (3, .int v17), (0, .ref (ad 0))]) hx hb dX6_second_65 hl (by decide) rfl (fun ls hl => ?_)
            refine lv_iload hx hb dX6_second_67 (lv_at hl 0 rfl) ?_
            refine lv_iconst (v := (-1)) hx hb dX6_second_69 (by decide) ?_
            refine lv_icmp_ne (tgt := 77) hx hb dX6_second_70 (by decide) (fun c_44 => ?_) (fun c_44 => ?_)
            · have h := iN c_44 h
              refine lv_aload_n hx hb dX6_second_77 rfl (lv_at hl 3 rfl) ?_
              refine vgC hx hb hts hi6 hown hK hP (0) (by decide) (show kd 0 = 6 by decide) (C := RX6) (T := TX6) (N := 18) rfl 12 (by decide) (by decide) (by decide) (by decide) (46) rfl (hts (.fieldLink RX6 86 "CrateHelpers" "secondTree" "LCrateHelpers$Tree;") (by decide +kernel)) (fun _ h9 => h9) dX6_second_78 ?_
              refine lv_iload hx hb dX6_second_81 (lv_at hl 0 rfl) ?_
              refine lv_iconst (v := 0) hx hb dX6_second_83 (by decide) ?_
              obtain ⟨⟨I45, A46, L47⟩, hc48, h⟩ := Option.bind_eq_some_iff.mp h
              refine ecVv (As := [.int r42, .int 0]) (rest := []) ⟨hx, hb, hml, hown, hts⟩ (e_X5_finish l D K ad hap0 46 r42 0 I18 G11 A19 L20 I45 A46 L47 hc48) (cwV 2 hts gX6_second_X5_finish rfl rfl rfl (by decide +kernel) ⟨Nat.le_of_ble_eq_true rfl, Nat.le_of_ble_eq_true rfl⟩) hK hP hS (by decide) (show kd 46 = 5 by decide) (by decide) rfl rfl rfl hl.1 (Nat.le_of_ble_eq_true rfl) (Nat.le_of_ble_eq_true rfl) (Nat.le_of_ble_eq_true rfl) dX6_second_84 (fun H locs hP hS => ?_) rfl
              have hP : va_P D vwCl (VW K ad I45 G11 A46 L47) H := hP
              refine lv_aload_n hx hb dX6_second_87 rfl (lv_at hl 3 rfl) ?_
              refine vgC hx hb hts hi6 hown hK hP (0) (by decide) (show kd 0 = 6 by decide) (C := RX6) (T := TX6) (N := 18) rfl 12 (by decide) (by decide) (by decide) (by decide) (46) rfl (hts (.fieldLink RX6 86 "CrateHelpers" "secondTree" "LCrateHelpers$Tree;") (by decide +kernel)) (fun _ h9 => h9) dX6_second_88 ?_
              refine lv_iload hx hb dX6_second_91 (lv_at hl 0 rfl) ?_
              obtain ⟨⟨I49, A50⟩, hc51, h⟩ := Option.bind_eq_some_iff.mp h
              refine ecVv (As := [.int r42]) (rest := []) ⟨hx, hb, hml, hown, hts⟩ (e_X5_take l D K ad hap0 46 r42 I45 G11 A46 L47 I49 A50 hc51) (cwV 1 hts gX6_second_X5_take rfl rfl rfl (by decide +kernel) ⟨Nat.le_of_ble_eq_true rfl, Nat.le_of_ble_eq_true rfl⟩) hK hP hS (by decide) (show kd 46 = 5 by decide) (by decide) rfl rfl rfl hl.1 (Nat.le_of_ble_eq_true rfl) (Nat.le_of_ble_eq_true rfl) (Nat.le_of_ble_eq_true rfl) dX6_second_93 (fun H locs hP hS => ?_) rfl
              have hP : va_P D vwCl (VW K ad I49 G11 A50 L47) H := hP
              refine lv_aload_n hx hb dX6_second_96 rfl (lv_at hl 3 rfl) ?_
              refine vgC hx hb hts hi6 hown hK hP (0) (by decide) (show kd 0 = 6 by decide) (C := RX6) (T := TX6) (N := 18) rfl 12 (by decide) (by decide) (by decide) (by decide) (46) rfl (hts (.fieldLink RX6 86 "CrateHelpers" "secondTree" "LCrateHelpers$Tree;") (by decide +kernel)) (fun _ h9 => h9) dX6_second_97 ?_
              refine lv_iload hx hb dX6_second_100 (lv_at hl 0 rfl) ?_
              obtain ⟨r52, hc53, h⟩ := Option.bind_eq_some_iff.mp h
              refine ecV (As := [.int r42]) (rest := []) ⟨hx, hb, hml, hown, hts⟩ (e_X5_isFull l D K ad hap0 46 r42 I49 G11 A50 L47 r52 hc53) (cwV 1 hts gX6_second_X5_isFull rfl rfl rfl (by decide +kernel) ⟨Nat.le_of_ble_eq_true rfl, Nat.le_of_ble_eq_true rfl⟩) hK hP hS (by decide) (show kd 46 = 5 by decide) (by decide) rfl rfl rfl hl.1 (Nat.le_of_ble_eq_true rfl) (Nat.le_of_ble_eq_true rfl) (Nat.le_of_ble_eq_true rfl) dX6_second_102 (fun H locs hP hS => ?_) rfl
              have hP : va_P D vwCl (VW K ad I49 G11 A50 L47) H := hP
              refine lv_if_eq (tgt := 139) hx hb dX6_second_105 (by decide) (fun c_54 => ?_) (fun c_54 => ?_)
              · have h := ip c_54 h
                refine lv_iinc (v := (v16 + 1)) (lv' := [(4, .int (v16 + 1)), (5, .int r42), (3, .int v17), (0, .ref (ad 0))]) hx hb dX6_second_139 hl (k := 1) rfl rfl (by decide) rfl (fun ls hl => ?_)
                refine lv_goto (tgt := 50) hx hb dX6_second_142 (by decide) ?_
                exact ih15 (v16 + 1) v17 I49 A50 L47 h _ _ hP hS ls (lv_sub hl [0, 2, 3] rfl)
              · have h := iN c_54 h
                refine lv_iload_n hx hb dX6_second_108 rfl (lv_at hl 2 rfl) ?_
                refine lv_if_ne (tgt := 136) hx hb dX6_second_109 (by decide) (fun c_55 => ?_) (fun c_55 => ?_)
                · have h := iN c_55 h
                  refine lv_iinc (v := (v17 + (-1))) (lv' := [(3, .int (v17 + (-1))), (5, .int r42), (4, .int v16), (0, .ref (ad 0))]) hx hb dX6_second_136 hl (k := 2) rfl rfl (by decide) rfl (fun ls hl => ?_)
                  refine lv_iinc (v := (v16 + 1)) (lv' := [(4, .int (v16 + 1)), (3, .int (v17 + (-1))), (5, .int r42), (0, .ref (ad 0))]) hx hb dX6_second_139 hl (k := 2) rfl rfl (by decide) rfl (fun ls hl => ?_)
                  refine lv_goto (tgt := 50) hx hb dX6_second_142 (by decide) ?_
                  exact ih15 (v16 + 1) (v17 + (-1)) I49 A50 L47 h _ _ hP hS ls (lv_sub hl [0, 1, 3] rfl)
                · have h := ip c_55 h
                  exact kk25 r42 I49 A50 L47 h _ _ hP hS ls (lv_sub hl [3, 0] rfl)
            · have h := ip c_44 h
              exact kk21 I18 A19 L20 h _ _ hP hS ls (lv_sub hl [] rfl)
      exact lp15 FU 0 a2 I10 A12 L13 h _ _ hP hS ls (lv_sub hl [0, 1, 2] rfl)
    · have h := ip c_6 h
      refine lv_ldcw (v := (-1000002)) hx hb hown (hts (.constant RX6 261 (-1000002)) (by decide +kernel)) dX6_second_18 ?_
      exact W.iret (v := (-1000002)) hx hb hr (fun t9 ht9 hW9 => ⟨⟨(-1000002), (I, G, A, L), rfl, by cases h; exact ⟨rfl, rfl⟩, by rw [ht9]; exact hP, va_K.moved hW9.alike hK⟩, hS.F ht9⟩) hS.2.2 dX6_second_21
set_option maxHeartbeats 4000000 in
set_option maxRecDepth 100000 in
theorem e_X6_solve (l : Launch) (D : va_G) (K : Nat → ClassId) (ad : Nat → Nat) (hap0 : apart ad (fun _ => True)) (a1 : Int32) (a2 : Int32) (I : Nat → Nat → Int32) (G : Nat → Nat → Nat) (A : Nat → Nat → Int32) (L : Nat → Nat → Int64) (r0 : Int32) (I0 : Nat → Nat → Int32) (G0 : Nat → Nat → Nat) (A0 : Nat → Nat → Int32) (L0 : Nat → Nat → Int64) (h : f_X6_solve I G A L a1 a2 = some (r0, I0, G0, A0, L0)) : Ci l D K ad yX6_solve wsX6_solve 7 235 [.ref (ad 0), .int a1, .int a2] (I, G, A, L) (fun (r : Int32) (u : Mem) => r = r0 ∧ u = (I0, G0, A0, L0)) := by
  intro sz
  refine Met.ofW (cc := cX6_solve) (maxL := 5) (ret := (some .int)) (by decide) rfl ?_
  intro p e s m args below meth c s₁ Bd hml hv0
  obtain ⟨rfl, hsz, hP, hK⟩ := hv0
  have hx := Bd.exec
  have hb := Bd.bytes
  have hr := Bd.returns
  have hts := atoms_spec (ws := wsX6_solve) Bd.pre
  have hown : s.vm.findClass RX6 = some m.cls := findClass_of_methodNamed Bd.named
  have hlocks := Bd.notSynchronized
  have hi6 : ∀ w ∈ u_ws RX6 TX6 18, w ∈ wsX6_solve := fun w h => List.mem_cons_of_mem _ (List.mem_append_left _ (List.mem_append_left _ (List.mem_append_left _ (List.mem_append_left _ (List.mem_append_left _ (List.mem_append_left _ (List.mem_append_right _ h)))))))
  have hi3 : ∀ w ∈ u_ws RX3 TX3 6, w ∈ wsX6_solve := fun w h => List.mem_cons_of_mem _ (List.mem_append_left _ (List.mem_append_left _ (List.mem_append_left _ (List.mem_append_left _ (List.mem_append_left _ (List.mem_append_right _ h))))))
  have hi4 : ∀ w ∈ u_ws RX4 TX4 7, w ∈ wsX6_solve := fun w h => List.mem_cons_of_mem _ (List.mem_append_left _ (List.mem_append_left _ (List.mem_append_left _ (List.mem_append_left _ (List.mem_append_right _ h)))))
  have hi5 : ∀ w ∈ u_ws RX5 TX5 16, w ∈ wsX6_solve := fun w h => List.mem_cons_of_mem _ (List.mem_append_left _ (List.mem_append_left _ (List.mem_append_left _ (List.mem_append_right _ h))))
  have hi1 : ∀ w ∈ u_ws RX1 TX1 9, w ∈ wsX6_solve := fun w h => List.mem_cons_of_mem _ (List.mem_append_left _ (List.mem_append_left _ (List.mem_append_right _ h)))
  have hi0 : ∀ w ∈ u_ws RX0 TX0 3, w ∈ wsX6_solve := fun w h => List.mem_cons_of_mem _ (List.mem_append_left _ (List.mem_append_right _ h))
  have hi2 : ∀ w ∈ u_ws RX2 TX2 7, w ∈ wsX6_solve := fun w h => List.mem_cons_of_mem _ (List.mem_append_right _ h)
  subst hsz
  have hap := vF_ap hap0 s.heap.size
  have hS : va_S (vF ad s.heap.size) s.heap s.heap [] := va_S.rf
  have hP : va_P D vwCl (VW K ad I G A L) s.heap := hP
  have hl := lv_entry ([.ref (ad 0), .int a1, .int a2]) (n := 5) (Nat.le_of_ble_eq_true rfl)
  rw [lg_entry_eq]
  generalize (lg_sl ([.ref (ad 0), .int a1, .int a2]) ++ List.replicate (5 - (lg_sl ([.ref (ad 0), .int a1, .int a2])).length) Slot.unset).toArray = ls at hl ⊢
  have hl : lv_has ls 5 [(0, .ref (ad 0)), (1, .int a1), (2, .int a2)] := hl
  rw [f_X6_solve] at h
  refine lv_aload_n hx hb dX6_solve_0 rfl (lv_at hl 0 rfl) ?_
  refine lv_iload_n hx hb dX6_solve_1 rfl (lv_at hl 1 rfl) ?_
  obtain ⟨r1, hc2, h⟩ := Option.bind_eq_some_iff.mp h
  refine ecV (As := [.int a1]) (rest := []) ⟨hx, hb, hml, hown, hts⟩ (e_X6_isProblem l D K ad hap0 a1 I G A L r1 hc2) (cwV 1 hts gX6_solve_X6_isProblem rfl rfl rfl (by decide +kernel) ⟨Nat.le_of_ble_eq_true rfl, Nat.le_of_ble_eq_true rfl⟩) hK hP hS (by decide) (show kd 0 = 6 by decide) (by decide) rfl rfl rfl hl.1 (Nat.le_of_ble_eq_true rfl) (Nat.le_of_ble_eq_true rfl) (Nat.le_of_ble_eq_true rfl) dX6_solve_2 (fun H locs hP hS => ?_) rfl
  have hP : va_P D vwCl (VW K ad I G A L) H := hP
  refine lv_if_eq (tgt := 19) hx hb dX6_solve_5 (by decide) (fun c_3 => ?_) (fun c_3 => ?_)
  · have h := ip c_3 h
    refine lv_iconst (v := (-1)) hx hb dX6_solve_19 (by decide) ?_
    exact W.iret (v := (-1)) hx hb hr (fun t9 ht9 hW9 => ⟨⟨(-1), (I, G, A, L), rfl, by cases h; exact ⟨rfl, rfl⟩, by rw [ht9]; exact hP, va_K.moved hW9.alike hK⟩, hS.F ht9⟩) hS.2.2 dX6_solve_20
  · have h := iN c_3 h
    refine lv_iload_n hx hb dX6_solve_8 rfl (lv_at hl 2 rfl) ?_
    refine lv_iconst (v := 1) hx hb dX6_solve_9 (by decide) ?_
    refine lv_sipush (v := 500) hx hb dX6_solve_10 (by decide) ?_
    obtain ⟨r4, hc5, h⟩ := Option.bind_eq_some_iff.mp h
    refine ecS (As := [.int a2, .int 1, .int 500]) (rest := []) ⟨hx, hb, hml, hown, hts⟩ (e_X6_isWithin l D K ad hap0 a2 1 500 I G A L r4 hc5) (va_cwS 3 hts gX6_solve_X6_isWithin rfl rfl rfl (by decide +kernel) ⟨Nat.le_of_ble_eq_true rfl, Nat.le_of_ble_eq_true rfl⟩) hK hP hS rfl hl.1 (Nat.le_of_ble_eq_true rfl) (Nat.le_of_ble_eq_true rfl) (Nat.le_of_ble_eq_true rfl) dX6_solve_13 (fun H locs hP hS => ?_) rfl
    have hP : va_P D vwCl (VW K ad I G A L) H := hP
    refine lv_if_ne (tgt := 21) hx hb dX6_solve_16 (by decide) (fun c_6 => ?_) (fun c_6 => ?_)
    · have h := iN c_6 h
      refine lv_aload_n hx hb dX6_solve_21 rfl (lv_at hl 0 rfl) ?_
      refine vgI hx hb hts hi6 hown hK hP (0) (by decide) (show kd 0 = 6 by decide) (C := RX6) (T := TX6) (N := 18) rfl 5 (by decide) (by decide) (by decide) (by decide) (hts (.fieldLink RX6 29 "CrateHelpers" "underWay" "I") (by decide +kernel)) (fun _ h9 => h9) dX6_solve_22 ?_
      refine lv_bipush (v := (-9)) hx hb dX6_solve_25 (by decide) ?_
      obtain ⟨j8, ej8, h⟩ := bd_e h
      have kj8 : ∀ (_ : Unit), j8 () = some (r0, I0, G0, A0, L0) → ∀ (H : Heap) (locs : List Loc), va_P D vwCl (VW K ad I G A L) H → va_S (vF ad s.heap.size) s.heap H locs → ∀ (ls : Array Slot), lv_has ls 5 [(0, .ref (ad 0)), (1, .int a1), (2, .int a2)] → W p l e ({ frames := 7, cells := 0, slots := 0, locals := 235 }) s m ([.ref (ad 0), .int a1, .int a2] : List Value).toArray below meth c H locs 0 0 (MQ below (va_Qi (fun (r : Int32) (u : Mem) => r = r0 ∧ u = (I0, G0, A0, L0)) (vB D K ad) (vF ad s.heap.size)) ([.ref (ad 0), .int a1, .int a2] : List Value).toArray s 0 0 (vF ad s.heap.size)) (F0 m 41 ls []) := by
        intro _ h H locs hP hS ls hl
        subst ej8
        refine lv_iconst (v := 0) hx hb dX6_solve_41 (by decide) ?_
        refine lv_istore_n (lv' := [(3, .int 0), (0, .ref (ad 0)), (1, .int a1), (2, .int a2)]) hx hb dX6_solve_42 rfl hl (by decide) rfl (fun ls hl => ?_)
        refine lv_aload_n hx hb dX6_solve_43 rfl (lv_at hl 1 rfl) ?_
        refine vgI hx hb hts hi6 hown hK hP (0) (by decide) (show kd 0 = 6 by decide) (C := RX6) (T := TX6) (N := 18) rfl 5 (by decide) (by decide) (by decide) (by decide) (hts (.fieldLink RX6 29 "CrateHelpers" "underWay" "I") (by decide +kernel)) (fun _ h9 => h9) dX6_solve_44 ?_
        refine lv_bipush (v := (-9)) hx hb dX6_solve_47 (by decide) ?_
        obtain ⟨j22, ej22, h⟩ := bd_e h
        have kj22 : ∀ (v17 : Int32) (I18 : Nat → Nat → Int32) (G19 : Nat → Nat → Nat) (A20 : Nat → Nat → Int32) (L21 : Nat → Nat → Int64), j22 v17 I18 G19 A20 L21 = some (r0, I0, G0, A0, L0) → ∀ (H : Heap) (locs : List Loc), va_P D vwCl (VW K ad I18 G19 A20 L21) H → va_S (vF ad s.heap.size) s.heap H locs → ∀ (ls : Array Slot), lv_has ls 5 [(3, .int v17), (0, .ref (ad 0)), (2, .int a2)] → W p l e ({ frames := 7, cells := 0, slots := 0, locals := 235 }) s m ([.ref (ad 0), .int a1, .int a2] : List Value).toArray below meth c H locs 0 0 (MQ below (va_Qi (fun (r : Int32) (u : Mem) => r = r0 ∧ u = (I0, G0, A0, L0)) (vB D K ad) (vF ad s.heap.size)) ([.ref (ad 0), .int a1, .int a2] : List Value).toArray s 0 0 (vF ad s.heap.size)) (F0 m 79 ls []) := by
          intro v17 I18 G19 A20 L21 h H locs hP hS ls hl
          subst ej22
          refine lv_iconst (v := 0) hx hb dX6_solve_79 (by decide) ?_
          refine lv_istore (lv' := [(4, .int 0), (3, .int v17), (0, .ref (ad 0)), (2, .int a2)]) hx hb dX6_solve_80 hl (by decide) rfl (fun ls hl => ?_)
          obtain ⟨k29, ek29, h⟩ := bd_e h
          have kk29 : ∀ (v30 : Int32) (I31 : Nat → Nat → Int32) (A32 : Nat → Nat → Int32) (L33 : Nat → Nat → Int64), k29 v30 I31 A32 L33 = some (r0, I0, G0, A0, L0) → ∀ (H : Heap) (locs : List Loc), va_P D vwCl (VW K ad I31 G19 A32 L33) H → va_S (vF ad s.heap.size) s.heap H locs → ∀ (ls : Array Slot), lv_has ls 5 [(0, .ref (ad 0)), (3, .int v30)] → W p l e ({ frames := 7, cells := 0, slots := 0, locals := 235 }) s m ([.ref (ad 0), .int a1, .int a2] : List Value).toArray below meth c H locs 0 0 (MQ below (va_Qi (fun (r : Int32) (u : Mem) => r = r0 ∧ u = (I0, G0, A0, L0)) (vB D K ad) (vF ad s.heap.size)) ([.ref (ad 0), .int a1, .int a2] : List Value).toArray s 0 0 (vF ad s.heap.size)) (F0 m 106 ls []) := by
            intro v30 I31 A32 L33 h H locs hP hS ls hl
            subst ek29
            refine lv_iload_n hx hb dX6_solve_106 rfl (lv_at hl 1 rfl) ?_
            refine lv_if_eq (tgt := 115) hx hb dX6_solve_107 (by decide) (fun c_34 => ?_) (fun c_34 => ?_)
            · have h := ip c_34 h
              refine lv_iload_n hx hb dX6_solve_115 rfl (lv_at hl 1 rfl) ?_
              exact W.iret (v := v30) hx hb hr (fun t9 ht9 hW9 => ⟨⟨v30, (I31, G19, A32, L33), rfl, by cases h; exact ⟨rfl, rfl⟩, by rw [ht9]; exact hP, va_K.moved hW9.alike hK⟩, hS.F ht9⟩) hS.2.2 dX6_solve_116
            · have h := iN c_34 h
              refine lv_aload_n hx hb dX6_solve_110 rfl (lv_at hl 0 rfl) ?_
              refine lv_iload_n hx hb dX6_solve_111 rfl (lv_at hl 1 rfl) ?_
              obtain ⟨⟨I35, G36, A37⟩, hc38, h⟩ := Option.bind_eq_some_iff.mp h
              refine ecVv (As := [.int v30]) (rest := []) ⟨hx, hb, hml, hown, hts⟩ (e_X6_endSolving l D K ad hap0 v30 I31 G19 A32 L33 I35 G36 A37 hc38) (cwV 1 hts gX6_solve_X6_endSolving rfl rfl rfl (by decide +kernel) ⟨Nat.le_of_ble_eq_true rfl, Nat.le_of_ble_eq_true rfl⟩) hK hP hS (by decide) (show kd 0 = 6 by decide) (by decide) rfl rfl rfl hl.1 (Nat.le_of_ble_eq_true rfl) (Nat.le_of_ble_eq_true rfl) (Nat.le_of_ble_eq_true rfl) dX6_solve_112 (fun H locs hP hS => ?_) rfl
              have hP : va_P D vwCl (VW K ad I35 G36 A37 L33) H := hP
              refine lv_iload_n hx hb dX6_solve_115 rfl (lv_at hl 1 rfl) ?_
              exact W.iret (v := v30) hx hb hr (fun t9 ht9 hW9 => ⟨⟨v30, (I35, G36, A37, L33), rfl, by cases h; exact ⟨rfl, rfl⟩, by rw [ht9]; exact hP, va_K.moved hW9.alike hK⟩, hS.F ht9⟩) hS.2.2 dX6_solve_116
          have lp23 : ∀ (n : Nat) (v24 : Int32) (v25 : Int32) (I26 : Nat → Nat → Int32) (A27 : Nat → Nat → Int32) (L28 : Nat → Nat → Int64), f_X6_solve_L82 a2 G19 k29 n v24 v25 I26 A27 L28 = some (r0, I0, G0, A0, L0) → ∀ (H : Heap) (locs : List Loc), va_P D vwCl (VW K ad I26 G19 A27 L28) H → va_S (vF ad s.heap.size) s.heap H locs → ∀ (ls : Array Slot), lv_has ls 5 [(4, .int v24), (3, .int v25), (0, .ref (ad 0)), (2, .int a2)] → W p l e ({ frames := 7, cells := 0, slots := 0, locals := 235 }) s m ([.ref (ad 0), .int a1, .int a2] : List Value).toArray below meth c H locs 0 0 (MQ below (va_Qi (fun (r : Int32) (u : Mem) => r = r0 ∧ u = (I0, G0, A0, L0)) (vB D K ad) (vF ad s.heap.size)) ([.ref (ad 0), .int a1, .int a2] : List Value).toArray s 0 0 (vF ad s.heap.size)) (F0 m 82 ls []) := by
            intro n
            induction n with
            | zero => intro v24 v25 I26 A27 L28 h; exact absurd h (by rw [f_X6_solve_L82]; exact nofun)
            | succ n ih23 =>
              intro v24 v25 I26 A27 L28 h H locs hP hS ls hl
              rw [f_X6_solve_L82] at h
              refine lv_iload hx hb dX6_solve_82 (lv_at hl 0 rfl) ?_
              refine lv_iload_n hx hb dX6_solve_84 rfl (lv_at hl 3 rfl) ?_
              refine lv_icmp_ge (tgt := 106) hx hb dX6_solve_85 (by decide) (fun c_39 => ?_) (fun c_39 => ?_)
              · have h := iN (Int32.not_lt.mpr c_39) h
                exact kk29 v25 I26 A27 L28 h _ _ hP hS ls (lv_sub hl [2, 1] rfl)
              · have h := ip (Int32.not_le.mp c_39) h
                refine lv_iload_n hx hb dX6_solve_88 rfl (lv_at hl 1 rfl) ?_
                refine lv_if_ne (tgt := 106) hx hb dX6_solve_89 (by decide) (fun c_40 => ?_) (fun c_40 => ?_)
                · have h := iN c_40 h
                  exact kk29 v25 I26 A27 L28 h _ _ hP hS ls (lv_sub hl [2, 1] rfl)
                · have h := ip c_40 h
                  refine lv_aload_n hx hb dX6_solve_92 rfl (lv_at hl 2 rfl) ?_
                  refine vgC hx hb hts hi6 hown hK hP (0) (by decide) (show kd 0 = 6 by decide) (C := RX6) (T := TX6) (N := 18) rfl 4 (by decide) (by decide) (by decide) (by decide) (14) rfl (hts (.fieldLink RX6 73 "CrateHelpers" "solving" "LCrateHelpers$Solving;") (by decide +kernel)) (fun _ h9 => h9) dX6_solve_93 ?_
                  obtain ⟨⟨r41, I42, A43, L44⟩, hc45, h⟩ := Option.bind_eq_some_iff.mp h
                  refine ecV (As := []) (rest := []) ⟨hx, hb, hml, hown, hts⟩ (e_X3_takeTurn l D K ad hap0  I26 G19 A27 L28 r41 I42 A43 L44 hc45) (cwV 0 hts gX6_solve_X3_takeTurn rfl rfl rfl (by decide +kernel) ⟨Nat.le_of_ble_eq_true rfl, Nat.le_of_ble_eq_true rfl⟩) hK hP hS (by decide) (show kd 14 = 3 by decide) (by decide) rfl rfl rfl hl.1 (Nat.le_of_ble_eq_true rfl) (Nat.le_of_ble_eq_true rfl) (Nat.le_of_ble_eq_true rfl) dX6_solve_96 (fun H locs hP hS => ?_) rfl
                  have hP : va_P D vwCl (VW K ad I42 G19 A43 L44) H := hP
                  refine lv_istore_n (lv' := [(3, .int r41), (4, .int v24), (0, .ref (ad 0)), (2, .int a2)]) hx hb dX6_solve_99 rfl hl (by decide) rfl (fun ls hl => ?_)
                  refine lv_iinc (v := (v24 + 1)) (lv' := [(4, .int (v24 + 1)), (3, .int r41), (0, .ref (ad 0)), (2, .int a2)]) hx hb dX6_solve_100 hl (k := 1) rfl rfl (by decide) rfl (fun ls hl => ?_)
                  refine lv_goto (tgt := 82) hx hb dX6_solve_103 (by decide) ?_
                  exact ih23 (v24 + 1) r41 I42 A43 L44 h _ _ hP hS ls (lv_sub hl [0, 1, 2, 3] rfl)
          exact lp23 FU 0 v17 I18 A20 L21 h _ _ hP hS ls (lv_sub hl [0, 1, 2, 3] rfl)
        refine lv_icmp_ne (tgt := 79) hx hb dX6_solve_49 (by decide) (fun c_46 => ?_) (fun c_46 => ?_)
        · have h := iN c_46 h
          exact kj22 0 I G A L h _ _ hP hS ls (lv_sub hl [0, 1, 3] rfl)
        · have h := ip c_46 h
          refine lv_aload_n hx hb dX6_solve_52 rfl (lv_at hl 1 rfl) ?_
          refine lv_iload_n hx hb dX6_solve_53 rfl (lv_at hl 2 rfl) ?_
          refine vpI (v := a1) (ty := .int) hx hb hts hi6 tyX6 tyX6_ok nmX6 hown hK hP hap hS (0) (by decide) (show kd 0 = 6 by decide) (C := RX6) (T := TX6) (N := 18) rfl 5 (by decide) (by decide) (by decide) (by decide) (hts (.fieldLink RX6 29 "CrateHelpers" "underWay" "I") (by decide +kernel)) (fun _ h9 => h9) rfl (by decide +kernel) rfl rfl dX6_solve_54 (fun H locs hP hS => ?_)
          obtain ⟨I47, eI47, h⟩ := bd_e h
          rw [← eI47] at hP
          have hP : va_P D vwCl (VW K ad I47 G A L) H := hP
          refine lv_aload_n hx hb dX6_solve_57 rfl (lv_at hl 1 rfl) ?_
          refine vgC hx hb hts hi6 hown hK hP (0) (by decide) (show kd 0 = 6 by decide) (C := RX6) (T := TX6) (N := 18) rfl 4 (by decide) (by decide) (by decide) (by decide) (14) rfl (hts (.fieldLink RX6 73 "CrateHelpers" "solving" "LCrateHelpers$Solving;") (by decide +kernel)) (fun _ h9 => h9) dX6_solve_58 ?_
          refine lv_aload_n hx hb dX6_solve_61 rfl (lv_at hl 1 rfl) ?_
          refine vgC hx hb hts hi6 hown hK hP (0) (by decide) (show kd 0 = 6 by decide) (C := RX6) (T := TX6) (N := 18) rfl 0 (by decide) (by decide) (by decide) (by decide) (1) rfl (hts (.fieldLink RX6 11 "CrateHelpers" "problems" "[LCrateHelpers$Problem;") (by decide +kernel)) (fun _ h9 => h9) dX6_solve_62 ?_
          refine lv_iload_n hx hb dX6_solve_65 rfl (lv_at hl 2 rfl) ?_
          obtain ⟨hn48, h⟩ := gk h
          refine xaald hx hb hK hP (1) (by decide) 5 13 (show kd 1 = 13 by decide) (by decide) rfl (by rw [show ln 1 = 5 by decide]; exact hn48) (58 + 52 * a1.toNatClampNeg) (drf13 ((show kd 1 = 13 by decide))) dX6_solve_66 ?_
          refine lv_aload_n hx hb dX6_solve_67 rfl (lv_at hl 1 rfl) ?_
          refine vgC hx hb hts hi6 hown hK hP (0) (by decide) (show kd 0 = 6 by decide) (C := RX6) (T := TX6) (N := 18) rfl 2 (by decide) (by decide) (by decide) (by decide) (2) rfl (hts (.fieldLink RX6 22 "CrateHelpers" "team" "LCrateHelpers$Team;") (by decide +kernel)) (fun _ h9 => h9) dX6_solve_68 ?_
          refine lv_aload_n hx hb dX6_solve_71 rfl (lv_at hl 1 rfl) ?_
          refine vgI hx hb hts hi6 hown hK hP (0) (by decide) (show kd 0 = 6 by decide) (C := RX6) (T := TX6) (N := 18) rfl 3 (by decide) (by decide) (by decide) (by decide) (hts (.fieldLink RX6 26 "CrateHelpers" "nodeLimit" "I") (by decide +kernel)) (fun _ h9 => h9) dX6_solve_72 ?_
          obtain ⟨⟨r49, I50, G51, A52, L53⟩, hc54, h⟩ := Option.bind_eq_some_iff.mp h
          refine ecV (As := [.ref (ad (58 + 52 * a1.toNatClampNeg)), .ref (ad 2), .int (I47 0 3)]) (rest := []) ⟨hx, hb, hml, hown, hts⟩ (e_X3_begin l D K ad hap0 (58 + 52 * a1.toNatClampNeg) 2 (I47 0 3) I47 G A L r49 I50 G51 A52 L53 hc54) (cwV 3 hts gX6_solve_X3_begin rfl rfl rfl (by decide +kernel) ⟨Nat.le_of_ble_eq_true rfl, Nat.le_of_ble_eq_true rfl⟩) hK hP hS (by decide) (show kd 14 = 3 by decide) (by decide) rfl rfl rfl hl.1 (Nat.le_of_ble_eq_true rfl) (Nat.le_of_ble_eq_true rfl) (Nat.le_of_ble_eq_true rfl) dX6_solve_75 (fun H locs hP hS => ?_) rfl
          have hP : va_P D vwCl (VW K ad I50 G51 A52 L53) H := hP
          refine lv_istore_n (lv' := [(3, .int r49), (0, .ref (ad 0)), (1, .int a1), (2, .int a2)]) hx hb dX6_solve_78 rfl hl (by decide) rfl (fun ls hl => ?_)
          exact kj22 r49 I50 G51 A52 L53 h _ _ hP hS ls (lv_sub hl [0, 1, 3] rfl)
      refine lv_icmp_eq (tgt := 41) hx hb dX6_solve_27 (by decide) (fun c_55 => ?_) (fun c_55 => ?_)
      · have h := ip c_55 h
        exact kj8 () h _ _ hP hS ls (lv_sub hl [0, 1, 2] rfl)
      · have h := iN c_55 h
        refine lv_aload_n hx hb dX6_solve_30 rfl (lv_at hl 0 rfl) ?_
        refine vgI hx hb hts hi6 hown hK hP (0) (by decide) (show kd 0 = 6 by decide) (C := RX6) (T := TX6) (N := 18) rfl 5 (by decide) (by decide) (by decide) (by decide) (hts (.fieldLink RX6 29 "CrateHelpers" "underWay" "I") (by decide +kernel)) (fun _ h9 => h9) dX6_solve_31 ?_
        refine lv_iload_n hx hb dX6_solve_34 rfl (lv_at hl 1 rfl) ?_
        refine lv_icmp_eq (tgt := 41) hx hb dX6_solve_35 (by decide) (fun c_56 => ?_) (fun c_56 => ?_)
        · have h := ip c_56 h
          exact kj8 () h _ _ hP hS ls (lv_sub hl [0, 1, 2] rfl)
        · have h := iN c_56 h
          refine lv_bipush (v := (-2)) hx hb dX6_solve_38 (by decide) ?_
          exact W.iret (v := (-2)) hx hb hr (fun t9 ht9 hW9 => ⟨⟨(-2), (I, G, A, L), rfl, by cases h; exact ⟨rfl, rfl⟩, by rw [ht9]; exact hP, va_K.moved hW9.alike hK⟩, hS.F ht9⟩) hS.2.2 dX6_solve_40
    · have h := ip c_6 h
      refine lv_iconst (v := (-1)) hx hb dX6_solve_19 (by decide) ?_
      exact W.iret (v := (-1)) hx hb hr (fun t9 ht9 hW9 => ⟨⟨(-1), (I, G, A, L), rfl, by cases h; exact ⟨rfl, rfl⟩, by rw [ht9]; exact hP, va_K.moved hW9.alike hK⟩, hS.F ht9⟩) hS.2.2 dX6_solve_20
set_option maxHeartbeats 4000000 in
set_option maxRecDepth 100000 in
theorem e_X6_status (l : Launch) (D : va_G) (K : Nat → ClassId) (ad : Nat → Nat) (hap0 : apart ad (fun _ => True)) (I : Nat → Nat → Int32) (G : Nat → Nat → Nat) (A : Nat → Nat → Int32) (L : Nat → Nat → Int64) (r0 : Int32) (h : f_X6_status I = some r0) : Ci l D K ad yX6_status wsX6_status 0 0 [.ref (ad 0)] (I, G, A, L) (fun (r : Int32) (u : Mem) => r = r0 ∧ u = (I, G, A, L)) := by
  intro sz
  refine Met.ofW (cc := cX6_status) (maxL := 1) (ret := (some .int)) (by decide) rfl ?_
  intro p e s m args below meth c s₁ Bd hml hv0
  obtain ⟨rfl, hsz, hP, hK⟩ := hv0
  have hx := Bd.exec
  have hb := Bd.bytes
  have hr := Bd.returns
  have hts := atoms_spec (ws := wsX6_status) Bd.pre
  have hown : s.vm.findClass RX6 = some m.cls := findClass_of_methodNamed Bd.named
  have hlocks := Bd.notSynchronized
  have hi6 : ∀ w ∈ u_ws RX6 TX6 18, w ∈ wsX6_status := fun w h => List.mem_cons_of_mem _ (List.mem_append_right _ h)
  subst hsz
  have hap := vF_ap hap0 s.heap.size
  have hS : va_S (vF ad s.heap.size) s.heap s.heap [] := va_S.rf
  have hP : va_P D vwCl (VW K ad I G A L) s.heap := hP
  have hl := lv_entry ([.ref (ad 0)]) (n := 1) (Nat.le_of_ble_eq_true rfl)
  rw [lg_entry_eq]
  generalize (lg_sl ([.ref (ad 0)]) ++ List.replicate (1 - (lg_sl ([.ref (ad 0)])).length) Slot.unset).toArray = ls at hl ⊢
  have hl : lv_has ls 1 [(0, .ref (ad 0))] := hl
  rw [f_X6_status] at h
  refine lv_aload_n hx hb dX6_status_0 rfl (lv_at hl 0 rfl) ?_
  refine vgI hx hb hts hi6 hown hK hP (0) (by decide) (show kd 0 = 6 by decide) (C := RX6) (T := TX6) (N := 18) rfl 17 (by decide) (by decide) (by decide) (by decide) (hts (.fieldLink RX6 64 "CrateHelpers" "refusedBy" "I") (by decide +kernel)) (fun _ h9 => h9) dX6_status_1 ?_
  exact W.iret (v := (I 0 17)) hx hb hr (fun t9 ht9 hW9 => ⟨⟨(I 0 17), (I, G, A, L), rfl, by cases h; exact ⟨rfl, rfl⟩, by rw [ht9]; exact hP, va_K.moved hW9.alike hK⟩, hS.F ht9⟩) hS.2.2 dX6_status_4
set_option maxHeartbeats 4000000 in
set_option maxRecDepth 100000 in
theorem e_X6_told (l : Launch) (D : va_G) (K : Nat → ClassId) (ad : Nat → Nat) (hap0 : apart ad (fun _ => True)) (a1 : Int32) (a2 : Int32) (I : Nat → Nat → Int32) (G : Nat → Nat → Nat) (A : Nat → Nat → Int32) (L : Nat → Nat → Int64) (r0 : Int32) (h : f_X6_told I A a1 a2 = some r0) : Ci l D K ad yX6_told wsX6_told 2 49 [.ref (ad 0), .int a1, .int a2] (I, G, A, L) (fun (r : Int32) (u : Mem) => r = r0 ∧ u = (I, G, A, L)) := by
  intro sz
  refine Met.ofW (cc := cX6_told) (maxL := 4) (ret := (some .int)) (by decide) rfl ?_
  intro p e s m args below meth c s₁ Bd hml hv0
  obtain ⟨rfl, hsz, hP, hK⟩ := hv0
  have hx := Bd.exec
  have hb := Bd.bytes
  have hr := Bd.returns
  have hts := atoms_spec (ws := wsX6_told) Bd.pre
  have hown : s.vm.findClass RX6 = some m.cls := findClass_of_methodNamed Bd.named
  have hlocks := Bd.notSynchronized
  have hi6 : ∀ w ∈ u_ws RX6 TX6 18, w ∈ wsX6_told := fun w h => List.mem_cons_of_mem _ (List.mem_append_left _ (List.mem_append_right _ h))
  have hi1 : ∀ w ∈ u_ws RX1 TX1 9, w ∈ wsX6_told := fun w h => List.mem_cons_of_mem _ (List.mem_append_right _ h)
  subst hsz
  have hap := vF_ap hap0 s.heap.size
  have hS : va_S (vF ad s.heap.size) s.heap s.heap [] := va_S.rf
  have hP : va_P D vwCl (VW K ad I G A L) s.heap := hP
  have hl := lv_entry ([.ref (ad 0), .int a1, .int a2]) (n := 4) (Nat.le_of_ble_eq_true rfl)
  rw [lg_entry_eq]
  generalize (lg_sl ([.ref (ad 0), .int a1, .int a2]) ++ List.replicate (4 - (lg_sl ([.ref (ad 0), .int a1, .int a2])).length) Slot.unset).toArray = ls at hl ⊢
  have hl : lv_has ls 4 [(0, .ref (ad 0)), (1, .int a1), (2, .int a2)] := hl
  rw [f_X6_told] at h
  refine lv_aload_n hx hb dX6_told_0 rfl (lv_at hl 0 rfl) ?_
  refine lv_iload_n hx hb dX6_told_1 rfl (lv_at hl 1 rfl) ?_
  obtain ⟨r1, hc2, h⟩ := Option.bind_eq_some_iff.mp h
  refine ecV (As := [.int a1]) (rest := []) ⟨hx, hb, hml, hown, hts⟩ (e_X6_isProblem l D K ad hap0 a1 I G A L r1 hc2) (cwV 1 hts gX6_told_X6_isProblem rfl rfl rfl (by decide +kernel) ⟨Nat.le_of_ble_eq_true rfl, Nat.le_of_ble_eq_true rfl⟩) hK hP hS (by decide) (show kd 0 = 6 by decide) (by decide) rfl rfl rfl hl.1 (Nat.le_of_ble_eq_true rfl) (Nat.le_of_ble_eq_true rfl) (Nat.le_of_ble_eq_true rfl) dX6_told_2 (fun H locs hP hS => ?_) rfl
  have hP : va_P D vwCl (VW K ad I G A L) H := hP
  refine lv_if_eq (tgt := 17) hx hb dX6_told_5 (by decide) (fun c_3 => ?_) (fun c_3 => ?_)
  · have h := ip c_3 h
    refine lv_iconst (v := (-1)) hx hb dX6_told_17 (by decide) ?_
    exact W.iret (v := (-1)) hx hb hr (fun t9 ht9 hW9 => ⟨⟨(-1), (I, G, A, L), rfl, by cases h; exact ⟨rfl, rfl⟩, by rw [ht9]; exact hP, va_K.moved hW9.alike hK⟩, hS.F ht9⟩) hS.2.2 dX6_told_18
  · have h := iN c_3 h
    refine lv_iload_n hx hb dX6_told_8 rfl (lv_at hl 2 rfl) ?_
    refine lv_iconst (v := 0) hx hb dX6_told_9 (by decide) ?_
    refine lv_iconst (v := 5) hx hb dX6_told_10 (by decide) ?_
    obtain ⟨r4, hc5, h⟩ := Option.bind_eq_some_iff.mp h
    refine ecS (As := [.int a2, .int 0, .int 5]) (rest := []) ⟨hx, hb, hml, hown, hts⟩ (e_X6_isWithin l D K ad hap0 a2 0 5 I G A L r4 hc5) (va_cwS 3 hts gX6_told_X6_isWithin rfl rfl rfl (by decide +kernel) ⟨Nat.le_of_ble_eq_true rfl, Nat.le_of_ble_eq_true rfl⟩) hK hP hS rfl hl.1 (Nat.le_of_ble_eq_true rfl) (Nat.le_of_ble_eq_true rfl) (Nat.le_of_ble_eq_true rfl) dX6_told_11 (fun H locs hP hS => ?_) rfl
    have hP : va_P D vwCl (VW K ad I G A L) H := hP
    refine lv_if_ne (tgt := 19) hx hb dX6_told_14 (by decide) (fun c_6 => ?_) (fun c_6 => ?_)
    · have h := iN c_6 h
      refine lv_aload_n hx hb dX6_told_19 rfl (lv_at hl 0 rfl) ?_
      refine vgC hx hb hts hi6 hown hK hP (0) (by decide) (show kd 0 = 6 by decide) (C := RX6) (T := TX6) (N := 18) rfl 0 (by decide) (by decide) (by decide) (by decide) (1) rfl (hts (.fieldLink RX6 11 "CrateHelpers" "problems" "[LCrateHelpers$Problem;") (by decide +kernel)) (fun _ h9 => h9) dX6_told_20 ?_
      refine lv_iload_n hx hb dX6_told_23 rfl (lv_at hl 1 rfl) ?_
      obtain ⟨hn7, h⟩ := gk h
      refine xaald hx hb hK hP (1) (by decide) 5 13 (show kd 1 = 13 by decide) (by decide) rfl (by rw [show ln 1 = 5 by decide]; exact hn7) (58 + 52 * a1.toNatClampNeg) (drf13 ((show kd 1 = 13 by decide))) dX6_told_24 ?_
      refine lv_astore_n (lv' := [(3, .ref (ad (58 + 52 * a1.toNatClampNeg))), (0, .ref (ad 0)), (1, .int a1), (2, .int a2)]) hx hb dX6_told_25 rfl hl (by decide) rfl (fun ls hl => ?_)
      refine lv_aload_n hx hb dX6_told_26 rfl (lv_at hl 0 rfl) ?_
      obtain ⟨hk8, h⟩ := gk h
      refine vgI hx hb hts hi1 hown hK hP (58 + 52 * a1.toNatClampNeg) (s318 hk8.1) hk8.2 (C := RX1) (T := TX1) (N := 9) rfl 3 (by decide) (by decide) (by decide) (by decide) (hts (.fieldLink RX6 185 "CrateHelpers$Problem" "hasEnded" "Z") (by decide +kernel)) (fun _ h9 => h9) dX6_told_27 ?_
      refine lv_if_eq (tgt := 42) hx hb dX6_told_30 (by decide) (fun c_9 => ?_) (fun c_9 => ?_)
      · have h := ip c_9 h
        refine lv_bipush (v := (-9)) hx hb dX6_told_42 (by decide) ?_
        exact W.iret (v := (-9)) hx hb hr (fun t9 ht9 hW9 => ⟨⟨(-9), (I, G, A, L), rfl, by cases h; exact ⟨rfl, rfl⟩, by rw [ht9]; exact hP, va_K.moved hW9.alike hK⟩, hS.F ht9⟩) hS.2.2 dX6_told_44
      · have h := iN c_9 h
        refine lv_aload_n hx hb dX6_told_33 rfl (lv_at hl 0 rfl) ?_
        refine vgS hx hb hts hi1 hown hK hP (58 + 52 * a1.toNatClampNeg) (s318 hk8.1) hk8.2 (C := RX1) (T := TX1) (N := 9) rfl 8 (by decide) (by decide) (by decide) (by decide) (58 + 52 * a1.toNatClampNeg + 11) rfl (hts (.fieldLink RX6 189 "CrateHelpers$Problem" "outcome" "[I") (by decide +kernel)) (fun _ h9 => h9) dX6_told_34 ?_
        refine lv_iload_n hx hb dX6_told_37 rfl (lv_at hl 3 rfl) ?_
        obtain ⟨hk10, h⟩ := gk h
        obtain ⟨hn11, h⟩ := gk h
        refine xiald hx hb hK hP (58 + 52 * a1.toNatClampNeg + 11) (s318 hk10.1) hk10.2 hn11 dX6_told_38 ?_
        refine lv_goto (tgt := 44) hx hb dX6_told_39 (by decide) ?_
        exact W.iret (v := (A (58 + 52 * a1.toNatClampNeg + 11) a2.toNatClampNeg)) hx hb hr (fun t9 ht9 hW9 => ⟨⟨(A (58 + 52 * a1.toNatClampNeg + 11) a2.toNatClampNeg), (I, G, A, L), rfl, by cases h; exact ⟨rfl, rfl⟩, by rw [ht9]; exact hP, va_K.moved hW9.alike hK⟩, hS.F ht9⟩) hS.2.2 dX6_told_44
    · have h := ip c_6 h
      refine lv_iconst (v := (-1)) hx hb dX6_told_17 (by decide) ?_
      exact W.iret (v := (-1)) hx hb hr (fun t9 ht9 hW9 => ⟨⟨(-1), (I, G, A, L), rfl, by cases h; exact ⟨rfl, rfl⟩, by rw [ht9]; exact hP, va_K.moved hW9.alike hK⟩, hS.F ht9⟩) hS.2.2 dX6_told_18
set_option maxHeartbeats 4000000 in
set_option maxRecDepth 100000 in
theorem e_X6_turn (l : Launch) (D : va_G) (K : Nat → ClassId) (ad : Nat → Nat) (hap0 : apart ad (fun _ => True)) (a1 : Int32) (I : Nat → Nat → Int32) (G : Nat → Nat → Nat) (A : Nat → Nat → Int32) (L : Nat → Nat → Int64) (r0 : Int32) (I0 : Nat → Nat → Int32) (A0 : Nat → Nat → Int32) (h : f_X6_turn I A a1 = some (r0, I0, A0)) : Ci l D K ad yX6_turn wsX6_turn 1 25 [.ref (ad 0), .int a1] (I, G, A, L) (fun (r : Int32) (u : Mem) => r = r0 ∧ u = (I0, G, A0, L)) := by
  intro sz
  refine Met.ofW (cc := cX6_turn) (maxL := 2) (ret := (some .int)) (by decide) rfl ?_
  intro p e s m args below meth c s₁ Bd hml hv0
  obtain ⟨rfl, hsz, hP, hK⟩ := hv0
  have hx := Bd.exec
  have hb := Bd.bytes
  have hr := Bd.returns
  have hts := atoms_spec (ws := wsX6_turn) Bd.pre
  have hown : s.vm.findClass RX6 = some m.cls := findClass_of_methodNamed Bd.named
  have hlocks := Bd.notSynchronized
  have hi6 : ∀ w ∈ u_ws RX6 TX6 18, w ∈ wsX6_turn := fun w h => List.mem_cons_of_mem _ (List.mem_append_left _ (List.mem_append_right _ h))
  have hi4 : ∀ w ∈ u_ws RX4 TX4 7, w ∈ wsX6_turn := fun w h => List.mem_cons_of_mem _ (List.mem_append_right _ h)
  subst hsz
  have hap := vF_ap hap0 s.heap.size
  have hS : va_S (vF ad s.heap.size) s.heap s.heap [] := va_S.rf
  have hP : va_P D vwCl (VW K ad I G A L) s.heap := hP
  have hl := lv_entry ([.ref (ad 0), .int a1]) (n := 2) (Nat.le_of_ble_eq_true rfl)
  rw [lg_entry_eq]
  generalize (lg_sl ([.ref (ad 0), .int a1]) ++ List.replicate (2 - (lg_sl ([.ref (ad 0), .int a1])).length) Slot.unset).toArray = ls at hl ⊢
  have hl : lv_has ls 2 [(0, .ref (ad 0)), (1, .int a1)] := hl
  rw [f_X6_turn] at h
  refine lv_iload_n hx hb dX6_turn_0 rfl (lv_at hl 1 rfl) ?_
  refine lv_iconst (v := 0) hx hb dX6_turn_1 (by decide) ?_
  refine lv_iconst (v := 4) hx hb dX6_turn_2 (by decide) ?_
  obtain ⟨r1, hc2, h⟩ := Option.bind_eq_some_iff.mp h
  refine ecS (As := [.int a1, .int 0, .int 4]) (rest := []) ⟨hx, hb, hml, hown, hts⟩ (e_X6_isWithin l D K ad hap0 a1 0 4 I G A L r1 hc2) (va_cwS 3 hts gX6_turn_X6_isWithin rfl rfl rfl (by decide +kernel) ⟨Nat.le_of_ble_eq_true rfl, Nat.le_of_ble_eq_true rfl⟩) hK hP hS rfl hl.1 (Nat.le_of_ble_eq_true rfl) (Nat.le_of_ble_eq_true rfl) (Nat.le_of_ble_eq_true rfl) dX6_turn_3 (fun H locs hP hS => ?_) rfl
  have hP : va_P D vwCl (VW K ad I G A L) H := hP
  refine lv_if_ne (tgt := 11) hx hb dX6_turn_6 (by decide) (fun c_3 => ?_) (fun c_3 => ?_)
  · have h := iN c_3 h
    refine lv_aload_n hx hb dX6_turn_11 rfl (lv_at hl 0 rfl) ?_
    refine vgI hx hb hts hi6 hown hK hP (0) (by decide) (show kd 0 = 6 by decide) (C := RX6) (T := TX6) (N := 18) rfl 5 (by decide) (by decide) (by decide) (by decide) (hts (.fieldLink RX6 29 "CrateHelpers" "underWay" "I") (by decide +kernel)) (fun _ h9 => h9) dX6_turn_12 ?_
    refine lv_bipush (v := (-9)) hx hb dX6_turn_15 (by decide) ?_
    refine lv_icmp_eq (tgt := 23) hx hb dX6_turn_17 (by decide) (fun c_4 => ?_) (fun c_4 => ?_)
    · have h := ip c_4 h
      refine lv_aload_n hx hb dX6_turn_23 rfl (lv_at hl 0 rfl) ?_
      refine vgC hx hb hts hi6 hown hK hP (0) (by decide) (show kd 0 = 6 by decide) (C := RX6) (T := TX6) (N := 18) rfl 2 (by decide) (by decide) (by decide) (by decide) (2) rfl (hts (.fieldLink RX6 22 "CrateHelpers" "team" "LCrateHelpers$Team;") (by decide +kernel)) (fun _ h9 => h9) dX6_turn_24 ?_
      refine vgI hx hb hts hi4 hown hK hP (2) (by decide) (show kd 2 = 4 by decide) (C := RX4) (T := TX4) (N := 7) rfl 1 (by decide) (by decide) (by decide) (by decide) (hts (.fieldLink RX6 168 "CrateHelpers$Team" "scheduled" "I") (by decide +kernel)) (fun _ h9 => h9) dX6_turn_27 ?_
      refine lv_sipush (v := 200) hx hb dX6_turn_30 (by decide) ?_
      refine lv_icmp_lt (tgt := 39) hx hb dX6_turn_33 (by decide) (fun c_5 => ?_) (fun c_5 => ?_)
      · have h := ip c_5 h
        refine lv_aload_n hx hb dX6_turn_39 rfl (lv_at hl 0 rfl) ?_
        refine vgC hx hb hts hi6 hown hK hP (0) (by decide) (show kd 0 = 6 by decide) (C := RX6) (T := TX6) (N := 18) rfl 2 (by decide) (by decide) (by decide) (by decide) (2) rfl (hts (.fieldLink RX6 22 "CrateHelpers" "team" "LCrateHelpers$Team;") (by decide +kernel)) (fun _ h9 => h9) dX6_turn_40 ?_
        refine vgS hx hb hts hi4 hown hK hP (2) (by decide) (show kd 2 = 4 by decide) (C := RX4) (T := TX4) (N := 7) rfl 3 (by decide) (by decide) (by decide) (by decide) (4) rfl (hts (.fieldLink RX6 171 "CrateHelpers$Team" "schedule" "[I") (by decide +kernel)) (fun _ h9 => h9) dX6_turn_43 ?_
        refine lv_aload_n hx hb dX6_turn_46 rfl (lv_at hl 0 rfl) ?_
        refine vgC hx hb hts hi6 hown hK hP (0) (by decide) (show kd 0 = 6 by decide) (C := RX6) (T := TX6) (N := 18) rfl 2 (by decide) (by decide) (by decide) (by decide) (2) rfl (hts (.fieldLink RX6 22 "CrateHelpers" "team" "LCrateHelpers$Team;") (by decide +kernel)) (fun _ h9 => h9) dX6_turn_47 ?_
        refine vgI hx hb hts hi4 hown hK hP (2) (by decide) (show kd 2 = 4 by decide) (C := RX4) (T := TX4) (N := 7) rfl 1 (by decide) (by decide) (by decide) (by decide) (hts (.fieldLink RX6 168 "CrateHelpers$Team" "scheduled" "I") (by decide +kernel)) (fun _ h9 => h9) dX6_turn_50 ?_
        refine lv_iload_n hx hb dX6_turn_53 rfl (lv_at hl 1 rfl) ?_
        obtain ⟨hn6, h⟩ := gk h
        refine xiast hx hb hK hP hap hS (4) (by decide) (show kd 4 = 8 by decide) (by rw [show ln 4 = 200 by decide]; exact hn6) dX6_turn_54 (fun H locs hP hS => ?_)
        obtain ⟨A7, eA7, h⟩ := bd_e h
        rw [← eA7] at hP
        have hP : va_P D vwCl (VW K ad I G A7 L) H := hP
        refine lv_aload_n hx hb dX6_turn_55 rfl (lv_at hl 0 rfl) ?_
        refine vgC hx hb hts hi6 hown hK hP (0) (by decide) (show kd 0 = 6 by decide) (C := RX6) (T := TX6) (N := 18) rfl 2 (by decide) (by decide) (by decide) (by decide) (2) rfl (hts (.fieldLink RX6 22 "CrateHelpers" "team" "LCrateHelpers$Team;") (by decide +kernel)) (fun _ h9 => h9) dX6_turn_56 ?_
        refine lv_dup hx hb dX6_turn_59 rfl ?_
        refine vgI hx hb hts hi4 hown hK hP (2) (by decide) (show kd 2 = 4 by decide) (C := RX4) (T := TX4) (N := 7) rfl 1 (by decide) (by decide) (by decide) (by decide) (hts (.fieldLink RX6 168 "CrateHelpers$Team" "scheduled" "I") (by decide +kernel)) (fun _ h9 => h9) dX6_turn_60 ?_
        refine lv_iconst (v := 1) hx hb dX6_turn_63 (by decide) ?_
        refine lv_iadd hx hb dX6_turn_64 ?_
        refine vpI (v := ((I 2 1) + 1)) (ty := .int) hx hb hts hi4 tyX4 tyX4_ok nmX4 hown hK hP hap hS (2) (by decide) (show kd 2 = 4 by decide) (C := RX4) (T := TX4) (N := 7) rfl 1 (by decide) (by decide) (by decide) (by decide) (hts (.fieldLink RX6 168 "CrateHelpers$Team" "scheduled" "I") (by decide +kernel)) (fun _ h9 => h9) rfl (by decide +kernel) rfl rfl dX6_turn_65 (fun H locs hP hS => ?_)
        obtain ⟨I8, eI8, h⟩ := bd_e h
        rw [← eI8] at hP
        have hP : va_P D vwCl (VW K ad I8 G A7 L) H := hP
        refine lv_aload_n hx hb dX6_turn_68 rfl (lv_at hl 0 rfl) ?_
        refine vgC hx hb hts hi6 hown hK hP (0) (by decide) (show kd 0 = 6 by decide) (C := RX6) (T := TX6) (N := 18) rfl 2 (by decide) (by decide) (by decide) (by decide) (2) rfl (hts (.fieldLink RX6 22 "CrateHelpers" "team" "LCrateHelpers$Team;") (by decide +kernel)) (fun _ h9 => h9) dX6_turn_69 ?_
        refine vgI hx hb hts hi4 hown hK hP (2) (by decide) (show kd 2 = 4 by decide) (C := RX4) (T := TX4) (N := 7) rfl 1 (by decide) (by decide) (by decide) (by decide) (hts (.fieldLink RX6 168 "CrateHelpers$Team" "scheduled" "I") (by decide +kernel)) (fun _ h9 => h9) dX6_turn_72 ?_
        exact W.iret (v := (I8 2 1)) hx hb hr (fun t9 ht9 hW9 => ⟨⟨(I8 2 1), (I8, G, A7, L), rfl, by cases h; exact ⟨rfl, rfl⟩, by rw [ht9]; exact hP, va_K.moved hW9.alike hK⟩, hS.F ht9⟩) hS.2.2 dX6_turn_75
      · have h := iN c_5 h
        refine lv_bipush (v := (-3)) hx hb dX6_turn_36 (by decide) ?_
        exact W.iret (v := (-3)) hx hb hr (fun t9 ht9 hW9 => ⟨⟨(-3), (I, G, A, L), rfl, by cases h; exact ⟨rfl, rfl⟩, by rw [ht9]; exact hP, va_K.moved hW9.alike hK⟩, hS.F ht9⟩) hS.2.2 dX6_turn_38
    · have h := iN c_4 h
      refine lv_bipush (v := (-2)) hx hb dX6_turn_20 (by decide) ?_
      exact W.iret (v := (-2)) hx hb hr (fun t9 ht9 hW9 => ⟨⟨(-2), (I, G, A, L), rfl, by cases h; exact ⟨rfl, rfl⟩, by rw [ht9]; exact hP, va_K.moved hW9.alike hK⟩, hS.F ht9⟩) hS.2.2 dX6_turn_22
  · have h := ip c_3 h
    refine lv_iconst (v := (-1)) hx hb dX6_turn_9 (by decide) ?_
    exact W.iret (v := (-1)) hx hb hr (fun t9 ht9 hW9 => ⟨⟨(-1), (I, G, A, L), rfl, by cases h; exact ⟨rfl, rfl⟩, by rw [ht9]; exact hP, va_K.moved hW9.alike hK⟩, hS.F ht9⟩) hS.2.2 dX6_turn_10
set_option maxHeartbeats 4000000 in
set_option maxRecDepth 100000 in
theorem e_X1_addVariable (l : Launch) (D : va_G) (K : Nat → ClassId) (ad : Nat → Nat) (hap0 : apart ad (fun _ => True)) (o : Nat) (a1 : Int32) (a2 : Int32) (I : Nat → Nat → Int32) (G : Nat → Nat → Nat) (A : Nat → Nat → Int32) (L : Nat → Nat → Int64) (r0 : Int32) (I0 : Nat → Nat → Int32) (A0 : Nat → Nat → Int32) (h : f_X1_addVariable I A o a1 a2 = some (r0, I0, A0)) : Ci l D K ad yX1_addVariable wsX1_addVariable 1 23 [.ref (ad o), .int a1, .int a2] (I, G, A, L) (fun (r : Int32) (u : Mem) => r = r0 ∧ u = (I0, G, A0, L)) := by
  intro sz
  refine Met.ofW (cc := cX1_addVariable) (maxL := 3) (ret := (some .int)) (by decide) rfl ?_
  intro p e s m args below meth c s₁ Bd hml hv0
  obtain ⟨rfl, hsz, hP, hK⟩ := hv0
  have hx := Bd.exec
  have hb := Bd.bytes
  have hr := Bd.returns
  have hts := atoms_spec (ws := wsX1_addVariable) Bd.pre
  have hown : s.vm.findClass RX1 = some m.cls := findClass_of_methodNamed Bd.named
  have hlocks := Bd.notSynchronized
  have hi1 : ∀ w ∈ u_ws RX1 TX1 9, w ∈ wsX1_addVariable := fun w h => List.mem_cons_of_mem _ (List.mem_append_right _ h)
  subst hsz
  have hap := vF_ap hap0 s.heap.size
  have hS : va_S (vF ad s.heap.size) s.heap s.heap [] := va_S.rf
  have hP : va_P D vwCl (VW K ad I G A L) s.heap := hP
  have hl := lv_entry ([.ref (ad o), .int a1, .int a2]) (n := 3) (Nat.le_of_ble_eq_true rfl)
  rw [lg_entry_eq]
  generalize (lg_sl ([.ref (ad o), .int a1, .int a2]) ++ List.replicate (3 - (lg_sl ([.ref (ad o), .int a1, .int a2])).length) Slot.unset).toArray = ls at hl ⊢
  have hl : lv_has ls 3 [(0, .ref (ad o)), (1, .int a1), (2, .int a2)] := hl
  rw [f_X1_addVariable] at h
  refine lv_aload_n hx hb dX1_addVariable_0 rfl (lv_at hl 0 rfl) ?_
  obtain ⟨hk1, h⟩ := gk h
  obtain ⟨I2, hc3, h⟩ := Option.bind_eq_some_iff.mp h
  refine ecVv (As := []) (rest := []) ⟨hx, hb, hml, hown, hts⟩ (e_X1_change l D K ad hap0 o I G A L I2 hc3) (cwV 0 hts gX1_addVariable_X1_change rfl rfl rfl (by decide +kernel) ⟨Nat.le_of_ble_eq_true rfl, Nat.le_of_ble_eq_true rfl⟩) hK hP hS (s318 hk1.1) hk1.2 (by decide) rfl rfl rfl hl.1 (Nat.le_of_ble_eq_true rfl) (Nat.le_of_ble_eq_true rfl) (Nat.le_of_ble_eq_true rfl) dX1_addVariable_1 (fun H locs hP hS => ?_) rfl
  have hP : va_P D vwCl (VW K ad I2 G A L) H := hP
  refine lv_aload_n hx hb dX1_addVariable_4 rfl (lv_at hl 0 rfl) ?_
  refine vgS hx hb hts hi1 hown hK hP (o) (s318 hk1.1) hk1.2 (C := RX1) (T := TX1) (N := 9) rfl 4 (by decide) (by decide) (by decide) (by decide) (o + 1) rfl (hts (.fieldLink RX1 25 "CrateHelpers$Problem" "sizes" "[I") (by decide +kernel)) (fun _ h9 => h9) dX1_addVariable_5 ?_
  refine lv_aload_n hx hb dX1_addVariable_8 rfl (lv_at hl 0 rfl) ?_
  refine vgI hx hb hts hi1 hown hK hP (o) (s318 hk1.1) hk1.2 (C := RX1) (T := TX1) (N := 9) rfl 0 (by decide) (by decide) (by decide) (by decide) (hts (.fieldLink RX1 9 "CrateHelpers$Problem" "variables" "I") (by decide +kernel)) (fun _ h9 => h9) dX1_addVariable_9 ?_
  refine lv_iload_n hx hb dX1_addVariable_12 rfl (lv_at hl 1 rfl) ?_
  obtain ⟨hk4, h⟩ := gk h
  obtain ⟨hn5, h⟩ := gk h
  refine xiast hx hb hK hP hap hS (o + 1) (s318 hk4.1) hk4.2 hn5 dX1_addVariable_13 (fun H locs hP hS => ?_)
  obtain ⟨A6, eA6, h⟩ := bd_e h
  rw [← eA6] at hP
  have hP : va_P D vwCl (VW K ad I2 G A6 L) H := hP
  refine lv_aload_n hx hb dX1_addVariable_14 rfl (lv_at hl 0 rfl) ?_
  refine vgS hx hb hts hi1 hown hK hP (o) (s318 hk1.1) hk1.2 (C := RX1) (T := TX1) (N := 9) rfl 5 (by decide) (by decide) (by decide) (by decide) (o + 2) rfl (hts (.fieldLink RX1 29 "CrateHelpers$Problem" "kinds" "[I") (by decide +kernel)) (fun _ h9 => h9) dX1_addVariable_15 ?_
  refine lv_aload_n hx hb dX1_addVariable_18 rfl (lv_at hl 0 rfl) ?_
  refine vgI hx hb hts hi1 hown hK hP (o) (s318 hk1.1) hk1.2 (C := RX1) (T := TX1) (N := 9) rfl 0 (by decide) (by decide) (by decide) (by decide) (hts (.fieldLink RX1 9 "CrateHelpers$Problem" "variables" "I") (by decide +kernel)) (fun _ h9 => h9) dX1_addVariable_19 ?_
  refine lv_iload_n hx hb dX1_addVariable_22 rfl (lv_at hl 2 rfl) ?_
  obtain ⟨hk7, h⟩ := gk h
  obtain ⟨hn8, h⟩ := gk h
  refine xiast hx hb hK hP hap hS (o + 2) (s318 hk7.1) hk7.2 hn8 dX1_addVariable_23 (fun H locs hP hS => ?_)
  obtain ⟨A9, eA9, h⟩ := bd_e h
  rw [← eA9] at hP
  have hP : va_P D vwCl (VW K ad I2 G A9 L) H := hP
  refine lv_aload_n hx hb dX1_addVariable_24 rfl (lv_at hl 0 rfl) ?_
  refine lv_dup hx hb dX1_addVariable_25 rfl ?_
  refine vgI hx hb hts hi1 hown hK hP (o) (s318 hk1.1) hk1.2 (C := RX1) (T := TX1) (N := 9) rfl 0 (by decide) (by decide) (by decide) (by decide) (hts (.fieldLink RX1 9 "CrateHelpers$Problem" "variables" "I") (by decide +kernel)) (fun _ h9 => h9) dX1_addVariable_26 ?_
  refine lv_dup_x1 hx hb dX1_addVariable_29 rfl rfl ?_
  refine lv_iconst (v := 1) hx hb dX1_addVariable_30 (by decide) ?_
  refine lv_iadd hx hb dX1_addVariable_31 ?_
  refine vpI (v := ((I2 o 0) + 1)) (ty := .int) hx hb hts hi1 tyX1 tyX1_ok nmX1 hown hK hP hap hS (o) (s318 hk1.1) hk1.2 (C := RX1) (T := TX1) (N := 9) rfl 0 (by decide) (by decide) (by decide) (by decide) (hts (.fieldLink RX1 9 "CrateHelpers$Problem" "variables" "I") (by decide +kernel)) (fun _ h9 => h9) rfl (by decide +kernel) rfl rfl dX1_addVariable_32 (fun H locs hP hS => ?_)
  obtain ⟨I10, eI10, h⟩ := bd_e h
  rw [← eI10] at hP
  have hP : va_P D vwCl (VW K ad I10 G A9 L) H := hP
  exact W.iret (v := (I2 o 0)) hx hb hr (fun t9 ht9 hW9 => ⟨⟨(I2 o 0), (I10, G, A9, L), rfl, by cases h; exact ⟨rfl, rfl⟩, by rw [ht9]; exact hP, va_K.moved hW9.alike hK⟩, hS.F ht9⟩) hS.2.2 dX1_addVariable_35
set_option maxHeartbeats 4000000 in
set_option maxRecDepth 100000 in
theorem e_X6_variable (l : Launch) (D : va_G) (K : Nat → ClassId) (ad : Nat → Nat) (hap0 : apart ad (fun _ => True)) (a1 : Int32) (a2 : Int32) (a3 : Int32) (I : Nat → Nat → Int32) (G : Nat → Nat → Nat) (A : Nat → Nat → Int32) (L : Nat → Nat → Int64) (r0 : Int32) (I0 : Nat → Nat → Int32) (A0 : Nat → Nat → Int32) (h : f_X6_variable I A a1 a2 a3 = some (r0, I0, A0)) : Ci l D K ad yX6_variable wsX6_variable 2 49 [.ref (ad 0), .int a1, .int a2, .int a3] (I, G, A, L) (fun (r : Int32) (u : Mem) => r = r0 ∧ u = (I0, G, A0, L)) := by
  intro sz
  refine Met.ofW (cc := cX6_variable) (maxL := 5) (ret := (some .int)) (by decide) rfl ?_
  intro p e s m args below meth c s₁ Bd hml hv0
  obtain ⟨rfl, hsz, hP, hK⟩ := hv0
  have hx := Bd.exec
  have hb := Bd.bytes
  have hr := Bd.returns
  have hts := atoms_spec (ws := wsX6_variable) Bd.pre
  have hown : s.vm.findClass RX6 = some m.cls := findClass_of_methodNamed Bd.named
  have hlocks := Bd.notSynchronized
  have hi6 : ∀ w ∈ u_ws RX6 TX6 18, w ∈ wsX6_variable := fun w h => List.mem_cons_of_mem _ (List.mem_append_left _ (List.mem_append_right _ h))
  have hi1 : ∀ w ∈ u_ws RX1 TX1 9, w ∈ wsX6_variable := fun w h => List.mem_cons_of_mem _ (List.mem_append_right _ h)
  subst hsz
  have hap := vF_ap hap0 s.heap.size
  have hS : va_S (vF ad s.heap.size) s.heap s.heap [] := va_S.rf
  have hP : va_P D vwCl (VW K ad I G A L) s.heap := hP
  have hl := lv_entry ([.ref (ad 0), .int a1, .int a2, .int a3]) (n := 5) (Nat.le_of_ble_eq_true rfl)
  rw [lg_entry_eq]
  generalize (lg_sl ([.ref (ad 0), .int a1, .int a2, .int a3]) ++ List.replicate (5 - (lg_sl ([.ref (ad 0), .int a1, .int a2, .int a3])).length) Slot.unset).toArray = ls at hl ⊢
  have hl : lv_has ls 5 [(0, .ref (ad 0)), (1, .int a1), (2, .int a2), (3, .int a3)] := hl
  rw [f_X6_variable] at h
  refine lv_aload_n hx hb dX6_variable_0 rfl (lv_at hl 0 rfl) ?_
  refine lv_iload_n hx hb dX6_variable_1 rfl (lv_at hl 1 rfl) ?_
  obtain ⟨r1, hc2, h⟩ := Option.bind_eq_some_iff.mp h
  refine ecV (As := [.int a1]) (rest := []) ⟨hx, hb, hml, hown, hts⟩ (e_X6_isProblem l D K ad hap0 a1 I G A L r1 hc2) (cwV 1 hts gX6_variable_X6_isProblem rfl rfl rfl (by decide +kernel) ⟨Nat.le_of_ble_eq_true rfl, Nat.le_of_ble_eq_true rfl⟩) hK hP hS (by decide) (show kd 0 = 6 by decide) (by decide) rfl rfl rfl hl.1 (Nat.le_of_ble_eq_true rfl) (Nat.le_of_ble_eq_true rfl) (Nat.le_of_ble_eq_true rfl) dX6_variable_2 (fun H locs hP hS => ?_) rfl
  have hP : va_P D vwCl (VW K ad I G A L) H := hP
  refine lv_if_eq (tgt := 27) hx hb dX6_variable_5 (by decide) (fun c_3 => ?_) (fun c_3 => ?_)
  · have h := ip c_3 h
    refine lv_iconst (v := (-1)) hx hb dX6_variable_27 (by decide) ?_
    exact W.iret (v := (-1)) hx hb hr (fun t9 ht9 hW9 => ⟨⟨(-1), (I, G, A, L), rfl, by cases h; exact ⟨rfl, rfl⟩, by rw [ht9]; exact hP, va_K.moved hW9.alike hK⟩, hS.F ht9⟩) hS.2.2 dX6_variable_28
  · have h := iN c_3 h
    refine lv_iload_n hx hb dX6_variable_8 rfl (lv_at hl 2 rfl) ?_
    refine lv_iconst (v := 1) hx hb dX6_variable_9 (by decide) ?_
    refine lv_bipush (v := 6) hx hb dX6_variable_10 (by decide) ?_
    obtain ⟨r4, hc5, h⟩ := Option.bind_eq_some_iff.mp h
    refine ecS (As := [.int a2, .int 1, .int 6]) (rest := []) ⟨hx, hb, hml, hown, hts⟩ (e_X6_isWithin l D K ad hap0 a2 1 6 I G A L r4 hc5) (va_cwS 3 hts gX6_variable_X6_isWithin rfl rfl rfl (by decide +kernel) ⟨Nat.le_of_ble_eq_true rfl, Nat.le_of_ble_eq_true rfl⟩) hK hP hS rfl hl.1 (Nat.le_of_ble_eq_true rfl) (Nat.le_of_ble_eq_true rfl) (Nat.le_of_ble_eq_true rfl) dX6_variable_12 (fun H locs hP hS => ?_) rfl
    have hP : va_P D vwCl (VW K ad I G A L) H := hP
    refine lv_if_eq (tgt := 27) hx hb dX6_variable_15 (by decide) (fun c_6 => ?_) (fun c_6 => ?_)
    · have h := ip c_6 h
      refine lv_iconst (v := (-1)) hx hb dX6_variable_27 (by decide) ?_
      exact W.iret (v := (-1)) hx hb hr (fun t9 ht9 hW9 => ⟨⟨(-1), (I, G, A, L), rfl, by cases h; exact ⟨rfl, rfl⟩, by rw [ht9]; exact hP, va_K.moved hW9.alike hK⟩, hS.F ht9⟩) hS.2.2 dX6_variable_28
    · have h := iN c_6 h
      refine lv_iload_n hx hb dX6_variable_18 rfl (lv_at hl 3 rfl) ?_
      refine lv_iconst (v := 0) hx hb dX6_variable_19 (by decide) ?_
      refine lv_iconst (v := 3) hx hb dX6_variable_20 (by decide) ?_
      obtain ⟨r7, hc8, h⟩ := Option.bind_eq_some_iff.mp h
      refine ecS (As := [.int a3, .int 0, .int 3]) (rest := []) ⟨hx, hb, hml, hown, hts⟩ (e_X6_isWithin l D K ad hap0 a3 0 3 I G A L r7 hc8) (va_cwS 3 hts gX6_variable_X6_isWithin rfl rfl rfl (by decide +kernel) ⟨Nat.le_of_ble_eq_true rfl, Nat.le_of_ble_eq_true rfl⟩) hK hP hS rfl hl.1 (Nat.le_of_ble_eq_true rfl) (Nat.le_of_ble_eq_true rfl) (Nat.le_of_ble_eq_true rfl) dX6_variable_21 (fun H locs hP hS => ?_) rfl
      have hP : va_P D vwCl (VW K ad I G A L) H := hP
      refine lv_if_ne (tgt := 29) hx hb dX6_variable_24 (by decide) (fun c_9 => ?_) (fun c_9 => ?_)
      · have h := iN c_9 h
        refine lv_aload_n hx hb dX6_variable_29 rfl (lv_at hl 0 rfl) ?_
        refine vgI hx hb hts hi6 hown hK hP (0) (by decide) (show kd 0 = 6 by decide) (C := RX6) (T := TX6) (N := 18) rfl 5 (by decide) (by decide) (by decide) (by decide) (hts (.fieldLink RX6 29 "CrateHelpers" "underWay" "I") (by decide +kernel)) (fun _ h9 => h9) dX6_variable_30 ?_
        refine lv_bipush (v := (-9)) hx hb dX6_variable_33 (by decide) ?_
        refine lv_icmp_eq (tgt := 41) hx hb dX6_variable_35 (by decide) (fun c_10 => ?_) (fun c_10 => ?_)
        · have h := ip c_10 h
          refine lv_aload_n hx hb dX6_variable_41 rfl (lv_at hl 0 rfl) ?_
          refine vgC hx hb hts hi6 hown hK hP (0) (by decide) (show kd 0 = 6 by decide) (C := RX6) (T := TX6) (N := 18) rfl 0 (by decide) (by decide) (by decide) (by decide) (1) rfl (hts (.fieldLink RX6 11 "CrateHelpers" "problems" "[LCrateHelpers$Problem;") (by decide +kernel)) (fun _ h9 => h9) dX6_variable_42 ?_
          refine lv_iload_n hx hb dX6_variable_45 rfl (lv_at hl 1 rfl) ?_
          obtain ⟨hn11, h⟩ := gk h
          refine xaald hx hb hK hP (1) (by decide) 5 13 (show kd 1 = 13 by decide) (by decide) rfl (by rw [show ln 1 = 5 by decide]; exact hn11) (58 + 52 * a1.toNatClampNeg) (drf13 ((show kd 1 = 13 by decide))) dX6_variable_46 ?_
          refine lv_astore (lv' := [(4, .ref (ad (58 + 52 * a1.toNatClampNeg))), (0, .ref (ad 0)), (1, .int a1), (2, .int a2), (3, .int a3)]) hx hb dX6_variable_47 hl (by decide) rfl (fun ls hl => ?_)
          refine lv_aload hx hb dX6_variable_49 (lv_at hl 0 rfl) ?_
          obtain ⟨hk12, h⟩ := gk h
          refine vgI hx hb hts hi1 hown hK hP (58 + 52 * a1.toNatClampNeg) (s318 hk12.1) hk12.2 (C := RX1) (T := TX1) (N := 9) rfl 0 (by decide) (by decide) (by decide) (by decide) (hts (.fieldLink RX6 103 "CrateHelpers$Problem" "variables" "I") (by decide +kernel)) (fun _ h9 => h9) dX6_variable_51 ?_
          refine lv_bipush (v := 6) hx hb dX6_variable_54 (by decide) ?_
          refine lv_icmp_lt (tgt := 64) hx hb dX6_variable_56 (by decide) (fun c_13 => ?_) (fun c_13 => ?_)
          · have h := ip c_13 h
            refine lv_aload hx hb dX6_variable_64 (lv_at hl 0 rfl) ?_
            refine lv_iload_n hx hb dX6_variable_66 rfl (lv_at hl 3 rfl) ?_
            refine lv_iload_n hx hb dX6_variable_67 rfl (lv_at hl 4 rfl) ?_
            obtain ⟨⟨r14, I15, A16⟩, hc17, h⟩ := Option.bind_eq_some_iff.mp h
            refine ecV (As := [.int a2, .int a3]) (rest := []) ⟨hx, hb, hml, hown, hts⟩ (e_X1_addVariable l D K ad hap0 (58 + 52 * a1.toNatClampNeg) a2 a3 I G A L r14 I15 A16 hc17) (cwV 2 hts gX6_variable_X1_addVariable rfl rfl rfl (by decide +kernel) ⟨Nat.le_of_ble_eq_true rfl, Nat.le_of_ble_eq_true rfl⟩) hK hP hS (s318 hk12.1) hk12.2 (by decide) rfl rfl rfl hl.1 (Nat.le_of_ble_eq_true rfl) (Nat.le_of_ble_eq_true rfl) (Nat.le_of_ble_eq_true rfl) dX6_variable_68 (fun H locs hP hS => ?_) rfl
            have hP : va_P D vwCl (VW K ad I15 G A16 L) H := hP
            exact W.iret (v := r14) hx hb hr (fun t9 ht9 hW9 => ⟨⟨r14, (I15, G, A16, L), rfl, by cases h; exact ⟨rfl, rfl⟩, by rw [ht9]; exact hP, va_K.moved hW9.alike hK⟩, hS.F ht9⟩) hS.2.2 dX6_variable_71
          · have h := iN c_13 h
            refine lv_bipush (v := (-3)) hx hb dX6_variable_59 (by decide) ?_
            refine lv_goto (tgt := 71) hx hb dX6_variable_61 (by decide) ?_
            exact W.iret (v := (-3)) hx hb hr (fun t9 ht9 hW9 => ⟨⟨(-3), (I, G, A, L), rfl, by cases h; exact ⟨rfl, rfl⟩, by rw [ht9]; exact hP, va_K.moved hW9.alike hK⟩, hS.F ht9⟩) hS.2.2 dX6_variable_71
        · have h := iN c_10 h
          refine lv_bipush (v := (-2)) hx hb dX6_variable_38 (by decide) ?_
          exact W.iret (v := (-2)) hx hb hr (fun t9 ht9 hW9 => ⟨⟨(-2), (I, G, A, L), rfl, by cases h; exact ⟨rfl, rfl⟩, by rw [ht9]; exact hP, va_K.moved hW9.alike hK⟩, hS.F ht9⟩) hS.2.2 dX6_variable_40
      · have h := ip c_9 h
        refine lv_iconst (v := (-1)) hx hb dX6_variable_27 (by decide) ?_
        exact W.iret (v := (-1)) hx hb hr (fun t9 ht9 hW9 => ⟨⟨(-1), (I, G, A, L), rfl, by cases h; exact ⟨rfl, rfl⟩, by rw [ht9]; exact hP, va_K.moved hW9.alike hK⟩, hS.F ht9⟩) hS.2.2 dX6_variable_28
set_option maxHeartbeats 4000000 in
set_option maxRecDepth 100000 in
theorem e_X5_valueOf (l : Launch) (D : va_G) (K : Nat → ClassId) (ad : Nat → Nat) (hap0 : apart ad (fun _ => True)) (o : Nat) (a1 : Int32) (a2 : Int32) (I : Nat → Nat → Int32) (G : Nat → Nat → Nat) (A : Nat → Nat → Int32) (L : Nat → Nat → Int64) (r0 : Int32) (h : f_X5_valueOf L o a1 a2 = some r0) : Ci l D K ad yX5_valueOf wsX5_valueOf 1 23 [.ref (ad o), .int a1, .int a2] (I, G, A, L) (fun (r : Int32) (u : Mem) => r = r0 ∧ u = (I, G, A, L)) := by
  intro sz
  refine Met.ofW (cc := cX5_valueOf) (maxL := 3) (ret := (some .int)) (by decide) rfl ?_
  intro p e s m args below meth c s₁ Bd hml hv0
  obtain ⟨rfl, hsz, hP, hK⟩ := hv0
  have hx := Bd.exec
  have hb := Bd.bytes
  have hr := Bd.returns
  have hts := atoms_spec (ws := wsX5_valueOf) Bd.pre
  have hown : s.vm.findClass RX5 = some m.cls := findClass_of_methodNamed Bd.named
  have hlocks := Bd.notSynchronized
  have hi5 : ∀ w ∈ u_ws RX5 TX5 16, w ∈ wsX5_valueOf := fun w h => List.mem_cons_of_mem _ (List.mem_append_right _ h)
  subst hsz
  have hap := vF_ap hap0 s.heap.size
  have hS : va_S (vF ad s.heap.size) s.heap s.heap [] := va_S.rf
  have hP : va_P D vwCl (VW K ad I G A L) s.heap := hP
  have hl := lv_entry ([.ref (ad o), .int a1, .int a2]) (n := 3) (Nat.le_of_ble_eq_true rfl)
  rw [lg_entry_eq]
  generalize (lg_sl ([.ref (ad o), .int a1, .int a2]) ++ List.replicate (3 - (lg_sl ([.ref (ad o), .int a1, .int a2])).length) Slot.unset).toArray = ls at hl ⊢
  have hl : lv_has ls 3 [(0, .ref (ad o)), (1, .int a1), (2, .int a2)] := hl
  rw [f_X5_valueOf] at h
  refine lv_aload_n hx hb dX5_valueOf_0 rfl (lv_at hl 0 rfl) ?_
  obtain ⟨hk1, h⟩ := gk h
  refine vgS hx hb hts hi5 hown hK hP (o) (s318 hk1.1) hk1.2 (C := RX5) (T := TX5) (N := 16) rfl 0 (by decide) (by decide) (by decide) (by decide) (o + 1) rfl (hts (.fieldLink RX5 49 "CrateHelpers$Tree" "place" "[J") (by decide +kernel)) (fun _ h9 => h9) dX5_valueOf_1 ?_
  refine lv_iload_n hx hb dX5_valueOf_4 rfl (lv_at hl 1 rfl) ?_
  obtain ⟨hk2, h⟩ := gk h
  obtain ⟨hn3, h⟩ := gk h
  refine xlald hx hb hK hP (o + 1) (s318 hk2.1) hk2.2 hn3 dX5_valueOf_5 ?_
  refine lv_iload_n hx hb dX5_valueOf_6 rfl (lv_at hl 2 rfl) ?_
  obtain ⟨r4, hc5, h⟩ := Option.bind_eq_some_iff.mp h
  refine ecS (As := [.int a2]) (rest := [.long (L (o + 1) a1.toNatClampNeg)]) ⟨hx, hb, hml, hown, hts⟩ (e_X5_shiftOf l D K ad hap0 a2 I G A L r4 hc5) (va_cwS 1 hts gX5_valueOf_X5_shiftOf rfl rfl rfl (by decide +kernel) ⟨Nat.le_of_ble_eq_true rfl, Nat.le_of_ble_eq_true rfl⟩) hK hP hS rfl hl.1 (Nat.le_of_ble_eq_true rfl) (Nat.le_of_ble_eq_true rfl) (Nat.le_of_ble_eq_true rfl) dX5_valueOf_7 (fun H locs hP hS => ?_) rfl
  have hP : va_P D vwCl (VW K ad I G A L) H := hP
  refine lv_lshr hx hb dX5_valueOf_10 rfl ?_
  refine lv_ldc2 (v := 7) hx hb hown (hts (.constantLong RX5 123 (7)) (by decide +kernel)) dX5_valueOf_11 ?_
  refine lv_land hx hb dX5_valueOf_14 ?_
  refine lv_l2i hx hb dX5_valueOf_15 rfl ?_
  refine lv_iconst (v := 1) hx hb dX5_valueOf_16 (by decide) ?_
  refine lv_isub hx hb dX5_valueOf_17 ?_
  exact W.iret (v := (((((L (o + 1) a1.toNatClampNeg) >>> (r4.toInt64 &&& 63)) &&& 7).toInt32) - 1)) hx hb hr (fun t9 ht9 hW9 => ⟨⟨(((((L (o + 1) a1.toNatClampNeg) >>> (r4.toInt64 &&& 63)) &&& 7).toInt32) - 1), (I, G, A, L), rfl, by cases h; exact ⟨rfl, rfl⟩, by rw [ht9]; exact hP, va_K.moved hW9.alike hK⟩, hS.F ht9⟩) hS.2.2 dX5_valueOf_18

/-! part 53.c06 -/
set_option maxHeartbeats 4000000 in
set_option maxRecDepth 100000 in
theorem e_X6_walked (l : Launch) (D : va_G) (K : Nat → ClassId) (ad : Nat → Nat) (hap0 : apart ad (fun _ => True)) (a1 : Int32) (a2 : Int32) (I : Nat → Nat → Int32) (G : Nat → Nat → Nat) (A : Nat → Nat → Int32) (L : Nat → Nat → Int64) (r0 : Int32) (h : f_X6_walked I G A L a1 a2 = some r0) : Ci l D K ad yX6_walked wsX6_walked 2 67 [.ref (ad 0), .int a1, .int a2] (I, G, A, L) (fun (r : Int32) (u : Mem) => r = r0 ∧ u = (I, G, A, L)) := by
  intro sz
  refine Met.ofW (cc := cX6_walked) (maxL := 4) (ret := (some .int)) (by decide) rfl ?_
  intro p e s m args below meth c s₁ Bd hml hv0
  obtain ⟨rfl, hsz, hP, hK⟩ := hv0
  have hx := Bd.exec
  have hb := Bd.bytes
  have hr := Bd.returns
  have hts := atoms_spec (ws := wsX6_walked) Bd.pre
  have hown : s.vm.findClass RX6 = some m.cls := findClass_of_methodNamed Bd.named
  have hlocks := Bd.notSynchronized
  have hi6 : ∀ w ∈ u_ws RX6 TX6 18, w ∈ wsX6_walked := fun w h => List.mem_cons_of_mem _ (List.mem_append_left _ (List.mem_append_left _ (List.mem_append_right _ h)))
  have hi5 : ∀ w ∈ u_ws RX5 TX5 16, w ∈ wsX6_walked := fun w h => List.mem_cons_of_mem _ (List.mem_append_left _ (List.mem_append_right _ h))
  have hi1 : ∀ w ∈ u_ws RX1 TX1 9, w ∈ wsX6_walked := fun w h => List.mem_cons_of_mem _ (List.mem_append_right _ h)
  subst hsz
  have hap := vF_ap hap0 s.heap.size
  have hS : va_S (vF ad s.heap.size) s.heap s.heap [] := va_S.rf
  have hP : va_P D vwCl (VW K ad I G A L) s.heap := hP
  have hl := lv_entry ([.ref (ad 0), .int a1, .int a2]) (n := 4) (Nat.le_of_ble_eq_true rfl)
  rw [lg_entry_eq]
  generalize (lg_sl ([.ref (ad 0), .int a1, .int a2]) ++ List.replicate (4 - (lg_sl ([.ref (ad 0), .int a1, .int a2])).length) Slot.unset).toArray = ls at hl ⊢
  have hl : lv_has ls 4 [(0, .ref (ad 0)), (1, .int a1), (2, .int a2)] := hl
  rw [f_X6_walked] at h
  refine lv_iload_n hx hb dX6_walked_0 rfl (lv_at hl 2 rfl) ?_
  refine lv_iconst (v := 0) hx hb dX6_walked_1 (by decide) ?_
  refine lv_bipush (v := 9) hx hb dX6_walked_2 (by decide) ?_
  obtain ⟨r1, hc2, h⟩ := Option.bind_eq_some_iff.mp h
  refine ecS (As := [.int a2, .int 0, .int 9]) (rest := []) ⟨hx, hb, hml, hown, hts⟩ (e_X6_isWithin l D K ad hap0 a2 0 9 I G A L r1 hc2) (va_cwS 3 hts gX6_walked_X6_isWithin rfl rfl rfl (by decide +kernel) ⟨Nat.le_of_ble_eq_true rfl, Nat.le_of_ble_eq_true rfl⟩) hK hP hS rfl hl.1 (Nat.le_of_ble_eq_true rfl) (Nat.le_of_ble_eq_true rfl) (Nat.le_of_ble_eq_true rfl) dX6_walked_4 (fun H locs hP hS => ?_) rfl
  have hP : va_P D vwCl (VW K ad I G A L) H := hP
  refine lv_if_ne (tgt := 12) hx hb dX6_walked_7 (by decide) (fun c_3 => ?_) (fun c_3 => ?_)
  · have h := iN c_3 h
    refine lv_iload_n hx hb dX6_walked_12 rfl (lv_at hl 1 rfl) ?_
    refine lv_iconst (v := 0) hx hb dX6_walked_13 (by decide) ?_
    refine lv_aload_n hx hb dX6_walked_14 rfl (lv_at hl 0 rfl) ?_
    refine vgG hx hb hts hi6 hown hK hP (0) (by decide) (show kd 0 = 6 by decide) (C := RX6) (T := TX6) (N := 18) rfl 6 (by decide) (by decide) (by decide) (by decide) (hts (.fieldLink RX6 82 "CrateHelpers" "lastEnded" "LCrateHelpers$Tree;") (by decide +kernel)) (fun _ h9 => h9) dX6_walked_15 ?_
    obtain ⟨hk4, h⟩ := gk h
    refine vgI hx hb hts hi5 hown hK hP (G 0 6) (s318 hk4.1) hk4.2 (C := RX5) (T := TX5) (N := 16) rfl 11 (by decide) (by decide) (by decide) (by decide) (hts (.fieldLink RX6 192 "CrateHelpers$Tree" "taken" "I") (by decide +kernel)) (fun _ h9 => h9) dX6_walked_18 ?_
    refine lv_iconst (v := 1) hx hb dX6_walked_21 (by decide) ?_
    refine lv_isub hx hb dX6_walked_22 ?_
    obtain ⟨r5, hc6, h⟩ := Option.bind_eq_some_iff.mp h
    refine ecS (As := [.int a1, .int 0, .int ((I (G 0 6) 11) - 1)]) (rest := []) ⟨hx, hb, hml, hown, hts⟩ (e_X6_isWithin l D K ad hap0 a1 0 ((I (G 0 6) 11) - 1) I G A L r5 hc6) (va_cwS 3 hts gX6_walked_X6_isWithin rfl rfl rfl (by decide +kernel) ⟨Nat.le_of_ble_eq_true rfl, Nat.le_of_ble_eq_true rfl⟩) hK hP hS rfl hl.1 (Nat.le_of_ble_eq_true rfl) (Nat.le_of_ble_eq_true rfl) (Nat.le_of_ble_eq_true rfl) dX6_walked_23 (fun H locs hP hS => ?_) rfl
    have hP : va_P D vwCl (VW K ad I G A L) H := hP
    refine lv_if_ne (tgt := 32) hx hb dX6_walked_26 (by decide) (fun c_7 => ?_) (fun c_7 => ?_)
    · have h := iN c_7 h
      refine lv_aload_n hx hb dX6_walked_32 rfl (lv_at hl 0 rfl) ?_
      refine vgG hx hb hts hi6 hown hK hP (0) (by decide) (show kd 0 = 6 by decide) (C := RX6) (T := TX6) (N := 18) rfl 6 (by decide) (by decide) (by decide) (by decide) (hts (.fieldLink RX6 82 "CrateHelpers" "lastEnded" "LCrateHelpers$Tree;") (by decide +kernel)) (fun _ h9 => h9) dX6_walked_33 ?_
      refine vgS hx hb hts hi5 hown hK hP (G 0 6) (s318 hk4.1) hk4.2 (C := RX5) (T := TX5) (N := 16) rfl 8 (by decide) (by decide) (by decide) (by decide) (G 0 6 + 9) rfl (hts (.fieldLink RX6 195 "CrateHelpers$Tree" "walk" "[I") (by decide +kernel)) (fun _ h9 => h9) dX6_walked_36 ?_
      refine lv_iload_n hx hb dX6_walked_39 rfl (lv_at hl 1 rfl) ?_
      obtain ⟨hk8, h⟩ := gk h
      obtain ⟨hn9, h⟩ := gk h
      refine xiald hx hb hK hP (G 0 6 + 9) (s318 hk8.1) hk8.2 hn9 dX6_walked_40 ?_
      refine lv_istore_n (lv' := [(3, .int (A (G 0 6 + 9) a1.toNatClampNeg)), (0, .ref (ad 0)), (1, .int a1), (2, .int a2)]) hx hb dX6_walked_41 rfl hl (by decide) rfl (fun ls hl => ?_)
      refine lv_iload_n hx hb dX6_walked_42 rfl (lv_at hl 3 rfl) ?_
      rcases sw_9 a2 with hs10 | hs10 | hs10 | hs10 | hs10 | hs10 | hs10 | hs10 | hs10 | hs10 | hs10
      · have h := ip hs10 h
        refine W_top hs10 ?_
        refine lv_tableIn (off := 53) (tgt := 96) hx hb dX6_walked_43 (by decide) (by decide) (by decide) (by decide) ?_
        refine lv_aload_n hx hb dX6_walked_96 rfl (lv_at hl 1 rfl) ?_
        refine vgG hx hb hts hi6 hown hK hP (0) (by decide) (show kd 0 = 6 by decide) (C := RX6) (T := TX6) (N := 18) rfl 6 (by decide) (by decide) (by decide) (by decide) (hts (.fieldLink RX6 82 "CrateHelpers" "lastEnded" "LCrateHelpers$Tree;") (by decide +kernel)) (fun _ h9 => h9) dX6_walked_97 ?_
        refine vgS hx hb hts hi5 hown hK hP (G 0 6) (s318 hk4.1) hk4.2 (C := RX5) (T := TX5) (N := 16) rfl 1 (by decide) (by decide) (by decide) (by decide) (G 0 6 + 2) rfl (hts (.fieldLink RX6 198 "CrateHelpers$Tree" "depth" "[B") (by decide +kernel)) (fun _ h9 => h9) dX6_walked_100 ?_
        refine lv_iload_n hx hb dX6_walked_103 rfl (lv_at hl 0 rfl) ?_
        obtain ⟨hk11, h⟩ := gk h
        obtain ⟨hn12, h⟩ := gk h
        refine xbald hx hb hK hP (G 0 6 + 2) (s318 hk11.1) hk11.2 hn12 dX6_walked_104 ?_
        exact W.iret (v := (A (G 0 6 + 2) ((A (G 0 6 + 9) a1.toNatClampNeg).toNatClampNeg))) hx hb hr (fun t9 ht9 hW9 => ⟨⟨(A (G 0 6 + 2) ((A (G 0 6 + 9) a1.toNatClampNeg).toNatClampNeg)), (I, G, A, L), rfl, by cases h; exact ⟨rfl, rfl⟩, by rw [ht9]; exact hP, va_K.moved hW9.alike hK⟩, hS.F ht9⟩) hS.2.2 dX6_walked_105
      · have h := iN (by rw [hs10]; decide) h
        have h := ip hs10 h
        refine W_top hs10 ?_
        refine lv_tableIn (off := 91) (tgt := 134) hx hb dX6_walked_43 (by decide) (by decide) (by decide) (by decide) ?_
        refine lv_iload_n hx hb dX6_walked_134 rfl (lv_at hl 3 rfl) ?_
        refine lv_aload_n hx hb dX6_walked_135 rfl (lv_at hl 1 rfl) ?_
        refine vgG hx hb hts hi6 hown hK hP (0) (by decide) (show kd 0 = 6 by decide) (C := RX6) (T := TX6) (N := 18) rfl 6 (by decide) (by decide) (by decide) (by decide) (hts (.fieldLink RX6 82 "CrateHelpers" "lastEnded" "LCrateHelpers$Tree;") (by decide +kernel)) (fun _ h9 => h9) dX6_walked_136 ?_
        refine vgS hx hb hts hi5 hown hK hP (G 0 6) (s318 hk4.1) hk4.2 (C := RX5) (T := TX5) (N := 16) rfl 1 (by decide) (by decide) (by decide) (by decide) (G 0 6 + 2) rfl (hts (.fieldLink RX6 198 "CrateHelpers$Tree" "depth" "[B") (by decide +kernel)) (fun _ h9 => h9) dX6_walked_139 ?_
        refine lv_iload_n hx hb dX6_walked_142 rfl (lv_at hl 0 rfl) ?_
        obtain ⟨hk13, h⟩ := gk h
        obtain ⟨hn14, h⟩ := gk h
        refine xbald hx hb hK hP (G 0 6 + 2) (s318 hk13.1) hk13.2 hn14 dX6_walked_143 ?_
        refine lv_icmp_gt (tgt := 161) hx hb dX6_walked_144 (by decide) (fun c_15 => ?_) (fun c_15 => ?_)
        · have h := ip c_15 h
          refine lv_bipush (v := (-9)) hx hb dX6_walked_161 (by decide) ?_
          exact W.iret (v := (-9)) hx hb hr (fun t9 ht9 hW9 => ⟨⟨(-9), (I, G, A, L), rfl, by cases h; exact ⟨rfl, rfl⟩, by rw [ht9]; exact hP, va_K.moved hW9.alike hK⟩, hS.F ht9⟩) hS.2.2 dX6_walked_163
        · have h := iN c_15 h
          refine lv_aload_n hx hb dX6_walked_147 rfl (lv_at hl 1 rfl) ?_
          refine vgG hx hb hts hi6 hown hK hP (0) (by decide) (show kd 0 = 6 by decide) (C := RX6) (T := TX6) (N := 18) rfl 6 (by decide) (by decide) (by decide) (by decide) (hts (.fieldLink RX6 82 "CrateHelpers" "lastEnded" "LCrateHelpers$Tree;") (by decide +kernel)) (fun _ h9 => h9) dX6_walked_148 ?_
          refine lv_iload_n hx hb dX6_walked_151 rfl (lv_at hl 0 rfl) ?_
          refine lv_iload_n hx hb dX6_walked_152 rfl (lv_at hl 3 rfl) ?_
          refine lv_iconst (v := 1) hx hb dX6_walked_153 (by decide) ?_
          refine lv_isub hx hb dX6_walked_154 ?_
          obtain ⟨r16, hc17, h⟩ := Option.bind_eq_some_iff.mp h
          refine ecV (As := [.int (A (G 0 6 + 9) a1.toNatClampNeg), .int (a2 - 1)]) (rest := []) ⟨hx, hb, hml, hown, hts⟩ (e_X5_valueOf l D K ad hap0 (G 0 6) (A (G 0 6 + 9) a1.toNatClampNeg) (a2 - 1) I G A L r16 hc17) (cwV 2 hts gX6_walked_X5_valueOf rfl rfl rfl (by decide +kernel) ⟨Nat.le_of_ble_eq_true rfl, Nat.le_of_ble_eq_true rfl⟩) hK hP hS (s318 hk4.1) hk4.2 (by decide) rfl rfl rfl hl.1 (Nat.le_of_ble_eq_true rfl) (Nat.le_of_ble_eq_true rfl) (Nat.le_of_ble_eq_true rfl) dX6_walked_155 (fun H locs hP hS => ?_) rfl
          have hP : va_P D vwCl (VW K ad I G A L) H := hP
          refine lv_goto (tgt := 163) hx hb dX6_walked_158 (by decide) ?_
          exact W.iret (v := r16) hx hb hr (fun t9 ht9 hW9 => ⟨⟨r16, (I, G, A, L), rfl, by cases h; exact ⟨rfl, rfl⟩, by rw [ht9]; exact hP, va_K.moved hW9.alike hK⟩, hS.F ht9⟩) hS.2.2 dX6_walked_163
      · have h := iN (by rw [hs10]; decide) h
        have h := iN (by rw [hs10]; decide) h
        have h := ip hs10 h
        refine W_top hs10 ?_
        refine lv_tableIn (off := 91) (tgt := 134) hx hb dX6_walked_43 (by decide) (by decide) (by decide) (by decide) ?_
        refine lv_iload_n hx hb dX6_walked_134 rfl (lv_at hl 3 rfl) ?_
        refine lv_aload_n hx hb dX6_walked_135 rfl (lv_at hl 1 rfl) ?_
        refine vgG hx hb hts hi6 hown hK hP (0) (by decide) (show kd 0 = 6 by decide) (C := RX6) (T := TX6) (N := 18) rfl 6 (by decide) (by decide) (by decide) (by decide) (hts (.fieldLink RX6 82 "CrateHelpers" "lastEnded" "LCrateHelpers$Tree;") (by decide +kernel)) (fun _ h9 => h9) dX6_walked_136 ?_
        refine vgS hx hb hts hi5 hown hK hP (G 0 6) (s318 hk4.1) hk4.2 (C := RX5) (T := TX5) (N := 16) rfl 1 (by decide) (by decide) (by decide) (by decide) (G 0 6 + 2) rfl (hts (.fieldLink RX6 198 "CrateHelpers$Tree" "depth" "[B") (by decide +kernel)) (fun _ h9 => h9) dX6_walked_139 ?_
        refine lv_iload_n hx hb dX6_walked_142 rfl (lv_at hl 0 rfl) ?_
        obtain ⟨hk18, h⟩ := gk h
        obtain ⟨hn19, h⟩ := gk h
        refine xbald hx hb hK hP (G 0 6 + 2) (s318 hk18.1) hk18.2 hn19 dX6_walked_143 ?_
        refine lv_icmp_gt (tgt := 161) hx hb dX6_walked_144 (by decide) (fun c_20 => ?_) (fun c_20 => ?_)
        · have h := ip c_20 h
          refine lv_bipush (v := (-9)) hx hb dX6_walked_161 (by decide) ?_
          exact W.iret (v := (-9)) hx hb hr (fun t9 ht9 hW9 => ⟨⟨(-9), (I, G, A, L), rfl, by cases h; exact ⟨rfl, rfl⟩, by rw [ht9]; exact hP, va_K.moved hW9.alike hK⟩, hS.F ht9⟩) hS.2.2 dX6_walked_163
        · have h := iN c_20 h
          refine lv_aload_n hx hb dX6_walked_147 rfl (lv_at hl 1 rfl) ?_
          refine vgG hx hb hts hi6 hown hK hP (0) (by decide) (show kd 0 = 6 by decide) (C := RX6) (T := TX6) (N := 18) rfl 6 (by decide) (by decide) (by decide) (by decide) (hts (.fieldLink RX6 82 "CrateHelpers" "lastEnded" "LCrateHelpers$Tree;") (by decide +kernel)) (fun _ h9 => h9) dX6_walked_148 ?_
          refine lv_iload_n hx hb dX6_walked_151 rfl (lv_at hl 0 rfl) ?_
          refine lv_iload_n hx hb dX6_walked_152 rfl (lv_at hl 3 rfl) ?_
          refine lv_iconst (v := 1) hx hb dX6_walked_153 (by decide) ?_
          refine lv_isub hx hb dX6_walked_154 ?_
          obtain ⟨r21, hc22, h⟩ := Option.bind_eq_some_iff.mp h
          refine ecV (As := [.int (A (G 0 6 + 9) a1.toNatClampNeg), .int (a2 - 1)]) (rest := []) ⟨hx, hb, hml, hown, hts⟩ (e_X5_valueOf l D K ad hap0 (G 0 6) (A (G 0 6 + 9) a1.toNatClampNeg) (a2 - 1) I G A L r21 hc22) (cwV 2 hts gX6_walked_X5_valueOf rfl rfl rfl (by decide +kernel) ⟨Nat.le_of_ble_eq_true rfl, Nat.le_of_ble_eq_true rfl⟩) hK hP hS (s318 hk4.1) hk4.2 (by decide) rfl rfl rfl hl.1 (Nat.le_of_ble_eq_true rfl) (Nat.le_of_ble_eq_true rfl) (Nat.le_of_ble_eq_true rfl) dX6_walked_155 (fun H locs hP hS => ?_) rfl
          have hP : va_P D vwCl (VW K ad I G A L) H := hP
          refine lv_goto (tgt := 163) hx hb dX6_walked_158 (by decide) ?_
          exact W.iret (v := r21) hx hb hr (fun t9 ht9 hW9 => ⟨⟨r21, (I, G, A, L), rfl, by cases h; exact ⟨rfl, rfl⟩, by rw [ht9]; exact hP, va_K.moved hW9.alike hK⟩, hS.F ht9⟩) hS.2.2 dX6_walked_163
      · have h := iN (by rw [hs10]; decide) h
        have h := iN (by rw [hs10]; decide) h
        have h := iN (by rw [hs10]; decide) h
        have h := ip hs10 h
        refine W_top hs10 ?_
        refine lv_tableIn (off := 91) (tgt := 134) hx hb dX6_walked_43 (by decide) (by decide) (by decide) (by decide) ?_
        refine lv_iload_n hx hb dX6_walked_134 rfl (lv_at hl 3 rfl) ?_
        refine lv_aload_n hx hb dX6_walked_135 rfl (lv_at hl 1 rfl) ?_
        refine vgG hx hb hts hi6 hown hK hP (0) (by decide) (show kd 0 = 6 by decide) (C := RX6) (T := TX6) (N := 18) rfl 6 (by decide) (by decide) (by decide) (by decide) (hts (.fieldLink RX6 82 "CrateHelpers" "lastEnded" "LCrateHelpers$Tree;") (by decide +kernel)) (fun _ h9 => h9) dX6_walked_136 ?_
        refine vgS hx hb hts hi5 hown hK hP (G 0 6) (s318 hk4.1) hk4.2 (C := RX5) (T := TX5) (N := 16) rfl 1 (by decide) (by decide) (by decide) (by decide) (G 0 6 + 2) rfl (hts (.fieldLink RX6 198 "CrateHelpers$Tree" "depth" "[B") (by decide +kernel)) (fun _ h9 => h9) dX6_walked_139 ?_
        refine lv_iload_n hx hb dX6_walked_142 rfl (lv_at hl 0 rfl) ?_
        obtain ⟨hk23, h⟩ := gk h
        obtain ⟨hn24, h⟩ := gk h
        refine xbald hx hb hK hP (G 0 6 + 2) (s318 hk23.1) hk23.2 hn24 dX6_walked_143 ?_
        refine lv_icmp_gt (tgt := 161) hx hb dX6_walked_144 (by decide) (fun c_25 => ?_) (fun c_25 => ?_)
        · have h := ip c_25 h
          refine lv_bipush (v := (-9)) hx hb dX6_walked_161 (by decide) ?_
          exact W.iret (v := (-9)) hx hb hr (fun t9 ht9 hW9 => ⟨⟨(-9), (I, G, A, L), rfl, by cases h; exact ⟨rfl, rfl⟩, by rw [ht9]; exact hP, va_K.moved hW9.alike hK⟩, hS.F ht9⟩) hS.2.2 dX6_walked_163
        · have h := iN c_25 h
          refine lv_aload_n hx hb dX6_walked_147 rfl (lv_at hl 1 rfl) ?_
          refine vgG hx hb hts hi6 hown hK hP (0) (by decide) (show kd 0 = 6 by decide) (C := RX6) (T := TX6) (N := 18) rfl 6 (by decide) (by decide) (by decide) (by decide) (hts (.fieldLink RX6 82 "CrateHelpers" "lastEnded" "LCrateHelpers$Tree;") (by decide +kernel)) (fun _ h9 => h9) dX6_walked_148 ?_
          refine lv_iload_n hx hb dX6_walked_151 rfl (lv_at hl 0 rfl) ?_
          refine lv_iload_n hx hb dX6_walked_152 rfl (lv_at hl 3 rfl) ?_
          refine lv_iconst (v := 1) hx hb dX6_walked_153 (by decide) ?_
          refine lv_isub hx hb dX6_walked_154 ?_
          obtain ⟨r26, hc27, h⟩ := Option.bind_eq_some_iff.mp h
          refine ecV (As := [.int (A (G 0 6 + 9) a1.toNatClampNeg), .int (a2 - 1)]) (rest := []) ⟨hx, hb, hml, hown, hts⟩ (e_X5_valueOf l D K ad hap0 (G 0 6) (A (G 0 6 + 9) a1.toNatClampNeg) (a2 - 1) I G A L r26 hc27) (cwV 2 hts gX6_walked_X5_valueOf rfl rfl rfl (by decide +kernel) ⟨Nat.le_of_ble_eq_true rfl, Nat.le_of_ble_eq_true rfl⟩) hK hP hS (s318 hk4.1) hk4.2 (by decide) rfl rfl rfl hl.1 (Nat.le_of_ble_eq_true rfl) (Nat.le_of_ble_eq_true rfl) (Nat.le_of_ble_eq_true rfl) dX6_walked_155 (fun H locs hP hS => ?_) rfl
          have hP : va_P D vwCl (VW K ad I G A L) H := hP
          refine lv_goto (tgt := 163) hx hb dX6_walked_158 (by decide) ?_
          exact W.iret (v := r26) hx hb hr (fun t9 ht9 hW9 => ⟨⟨r26, (I, G, A, L), rfl, by cases h; exact ⟨rfl, rfl⟩, by rw [ht9]; exact hP, va_K.moved hW9.alike hK⟩, hS.F ht9⟩) hS.2.2 dX6_walked_163
      · have h := iN (by rw [hs10]; decide) h
        have h := iN (by rw [hs10]; decide) h
        have h := iN (by rw [hs10]; decide) h
        have h := iN (by rw [hs10]; decide) h
        have h := ip hs10 h
        refine W_top hs10 ?_
        refine lv_tableIn (off := 91) (tgt := 134) hx hb dX6_walked_43 (by decide) (by decide) (by decide) (by decide) ?_
        refine lv_iload_n hx hb dX6_walked_134 rfl (lv_at hl 3 rfl) ?_
        refine lv_aload_n hx hb dX6_walked_135 rfl (lv_at hl 1 rfl) ?_
        refine vgG hx hb hts hi6 hown hK hP (0) (by decide) (show kd 0 = 6 by decide) (C := RX6) (T := TX6) (N := 18) rfl 6 (by decide) (by decide) (by decide) (by decide) (hts (.fieldLink RX6 82 "CrateHelpers" "lastEnded" "LCrateHelpers$Tree;") (by decide +kernel)) (fun _ h9 => h9) dX6_walked_136 ?_
        refine vgS hx hb hts hi5 hown hK hP (G 0 6) (s318 hk4.1) hk4.2 (C := RX5) (T := TX5) (N := 16) rfl 1 (by decide) (by decide) (by decide) (by decide) (G 0 6 + 2) rfl (hts (.fieldLink RX6 198 "CrateHelpers$Tree" "depth" "[B") (by decide +kernel)) (fun _ h9 => h9) dX6_walked_139 ?_
        refine lv_iload_n hx hb dX6_walked_142 rfl (lv_at hl 0 rfl) ?_
        obtain ⟨hk28, h⟩ := gk h
        obtain ⟨hn29, h⟩ := gk h
        refine xbald hx hb hK hP (G 0 6 + 2) (s318 hk28.1) hk28.2 hn29 dX6_walked_143 ?_
        refine lv_icmp_gt (tgt := 161) hx hb dX6_walked_144 (by decide) (fun c_30 => ?_) (fun c_30 => ?_)
        · have h := ip c_30 h
          refine lv_bipush (v := (-9)) hx hb dX6_walked_161 (by decide) ?_
          exact W.iret (v := (-9)) hx hb hr (fun t9 ht9 hW9 => ⟨⟨(-9), (I, G, A, L), rfl, by cases h; exact ⟨rfl, rfl⟩, by rw [ht9]; exact hP, va_K.moved hW9.alike hK⟩, hS.F ht9⟩) hS.2.2 dX6_walked_163
        · have h := iN c_30 h
          refine lv_aload_n hx hb dX6_walked_147 rfl (lv_at hl 1 rfl) ?_
          refine vgG hx hb hts hi6 hown hK hP (0) (by decide) (show kd 0 = 6 by decide) (C := RX6) (T := TX6) (N := 18) rfl 6 (by decide) (by decide) (by decide) (by decide) (hts (.fieldLink RX6 82 "CrateHelpers" "lastEnded" "LCrateHelpers$Tree;") (by decide +kernel)) (fun _ h9 => h9) dX6_walked_148 ?_
          refine lv_iload_n hx hb dX6_walked_151 rfl (lv_at hl 0 rfl) ?_
          refine lv_iload_n hx hb dX6_walked_152 rfl (lv_at hl 3 rfl) ?_
          refine lv_iconst (v := 1) hx hb dX6_walked_153 (by decide) ?_
          refine lv_isub hx hb dX6_walked_154 ?_
          obtain ⟨r31, hc32, h⟩ := Option.bind_eq_some_iff.mp h
          refine ecV (As := [.int (A (G 0 6 + 9) a1.toNatClampNeg), .int (a2 - 1)]) (rest := []) ⟨hx, hb, hml, hown, hts⟩ (e_X5_valueOf l D K ad hap0 (G 0 6) (A (G 0 6 + 9) a1.toNatClampNeg) (a2 - 1) I G A L r31 hc32) (cwV 2 hts gX6_walked_X5_valueOf rfl rfl rfl (by decide +kernel) ⟨Nat.le_of_ble_eq_true rfl, Nat.le_of_ble_eq_true rfl⟩) hK hP hS (s318 hk4.1) hk4.2 (by decide) rfl rfl rfl hl.1 (Nat.le_of_ble_eq_true rfl) (Nat.le_of_ble_eq_true rfl) (Nat.le_of_ble_eq_true rfl) dX6_walked_155 (fun H locs hP hS => ?_) rfl
          have hP : va_P D vwCl (VW K ad I G A L) H := hP
          refine lv_goto (tgt := 163) hx hb dX6_walked_158 (by decide) ?_
          exact W.iret (v := r31) hx hb hr (fun t9 ht9 hW9 => ⟨⟨r31, (I, G, A, L), rfl, by cases h; exact ⟨rfl, rfl⟩, by rw [ht9]; exact hP, va_K.moved hW9.alike hK⟩, hS.F ht9⟩) hS.2.2 dX6_walked_163
      · have h := iN (by rw [hs10]; decide) h
        have h := iN (by rw [hs10]; decide) h
        have h := iN (by rw [hs10]; decide) h
        have h := iN (by rw [hs10]; decide) h
        have h := iN (by rw [hs10]; decide) h
        have h := ip hs10 h
        refine W_top hs10 ?_
        refine lv_tableIn (off := 91) (tgt := 134) hx hb dX6_walked_43 (by decide) (by decide) (by decide) (by decide) ?_
        refine lv_iload_n hx hb dX6_walked_134 rfl (lv_at hl 3 rfl) ?_
        refine lv_aload_n hx hb dX6_walked_135 rfl (lv_at hl 1 rfl) ?_
        refine vgG hx hb hts hi6 hown hK hP (0) (by decide) (show kd 0 = 6 by decide) (C := RX6) (T := TX6) (N := 18) rfl 6 (by decide) (by decide) (by decide) (by decide) (hts (.fieldLink RX6 82 "CrateHelpers" "lastEnded" "LCrateHelpers$Tree;") (by decide +kernel)) (fun _ h9 => h9) dX6_walked_136 ?_
        refine vgS hx hb hts hi5 hown hK hP (G 0 6) (s318 hk4.1) hk4.2 (C := RX5) (T := TX5) (N := 16) rfl 1 (by decide) (by decide) (by decide) (by decide) (G 0 6 + 2) rfl (hts (.fieldLink RX6 198 "CrateHelpers$Tree" "depth" "[B") (by decide +kernel)) (fun _ h9 => h9) dX6_walked_139 ?_
        refine lv_iload_n hx hb dX6_walked_142 rfl (lv_at hl 0 rfl) ?_
        obtain ⟨hk33, h⟩ := gk h
        obtain ⟨hn34, h⟩ := gk h
        refine xbald hx hb hK hP (G 0 6 + 2) (s318 hk33.1) hk33.2 hn34 dX6_walked_143 ?_
        refine lv_icmp_gt (tgt := 161) hx hb dX6_walked_144 (by decide) (fun c_35 => ?_) (fun c_35 => ?_)
        · have h := ip c_35 h
          refine lv_bipush (v := (-9)) hx hb dX6_walked_161 (by decide) ?_
          exact W.iret (v := (-9)) hx hb hr (fun t9 ht9 hW9 => ⟨⟨(-9), (I, G, A, L), rfl, by cases h; exact ⟨rfl, rfl⟩, by rw [ht9]; exact hP, va_K.moved hW9.alike hK⟩, hS.F ht9⟩) hS.2.2 dX6_walked_163
        · have h := iN c_35 h
          refine lv_aload_n hx hb dX6_walked_147 rfl (lv_at hl 1 rfl) ?_
          refine vgG hx hb hts hi6 hown hK hP (0) (by decide) (show kd 0 = 6 by decide) (C := RX6) (T := TX6) (N := 18) rfl 6 (by decide) (by decide) (by decide) (by decide) (hts (.fieldLink RX6 82 "CrateHelpers" "lastEnded" "LCrateHelpers$Tree;") (by decide +kernel)) (fun _ h9 => h9) dX6_walked_148 ?_
          refine lv_iload_n hx hb dX6_walked_151 rfl (lv_at hl 0 rfl) ?_
          refine lv_iload_n hx hb dX6_walked_152 rfl (lv_at hl 3 rfl) ?_
          refine lv_iconst (v := 1) hx hb dX6_walked_153 (by decide) ?_
          refine lv_isub hx hb dX6_walked_154 ?_
          obtain ⟨r36, hc37, h⟩ := Option.bind_eq_some_iff.mp h
          refine ecV (As := [.int (A (G 0 6 + 9) a1.toNatClampNeg), .int (a2 - 1)]) (rest := []) ⟨hx, hb, hml, hown, hts⟩ (e_X5_valueOf l D K ad hap0 (G 0 6) (A (G 0 6 + 9) a1.toNatClampNeg) (a2 - 1) I G A L r36 hc37) (cwV 2 hts gX6_walked_X5_valueOf rfl rfl rfl (by decide +kernel) ⟨Nat.le_of_ble_eq_true rfl, Nat.le_of_ble_eq_true rfl⟩) hK hP hS (s318 hk4.1) hk4.2 (by decide) rfl rfl rfl hl.1 (Nat.le_of_ble_eq_true rfl) (Nat.le_of_ble_eq_true rfl) (Nat.le_of_ble_eq_true rfl) dX6_walked_155 (fun H locs hP hS => ?_) rfl
          have hP : va_P D vwCl (VW K ad I G A L) H := hP
          refine lv_goto (tgt := 163) hx hb dX6_walked_158 (by decide) ?_
          exact W.iret (v := r36) hx hb hr (fun t9 ht9 hW9 => ⟨⟨r36, (I, G, A, L), rfl, by cases h; exact ⟨rfl, rfl⟩, by rw [ht9]; exact hP, va_K.moved hW9.alike hK⟩, hS.F ht9⟩) hS.2.2 dX6_walked_163
      · have h := iN (by rw [hs10]; decide) h
        have h := iN (by rw [hs10]; decide) h
        have h := iN (by rw [hs10]; decide) h
        have h := iN (by rw [hs10]; decide) h
        have h := iN (by rw [hs10]; decide) h
        have h := iN (by rw [hs10]; decide) h
        have h := ip hs10 h
        refine W_top hs10 ?_
        refine lv_tableIn (off := 91) (tgt := 134) hx hb dX6_walked_43 (by decide) (by decide) (by decide) (by decide) ?_
        refine lv_iload_n hx hb dX6_walked_134 rfl (lv_at hl 3 rfl) ?_
        refine lv_aload_n hx hb dX6_walked_135 rfl (lv_at hl 1 rfl) ?_
        refine vgG hx hb hts hi6 hown hK hP (0) (by decide) (show kd 0 = 6 by decide) (C := RX6) (T := TX6) (N := 18) rfl 6 (by decide) (by decide) (by decide) (by decide) (hts (.fieldLink RX6 82 "CrateHelpers" "lastEnded" "LCrateHelpers$Tree;") (by decide +kernel)) (fun _ h9 => h9) dX6_walked_136 ?_
        refine vgS hx hb hts hi5 hown hK hP (G 0 6) (s318 hk4.1) hk4.2 (C := RX5) (T := TX5) (N := 16) rfl 1 (by decide) (by decide) (by decide) (by decide) (G 0 6 + 2) rfl (hts (.fieldLink RX6 198 "CrateHelpers$Tree" "depth" "[B") (by decide +kernel)) (fun _ h9 => h9) dX6_walked_139 ?_
        refine lv_iload_n hx hb dX6_walked_142 rfl (lv_at hl 0 rfl) ?_
        obtain ⟨hk38, h⟩ := gk h
        obtain ⟨hn39, h⟩ := gk h
        refine xbald hx hb hK hP (G 0 6 + 2) (s318 hk38.1) hk38.2 hn39 dX6_walked_143 ?_
        refine lv_icmp_gt (tgt := 161) hx hb dX6_walked_144 (by decide) (fun c_40 => ?_) (fun c_40 => ?_)
        · have h := ip c_40 h
          refine lv_bipush (v := (-9)) hx hb dX6_walked_161 (by decide) ?_
          exact W.iret (v := (-9)) hx hb hr (fun t9 ht9 hW9 => ⟨⟨(-9), (I, G, A, L), rfl, by cases h; exact ⟨rfl, rfl⟩, by rw [ht9]; exact hP, va_K.moved hW9.alike hK⟩, hS.F ht9⟩) hS.2.2 dX6_walked_163
        · have h := iN c_40 h
          refine lv_aload_n hx hb dX6_walked_147 rfl (lv_at hl 1 rfl) ?_
          refine vgG hx hb hts hi6 hown hK hP (0) (by decide) (show kd 0 = 6 by decide) (C := RX6) (T := TX6) (N := 18) rfl 6 (by decide) (by decide) (by decide) (by decide) (hts (.fieldLink RX6 82 "CrateHelpers" "lastEnded" "LCrateHelpers$Tree;") (by decide +kernel)) (fun _ h9 => h9) dX6_walked_148 ?_
          refine lv_iload_n hx hb dX6_walked_151 rfl (lv_at hl 0 rfl) ?_
          refine lv_iload_n hx hb dX6_walked_152 rfl (lv_at hl 3 rfl) ?_
          refine lv_iconst (v := 1) hx hb dX6_walked_153 (by decide) ?_
          refine lv_isub hx hb dX6_walked_154 ?_
          obtain ⟨r41, hc42, h⟩ := Option.bind_eq_some_iff.mp h
          refine ecV (As := [.int (A (G 0 6 + 9) a1.toNatClampNeg), .int (a2 - 1)]) (rest := []) ⟨hx, hb, hml, hown, hts⟩ (e_X5_valueOf l D K ad hap0 (G 0 6) (A (G 0 6 + 9) a1.toNatClampNeg) (a2 - 1) I G A L r41 hc42) (cwV 2 hts gX6_walked_X5_valueOf rfl rfl rfl (by decide +kernel) ⟨Nat.le_of_ble_eq_true rfl, Nat.le_of_ble_eq_true rfl⟩) hK hP hS (s318 hk4.1) hk4.2 (by decide) rfl rfl rfl hl.1 (Nat.le_of_ble_eq_true rfl) (Nat.le_of_ble_eq_true rfl) (Nat.le_of_ble_eq_true rfl) dX6_walked_155 (fun H locs hP hS => ?_) rfl
          have hP : va_P D vwCl (VW K ad I G A L) H := hP
          refine lv_goto (tgt := 163) hx hb dX6_walked_158 (by decide) ?_
          exact W.iret (v := r41) hx hb hr (fun t9 ht9 hW9 => ⟨⟨r41, (I, G, A, L), rfl, by cases h; exact ⟨rfl, rfl⟩, by rw [ht9]; exact hP, va_K.moved hW9.alike hK⟩, hS.F ht9⟩) hS.2.2 dX6_walked_163
      · have h := iN (by rw [hs10]; decide) h
        have h := iN (by rw [hs10]; decide) h
        have h := iN (by rw [hs10]; decide) h
        have h := iN (by rw [hs10]; decide) h
        have h := iN (by rw [hs10]; decide) h
        have h := iN (by rw [hs10]; decide) h
        have h := iN (by rw [hs10]; decide) h
        have h := ip hs10 h
        refine W_top hs10 ?_
        refine lv_tableIn (off := 63) (tgt := 106) hx hb dX6_walked_43 (by decide) (by decide) (by decide) (by decide) ?_
        refine lv_aload_n hx hb dX6_walked_106 rfl (lv_at hl 1 rfl) ?_
        refine vgG hx hb hts hi6 hown hK hP (0) (by decide) (show kd 0 = 6 by decide) (C := RX6) (T := TX6) (N := 18) rfl 6 (by decide) (by decide) (by decide) (by decide) (hts (.fieldLink RX6 82 "CrateHelpers" "lastEnded" "LCrateHelpers$Tree;") (by decide +kernel)) (fun _ h9 => h9) dX6_walked_107 ?_
        refine lv_iload_n hx hb dX6_walked_110 rfl (lv_at hl 0 rfl) ?_
        obtain ⟨r43, hc44, h⟩ := Option.bind_eq_some_iff.mp h
        refine ecV (As := [.int (A (G 0 6 + 9) a1.toNatClampNeg)]) (rest := []) ⟨hx, hb, hml, hown, hts⟩ (e_X5_boundOf l D K ad hap0 (G 0 6) (A (G 0 6 + 9) a1.toNatClampNeg) I G A L r43 hc44) (cwV 1 hts gX6_walked_X5_boundOf rfl rfl rfl (by decide +kernel) ⟨Nat.le_of_ble_eq_true rfl, Nat.le_of_ble_eq_true rfl⟩) hK hP hS (s318 hk4.1) hk4.2 (by decide) rfl rfl rfl hl.1 (Nat.le_of_ble_eq_true rfl) (Nat.le_of_ble_eq_true rfl) (Nat.le_of_ble_eq_true rfl) dX6_walked_111 (fun H locs hP hS => ?_) rfl
        have hP : va_P D vwCl (VW K ad I G A L) H := hP
        exact W.iret (v := r43) hx hb hr (fun t9 ht9 hW9 => ⟨⟨r43, (I, G, A, L), rfl, by cases h; exact ⟨rfl, rfl⟩, by rw [ht9]; exact hP, va_K.moved hW9.alike hK⟩, hS.F ht9⟩) hS.2.2 dX6_walked_114
      · have h := iN (by rw [hs10]; decide) h
        have h := iN (by rw [hs10]; decide) h
        have h := iN (by rw [hs10]; decide) h
        have h := iN (by rw [hs10]; decide) h
        have h := iN (by rw [hs10]; decide) h
        have h := iN (by rw [hs10]; decide) h
        have h := iN (by rw [hs10]; decide) h
        have h := iN (by rw [hs10]; decide) h
        have h := ip hs10 h
        refine W_top hs10 ?_
        refine lv_tableIn (off := 72) (tgt := 115) hx hb dX6_walked_43 (by decide) (by decide) (by decide) (by decide) ?_
        refine lv_aload_n hx hb dX6_walked_115 rfl (lv_at hl 1 rfl) ?_
        refine vgG hx hb hts hi6 hown hK hP (0) (by decide) (show kd 0 = 6 by decide) (C := RX6) (T := TX6) (N := 18) rfl 6 (by decide) (by decide) (by decide) (by decide) (hts (.fieldLink RX6 82 "CrateHelpers" "lastEnded" "LCrateHelpers$Tree;") (by decide +kernel)) (fun _ h9 => h9) dX6_walked_116 ?_
        refine vgS hx hb hts hi5 hown hK hP (G 0 6) (s318 hk4.1) hk4.2 (C := RX5) (T := TX5) (N := 16) rfl 5 (by decide) (by decide) (by decide) (by decide) (G 0 6 + 6) rfl (hts (.fieldLink RX6 205 "CrateHelpers$Tree" "doneBy" "[B") (by decide +kernel)) (fun _ h9 => h9) dX6_walked_119 ?_
        refine lv_iload_n hx hb dX6_walked_122 rfl (lv_at hl 0 rfl) ?_
        obtain ⟨hk45, h⟩ := gk h
        obtain ⟨hn46, h⟩ := gk h
        refine xbald hx hb hK hP (G 0 6 + 6) (s318 hk45.1) hk45.2 hn46 dX6_walked_123 ?_
        exact W.iret (v := (A (G 0 6 + 6) ((A (G 0 6 + 9) a1.toNatClampNeg).toNatClampNeg))) hx hb hr (fun t9 ht9 hW9 => ⟨⟨(A (G 0 6 + 6) ((A (G 0 6 + 9) a1.toNatClampNeg).toNatClampNeg)), (I, G, A, L), rfl, by cases h; exact ⟨rfl, rfl⟩, by rw [ht9]; exact hP, va_K.moved hW9.alike hK⟩, hS.F ht9⟩) hS.2.2 dX6_walked_124
      · have h := iN (by rw [hs10]; decide) h
        have h := iN (by rw [hs10]; decide) h
        have h := iN (by rw [hs10]; decide) h
        have h := iN (by rw [hs10]; decide) h
        have h := iN (by rw [hs10]; decide) h
        have h := iN (by rw [hs10]; decide) h
        have h := iN (by rw [hs10]; decide) h
        have h := iN (by rw [hs10]; decide) h
        have h := iN (by rw [hs10]; decide) h
        have h := ip hs10 h
        refine W_top hs10 ?_
        refine lv_tableIn (off := 82) (tgt := 125) hx hb dX6_walked_43 (by decide) (by decide) (by decide) (by decide) ?_
        refine lv_aload_n hx hb dX6_walked_125 rfl (lv_at hl 1 rfl) ?_
        refine vgG hx hb hts hi6 hown hK hP (0) (by decide) (show kd 0 = 6 by decide) (C := RX6) (T := TX6) (N := 18) rfl 6 (by decide) (by decide) (by decide) (by decide) (hts (.fieldLink RX6 82 "CrateHelpers" "lastEnded" "LCrateHelpers$Tree;") (by decide +kernel)) (fun _ h9 => h9) dX6_walked_126 ?_
        refine lv_iload_n hx hb dX6_walked_129 rfl (lv_at hl 0 rfl) ?_
        obtain ⟨r47, hc48, h⟩ := Option.bind_eq_some_iff.mp h
        refine ecV (As := [.int (A (G 0 6 + 9) a1.toNatClampNeg)]) (rest := []) ⟨hx, hb, hml, hown, hts⟩ (e_X5_openBelow l D K ad hap0 (G 0 6) (A (G 0 6 + 9) a1.toNatClampNeg) I G A L r47 hc48) (cwV 1 hts gX6_walked_X5_openBelow rfl rfl rfl (by decide +kernel) ⟨Nat.le_of_ble_eq_true rfl, Nat.le_of_ble_eq_true rfl⟩) hK hP hS (s318 hk4.1) hk4.2 (by decide) rfl rfl rfl hl.1 (Nat.le_of_ble_eq_true rfl) (Nat.le_of_ble_eq_true rfl) (Nat.le_of_ble_eq_true rfl) dX6_walked_130 (fun H locs hP hS => ?_) rfl
        have hP : va_P D vwCl (VW K ad I G A L) H := hP
        exact W.iret (v := r47) hx hb hr (fun t9 ht9 hW9 => ⟨⟨r47, (I, G, A, L), rfl, by cases h; exact ⟨rfl, rfl⟩, by rw [ht9]; exact hP, va_K.moved hW9.alike hK⟩, hS.F ht9⟩) hS.2.2 dX6_walked_133
      · have h := iN (fun q => by rw [q] at hs10; exact absurd hs10 (by decide)) h
        have h := iN (fun q => by rw [q] at hs10; exact absurd hs10 (by decide)) h
        have h := iN (fun q => by rw [q] at hs10; exact absurd hs10 (by decide)) h
        have h := iN (fun q => by rw [q] at hs10; exact absurd hs10 (by decide)) h
        have h := iN (fun q => by rw [q] at hs10; exact absurd hs10 (by decide)) h
        have h := iN (fun q => by rw [q] at hs10; exact absurd hs10 (by decide)) h
        have h := iN (fun q => by rw [q] at hs10; exact absurd hs10 (by decide)) h
        have h := iN (fun q => by rw [q] at hs10; exact absurd hs10 (by decide)) h
        have h := iN (fun q => by rw [q] at hs10; exact absurd hs10 (by decide)) h
        have h := iN (fun q => by rw [q] at hs10; exact absurd hs10 (by decide)) h
        refine lv_tableOut (tgt := 134) hx hb dX6_walked_43 hs10 (by decide) ?_
        refine lv_iload_n hx hb dX6_walked_134 rfl (lv_at hl 3 rfl) ?_
        refine lv_aload_n hx hb dX6_walked_135 rfl (lv_at hl 1 rfl) ?_
        refine vgG hx hb hts hi6 hown hK hP (0) (by decide) (show kd 0 = 6 by decide) (C := RX6) (T := TX6) (N := 18) rfl 6 (by decide) (by decide) (by decide) (by decide) (hts (.fieldLink RX6 82 "CrateHelpers" "lastEnded" "LCrateHelpers$Tree;") (by decide +kernel)) (fun _ h9 => h9) dX6_walked_136 ?_
        refine vgS hx hb hts hi5 hown hK hP (G 0 6) (s318 hk4.1) hk4.2 (C := RX5) (T := TX5) (N := 16) rfl 1 (by decide) (by decide) (by decide) (by decide) (G 0 6 + 2) rfl (hts (.fieldLink RX6 198 "CrateHelpers$Tree" "depth" "[B") (by decide +kernel)) (fun _ h9 => h9) dX6_walked_139 ?_
        refine lv_iload_n hx hb dX6_walked_142 rfl (lv_at hl 0 rfl) ?_
        obtain ⟨hk49, h⟩ := gk h
        obtain ⟨hn50, h⟩ := gk h
        refine xbald hx hb hK hP (G 0 6 + 2) (s318 hk49.1) hk49.2 hn50 dX6_walked_143 ?_
        refine lv_icmp_gt (tgt := 161) hx hb dX6_walked_144 (by decide) (fun c_51 => ?_) (fun c_51 => ?_)
        · have h := ip c_51 h
          refine lv_bipush (v := (-9)) hx hb dX6_walked_161 (by decide) ?_
          exact W.iret (v := (-9)) hx hb hr (fun t9 ht9 hW9 => ⟨⟨(-9), (I, G, A, L), rfl, by cases h; exact ⟨rfl, rfl⟩, by rw [ht9]; exact hP, va_K.moved hW9.alike hK⟩, hS.F ht9⟩) hS.2.2 dX6_walked_163
        · have h := iN c_51 h
          refine lv_aload_n hx hb dX6_walked_147 rfl (lv_at hl 1 rfl) ?_
          refine vgG hx hb hts hi6 hown hK hP (0) (by decide) (show kd 0 = 6 by decide) (C := RX6) (T := TX6) (N := 18) rfl 6 (by decide) (by decide) (by decide) (by decide) (hts (.fieldLink RX6 82 "CrateHelpers" "lastEnded" "LCrateHelpers$Tree;") (by decide +kernel)) (fun _ h9 => h9) dX6_walked_148 ?_
          refine lv_iload_n hx hb dX6_walked_151 rfl (lv_at hl 0 rfl) ?_
          refine lv_iload_n hx hb dX6_walked_152 rfl (lv_at hl 3 rfl) ?_
          refine lv_iconst (v := 1) hx hb dX6_walked_153 (by decide) ?_
          refine lv_isub hx hb dX6_walked_154 ?_
          obtain ⟨r52, hc53, h⟩ := Option.bind_eq_some_iff.mp h
          refine ecV (As := [.int (A (G 0 6 + 9) a1.toNatClampNeg), .int (a2 - 1)]) (rest := []) ⟨hx, hb, hml, hown, hts⟩ (e_X5_valueOf l D K ad hap0 (G 0 6) (A (G 0 6 + 9) a1.toNatClampNeg) (a2 - 1) I G A L r52 hc53) (cwV 2 hts gX6_walked_X5_valueOf rfl rfl rfl (by decide +kernel) ⟨Nat.le_of_ble_eq_true rfl, Nat.le_of_ble_eq_true rfl⟩) hK hP hS (s318 hk4.1) hk4.2 (by decide) rfl rfl rfl hl.1 (Nat.le_of_ble_eq_true rfl) (Nat.le_of_ble_eq_true rfl) (Nat.le_of_ble_eq_true rfl) dX6_walked_155 (fun H locs hP hS => ?_) rfl
          have hP : va_P D vwCl (VW K ad I G A L) H := hP
          refine lv_goto (tgt := 163) hx hb dX6_walked_158 (by decide) ?_
          exact W.iret (v := r52) hx hb hr (fun t9 ht9 hW9 => ⟨⟨r52, (I, G, A, L), rfl, by cases h; exact ⟨rfl, rfl⟩, by rw [ht9]; exact hP, va_K.moved hW9.alike hK⟩, hS.F ht9⟩) hS.2.2 dX6_walked_163
    · have h := ip c_7 h
      refine lv_bipush (v := (-9)) hx hb dX6_walked_29 (by decide) ?_
      exact W.iret (v := (-9)) hx hb hr (fun t9 ht9 hW9 => ⟨⟨(-9), (I, G, A, L), rfl, by cases h; exact ⟨rfl, rfl⟩, by rw [ht9]; exact hP, va_K.moved hW9.alike hK⟩, hS.F ht9⟩) hS.2.2 dX6_walked_31
  · have h := ip c_3 h
    refine lv_iconst (v := (-1)) hx hb dX6_walked_10 (by decide) ?_
    exact W.iret (v := (-1)) hx hb hr (fun t9 ht9 hW9 => ⟨⟨(-1), (I, G, A, L), rfl, by cases h; exact ⟨rfl, rfl⟩, by rw [ht9]; exact hP, va_K.moved hW9.alike hK⟩, hS.F ht9⟩) hS.2.2 dX6_walked_11
set_option maxHeartbeats 4000000 in
set_option maxRecDepth 100000 in
theorem e_X6_with (l : Launch) (D : va_G) (K : Nat → ClassId) (ad : Nat → Nat) (hap0 : apart ad (fun _ => True)) (a1 : Int32) (I : Nat → Nat → Int32) (G : Nat → Nat → Nat) (A : Nat → Nat → Int32) (L : Nat → Nat → Int64) (r0 : Int32) (I0 : Nat → Nat → Int32) (A0 : Nat → Nat → Int32) (h : f_X6_with I A a1 = some (r0, I0, A0)) : Ci l D K ad yX6_with wsX6_with 2 49 [.ref (ad 0), .int a1] (I, G, A, L) (fun (r : Int32) (u : Mem) => r = r0 ∧ u = (I0, G, A0, L)) := by
  intro sz
  refine Met.ofW (cc := cX6_with) (maxL := 2) (ret := (some .int)) (by decide) rfl ?_
  intro p e s m args below meth c s₁ Bd hml hv0
  obtain ⟨rfl, hsz, hP, hK⟩ := hv0
  have hx := Bd.exec
  have hb := Bd.bytes
  have hr := Bd.returns
  have hts := atoms_spec (ws := wsX6_with) Bd.pre
  have hown : s.vm.findClass RX6 = some m.cls := findClass_of_methodNamed Bd.named
  have hlocks := Bd.notSynchronized
  have hi6 : ∀ w ∈ u_ws RX6 TX6 18, w ∈ wsX6_with := fun w h => List.mem_cons_of_mem _ (List.mem_append_left _ (List.mem_append_right _ h))
  have hi1 : ∀ w ∈ u_ws RX1 TX1 9, w ∈ wsX6_with := fun w h => List.mem_cons_of_mem _ (List.mem_append_right _ h)
  subst hsz
  have hap := vF_ap hap0 s.heap.size
  have hS : va_S (vF ad s.heap.size) s.heap s.heap [] := va_S.rf
  have hP : va_P D vwCl (VW K ad I G A L) s.heap := hP
  have hl := lv_entry ([.ref (ad 0), .int a1]) (n := 2) (Nat.le_of_ble_eq_true rfl)
  rw [lg_entry_eq]
  generalize (lg_sl ([.ref (ad 0), .int a1]) ++ List.replicate (2 - (lg_sl ([.ref (ad 0), .int a1])).length) Slot.unset).toArray = ls at hl ⊢
  have hl : lv_has ls 2 [(0, .ref (ad 0)), (1, .int a1)] := hl
  rw [f_X6_with] at h
  refine lv_aload_n hx hb dX6_with_0 rfl (lv_at hl 0 rfl) ?_
  refine vgI hx hb hts hi6 hown hK hP (0) (by decide) (show kd 0 = 6 by decide) (C := RX6) (T := TX6) (N := 18) rfl 7 (by decide) (by decide) (by decide) (by decide) (hts (.fieldLink RX6 32 "CrateHelpers" "asked" "I") (by decide +kernel)) (fun _ h9 => h9) dX6_with_1 ?_
  refine lv_bipush (v := (-9)) hx hb dX6_with_4 (by decide) ?_
  refine lv_icmp_eq (tgt := 29) hx hb dX6_with_6 (by decide) (fun c_1 => ?_) (fun c_1 => ?_)
  · have h := ip c_1 h
    refine lv_iconst (v := (-1)) hx hb dX6_with_29 (by decide) ?_
    exact W.iret (v := (-1)) hx hb hr (fun t9 ht9 hW9 => ⟨⟨(-1), (I, G, A, L), rfl, by cases h; exact ⟨rfl, rfl⟩, by rw [ht9]; exact hP, va_K.moved hW9.alike hK⟩, hS.F ht9⟩) hS.2.2 dX6_with_30
  · have h := iN c_1 h
    refine lv_aload_n hx hb dX6_with_9 rfl (lv_at hl 0 rfl) ?_
    refine vgC hx hb hts hi6 hown hK hP (0) (by decide) (show kd 0 = 6 by decide) (C := RX6) (T := TX6) (N := 18) rfl 0 (by decide) (by decide) (by decide) (by decide) (1) rfl (hts (.fieldLink RX6 11 "CrateHelpers" "problems" "[LCrateHelpers$Problem;") (by decide +kernel)) (fun _ h9 => h9) dX6_with_10 ?_
    refine lv_aload_n hx hb dX6_with_13 rfl (lv_at hl 0 rfl) ?_
    refine vgI hx hb hts hi6 hown hK hP (0) (by decide) (show kd 0 = 6 by decide) (C := RX6) (T := TX6) (N := 18) rfl 7 (by decide) (by decide) (by decide) (by decide) (hts (.fieldLink RX6 32 "CrateHelpers" "asked" "I") (by decide +kernel)) (fun _ h9 => h9) dX6_with_14 ?_
    obtain ⟨hn2, h⟩ := gk h
    refine xaald hx hb hK hP (1) (by decide) 5 13 (show kd 1 = 13 by decide) (by decide) rfl (by rw [show ln 1 = 5 by decide]; exact hn2) (58 + 52 * ((I 0 7).toNatClampNeg)) (drf13 ((show kd 1 = 13 by decide))) dX6_with_17 ?_
    refine lv_aload_n hx hb dX6_with_18 rfl (lv_at hl 0 rfl) ?_
    refine vgI hx hb hts hi6 hown hK hP (0) (by decide) (show kd 0 = 6 by decide) (C := RX6) (T := TX6) (N := 18) rfl 9 (by decide) (by decide) (by decide) (by decide) (hts (.fieldLink RX6 38 "CrateHelpers" "askedDepth" "I") (by decide +kernel)) (fun _ h9 => h9) dX6_with_19 ?_
    refine lv_iload_n hx hb dX6_with_22 rfl (lv_at hl 1 rfl) ?_
    obtain ⟨hk3, h⟩ := gk h
    obtain ⟨r4, hc5, h⟩ := Option.bind_eq_some_iff.mp h
    refine ecV (As := [.int (I 0 9), .int a1]) (rest := []) ⟨hx, hb, hml, hown, hts⟩ (e_X1_hasValue l D K ad hap0 (58 + 52 * ((I 0 7).toNatClampNeg)) (I 0 9) a1 I G A L r4 hc5) (cwV 2 hts gX6_with_X1_hasValue rfl rfl rfl (by decide +kernel) ⟨Nat.le_of_ble_eq_true rfl, Nat.le_of_ble_eq_true rfl⟩) hK hP hS (s318 hk3.1) hk3.2 (by decide) rfl rfl rfl hl.1 (Nat.le_of_ble_eq_true rfl) (Nat.le_of_ble_eq_true rfl) (Nat.le_of_ble_eq_true rfl) dX6_with_23 (fun H locs hP hS => ?_) rfl
    have hP : va_P D vwCl (VW K ad I G A L) H := hP
    refine lv_if_ne (tgt := 31) hx hb dX6_with_26 (by decide) (fun c_6 => ?_) (fun c_6 => ?_)
    · have h := iN c_6 h
      refine lv_aload_n hx hb dX6_with_31 rfl (lv_at hl 0 rfl) ?_
      refine vgC hx hb hts hi6 hown hK hP (0) (by decide) (show kd 0 = 6 by decide) (C := RX6) (T := TX6) (N := 18) rfl 10 (by decide) (by decide) (by decide) (by decide) (18) rfl (hts (.fieldLink RX6 41 "CrateHelpers" "askedValues" "[I") (by decide +kernel)) (fun _ h9 => h9) dX6_with_32 ?_
      refine lv_aload_n hx hb dX6_with_35 rfl (lv_at hl 0 rfl) ?_
      refine vgI hx hb hts hi6 hown hK hP (0) (by decide) (show kd 0 = 6 by decide) (C := RX6) (T := TX6) (N := 18) rfl 9 (by decide) (by decide) (by decide) (by decide) (hts (.fieldLink RX6 38 "CrateHelpers" "askedDepth" "I") (by decide +kernel)) (fun _ h9 => h9) dX6_with_36 ?_
      refine lv_iload_n hx hb dX6_with_39 rfl (lv_at hl 1 rfl) ?_
      obtain ⟨hn7, h⟩ := gk h
      refine xiast hx hb hK hP hap hS (18) (by decide) (show kd 18 = 8 by decide) (by rw [show ln 18 = 6 by decide]; exact hn7) dX6_with_40 (fun H locs hP hS => ?_)
      obtain ⟨A8, eA8, h⟩ := bd_e h
      rw [← eA8] at hP
      have hP : va_P D vwCl (VW K ad I G A8 L) H := hP
      refine lv_aload_n hx hb dX6_with_41 rfl (lv_at hl 0 rfl) ?_
      refine lv_dup hx hb dX6_with_42 rfl ?_
      refine vgI hx hb hts hi6 hown hK hP (0) (by decide) (show kd 0 = 6 by decide) (C := RX6) (T := TX6) (N := 18) rfl 9 (by decide) (by decide) (by decide) (by decide) (hts (.fieldLink RX6 38 "CrateHelpers" "askedDepth" "I") (by decide +kernel)) (fun _ h9 => h9) dX6_with_43 ?_
      refine lv_iconst (v := 1) hx hb dX6_with_46 (by decide) ?_
      refine lv_iadd hx hb dX6_with_47 ?_
      refine vpI (v := ((I 0 9) + 1)) (ty := .int) hx hb hts hi6 tyX6 tyX6_ok nmX6 hown hK hP hap hS (0) (by decide) (show kd 0 = 6 by decide) (C := RX6) (T := TX6) (N := 18) rfl 9 (by decide) (by decide) (by decide) (by decide) (hts (.fieldLink RX6 38 "CrateHelpers" "askedDepth" "I") (by decide +kernel)) (fun _ h9 => h9) rfl (by decide +kernel) rfl rfl dX6_with_48 (fun H locs hP hS => ?_)
      obtain ⟨I9, eI9, h⟩ := bd_e h
      rw [← eI9] at hP
      have hP : va_P D vwCl (VW K ad I9 G A8 L) H := hP
      refine lv_aload_n hx hb dX6_with_51 rfl (lv_at hl 0 rfl) ?_
      refine vgI hx hb hts hi6 hown hK hP (0) (by decide) (show kd 0 = 6 by decide) (C := RX6) (T := TX6) (N := 18) rfl 9 (by decide) (by decide) (by decide) (by decide) (hts (.fieldLink RX6 38 "CrateHelpers" "askedDepth" "I") (by decide +kernel)) (fun _ h9 => h9) dX6_with_52 ?_
      exact W.iret (v := (I9 0 9)) hx hb hr (fun t9 ht9 hW9 => ⟨⟨(I9 0 9), (I9, G, A8, L), rfl, by cases h; exact ⟨rfl, rfl⟩, by rw [ht9]; exact hP, va_K.moved hW9.alike hK⟩, hS.F ht9⟩) hS.2.2 dX6_with_55
    · have h := ip c_6 h
      refine lv_iconst (v := (-1)) hx hb dX6_with_29 (by decide) ?_
      exact W.iret (v := (-1)) hx hb hr (fun t9 ht9 hW9 => ⟨⟨(-1), (I, G, A, L), rfl, by cases h; exact ⟨rfl, rfl⟩, by rw [ht9]; exact hP, va_K.moved hW9.alike hK⟩, hS.F ht9⟩) hS.2.2 dX6_with_30

/-! part 60.num -/
/-! THE TIE: numbers -/
theorem tI_mul (a b : Nat) : nI a * nI b = nI (a * b) := (Int32.ofNat_mul a b).symm
theorem m6 (a b : Nat) : 6 * nI a + nI b = nI (6 * a + b) := by rw [show (6 : Int32) = nI 6 from rfl, tI_mul, nI_add]
theorem m8 (a b : Nat) : 8 * nI a + nI b = nI (8 * a + b) := by rw [show (8 : Int32) = nI 8 from rfl, tI_mul, nI_add]
theorem m36 (a b c : Nat) : 36 * nI a + 6 * nI b + nI c = nI (36 * a + 6 * b + c) := by rw [show (36 : Int32) = nI 36 from rfl, show (6 : Int32) = nI 6 from rfl, tI_mul, tI_mul, nI_add, nI_add]
theorem nI_s1 {a : Nat} (h : 0 < a) : nI a - 1 = nI (a - 1) := by have q := nI_pred (a - 1); rwa [Nat.sub_add_cancel h] at q
theorem t_in {k n : Nat} (h : k < n) (hn : n < 2147483648) : inr (nI k) n := nI_in h (by omega)
theorem gd_in {β : Type} {k n : Nat} {a : Option β} {d : Decidable (inr (nI k) n)} (h : k < n) (hn : n < 2147483648) : @gd β (inr (nI k) n) d a = a := gd_t (t_in h hn)
theorem t_cl {n : Nat} (h : n < 2147483648) : (nI n).toNatClampNeg = n := nI_clamp (by omega)
theorem t_lt {a b : Nat} (ha : a < 2147483648) (hb : b < 2147483648) : nI a < nI b ↔ a < b := nI_ltI (by omega) (by omega)
theorem t_eq {a b : Nat} (ha : a < 2147483648) (hb : b < 2147483648) : nI a = nI b ↔ a = b := nI_eq (by omega) (by omega)
theorem t_m9 {n : Nat} (h : n < 2147483648) : ¬ nI n = -9 := fun q => by
  have e := congrArg Int32.toInt q
  rw [nI_toInt (by omega), show (-9 : Int32).toInt = -9 by decide] at e
  omega
theorem t_m1 {n : Nat} (h : n < 2147483648) : ¬ nI n = -1 := fun q => by
  have e := congrArg Int32.toInt q
  rw [nI_toInt (by omega), show (-1 : Int32).toInt = -1 by decide] at e
  omega
theorem t_fu (k : Nat) (h : k < 2000000) : k < FU := Nat.lt_of_lt_of_le h FU_le
theorem z0 : (0 : Int32) = nI 0 := rfl
theorem z01 : ¬ (0 : Int32) = 1 := by decide
theorem z10 : ¬ (1 : Int32) = 0 := by decide
theorem t_in6 {x : Int32} {n : Nat} (h : vp_in x n) (hn : n < 2147483648) : ∃ m, m < n ∧ x = nI m := vp_in_of h (by omega)
/-- sums -/
theorem sm_c {f g : Nat → Int32} : ∀ (k i : Nat) (a : Int32), (∀ j, i ≤ j → j < i + k → f j = g j) → sm f k i a = sm g k i a
  | 0, _, _, _ => rfl
  | k + 1, i, a, h => by
    unfold sm
    rw [h i (Nat.le_refl i) (by omega)]
    exact sm_c k (i + 1) _ (fun j h1 h2 => h j (by omega) (by omega))
theorem sm_a (f : Nat → Int32) : ∀ (k i : Nat) (a b : Int32), sm f k i (a + b) = a + sm f k i b
  | 0, _, _, _ => rfl
  | k + 1, i, a, b => by
    unfold sm
    rw [Int32.add_assoc]
    exact sm_a f k (i + 1) a _
theorem sm_2 (f g : Nat → Int32) : ∀ (k i : Nat) (a b : Int32), sm f k i a + sm g k i b = sm (fun j => f j + g j) k i (a + b)
  | 0, _, _, _ => rfl
  | k + 1, i, a, b => by
    unfold sm
    rw [sm_2 f g k (i + 1)]
    congr 1
    rw [Int32.add_assoc, Int32.add_assoc, ← Int32.add_assoc (f i) b, Int32.add_comm (f i) b, Int32.add_assoc]
/-- searches -/
theorem ex1_i (p : Nat → Bool) : ∀ k i, ex1 p k i = 1 ↔ ∃ j, i ≤ j ∧ j < i + k ∧ p j = true
  | 0, i => by
    unfold ex1
    constructor
    · intro h; exact absurd h (by decide)
    · rintro ⟨j, h1, h2, _⟩; omega
  | k + 1, i => by
    unfold ex1
    by_cases h : p i = true
    · rw [if_pos h]; exact ⟨fun _ => ⟨i, by omega, by omega, h⟩, fun _ => rfl⟩
    · rw [if_neg h, ex1_i p k (i + 1)]
      constructor
      · rintro ⟨j, h1, h2, h3⟩; exact ⟨j, by omega, by omega, h3⟩
      · rintro ⟨j, h1, h2, h3⟩
        rcases Nat.lt_or_ge i j with q | q
        · exact ⟨j, by omega, by omega, h3⟩
        · rw [show j = i by omega] at h3; exact absurd h3 h
theorem ex1_if {β : Type} {p : Nat → Bool} {k i : Nat} {a b : β} : (if ex1 p (k + 1) i = 1 then a else b) = if p i = true then a else (if ex1 p k (i + 1) = 1 then a else b) := by
  rw [ex1]
  by_cases h : p i = true
  · rw [if_pos h, if_pos h, if_pos rfl]
  · rw [if_neg h, if_neg h]
theorem ex1_e {p q : Nat → Bool} {k i k' i' : Nat} (h : (∃ j, i ≤ j ∧ j < i + k ∧ p j = true) ↔ ∃ j, i' ≤ j ∧ j < i' + k' ∧ q j = true) : ex1 p k i = ex1 q k' i' := by
  rcases ex1_01 p k i with h1 | h1 <;> rcases ex1_01 q k' i' with h2 | h2
  · rw [h1, h2]
  · have := (ex1_i p k i).mpr (h.mpr ((ex1_i q k' i').mp h2)); rw [h1] at this; exact absurd this (by decide)
  · have := (ex1_i q k' i').mpr (h.mp ((ex1_i p k i).mp h1)); rw [h2] at this; exact absurd this (by decide)
  · rw [h1, h2]
theorem fst1_c {p q : Nat → Bool} : ∀ (k i : Nat), (∀ j, i ≤ j → j < i + k → p j = q j) → fst1 p k i = fst1 q k i
  | 0, _, _ => rfl
  | k + 1, i, h => by
    unfold fst1
    rw [h i (Nat.le_refl i) (by omega), fst1_c k (i + 1) (fun j h1 h2 => h j (by omega) (by omega))]
theorem fst1_n {p : Nat → Bool} : ∀ (k i : Nat), i + k < 2147483648 → (fst1 p k i = -9 ↔ ∀ j, i ≤ j → j < i + k → p j = false)
  | 0, i, _ => by unfold fst1; exact ⟨fun _ j h1 h2 => by omega, fun _ => rfl⟩
  | k + 1, i, hk => by
    unfold fst1
    by_cases h : p i = true
    · rw [if_pos h]
      exact ⟨fun q => absurd q (t_m9 (by omega)), fun q => by rw [q i (by omega) (by omega)] at h; cases h⟩
    · rw [if_neg h, fst1_n k (i + 1) (by omega)]
      constructor
      · intro q j h1 h2
        rcases Nat.lt_or_ge i j with r | r
        · exact q j (by omega) (by omega)
        · rw [show j = i by omega]; simpa using h
      · intro q j h1 h2; exact q j (by omega) (by omega)
theorem fst1_o {p : Nat → Bool} : ∀ (k i : Nat), fst1 p k i = -9 ∨ ∃ j, i ≤ j ∧ j < i + k ∧ fst1 p k i = nI j ∧ p j = true
  | 0, _ => Or.inl rfl
  | k + 1, i => by
    unfold fst1
    by_cases h : p i = true
    · rw [if_pos h]; exact Or.inr ⟨i, by omega, by omega, rfl, h⟩
    · rw [if_neg h]
      rcases fst1_o (p := p) k (i + 1) with q | ⟨j, h1, h2, h3, h4⟩
      · exact Or.inl q
      · exact Or.inr ⟨j, by omega, by omega, h3, h4⟩
theorem fst1_if {β : Type} {p : Nat → Bool} {k i : Nat} {a : β} {f : Int32 → β} (hi : i < 2147483648) : (if fst1 p (k + 1) i = -9 then a else f (fst1 p (k + 1) i)) = if p i = true then f (nI i) else (if fst1 p k (i + 1) = -9 then a else f (fst1 p k (i + 1))) := by
  rw [fst1]
  by_cases h : p i = true
  · simp only [if_pos h, t_m9 hi, if_false]
  · simp only [if_neg h]

/-! part 61.rule -/
/-! THE TIE: a rule. q: its number among all 40, Q: its slot in the class -/
def TRu (I A R : Nat → Nat → Int32) (q Q : Nat) : Prop := R 324 q = I Q 0 ∧ R 325 q = I Q 1 ∧ R 326 q = I Q 2 ∧ ∀ k, k < 6 → R 327 (6 * q + k) = A (Q + 1) k ∧ R 328 (6 * q + k) = A (Q + 2) k
/-- weights from -50 to 50 -/
def TWe (A : Nat → Nat → Int32) (Q n : Nat) : Prop := ∀ k, k < n → -50 ≤ (A (Q + 2) k).toInt ∧ (A (Q + 2) k).toInt ≤ 50
/-- the row at v is the reference's row -/
def TRo (A R : Nat → Nat → Int32) (v : Nat) : Prop := ∀ i, i < 6 → (A v i = -1 ∧ R 364 i = -9) ∨ ∃ m, m < 6 ∧ A v i = nI m ∧ R 364 i = nI m
/-- the reference's value of the i-th part -/
def rv (R : Nat → Nat → Int32) (q i : Nat) : Int32 := R 364 (R 327 (6 * q + i)).toNatClampNeg
/-- parts in order -/
def TPa (R : Nat → Nat → Int32) (q n : Nat) : Prop := q < 40 ∧ n ≤ 6 ∧ R 326 q = nI n ∧ ∀ i, i < n → ∃ m, m < 6 ∧ R 327 (6 * q + i) = nI m
theorem TPa_of {I A R : Nat → Nat → Int32} {q Q n : Nat} (hq : q < 40) (h : TRu I A R q Q) (hw : RuW I A Q n) : TPa R q n :=
  ⟨hq, hw.1, h.2.2.1.trans hw.2.1, fun i hi => by rw [(h.2.2.2 i (by have := hw.1; omega)).1]; exact t_in6 (hw.2.2 i hi) (by omega)⟩
/-- a part's value on both sides -/
theorem tr_pv {I A R : Nat → Nat → Int32} {q Q n v i : Nat} (h : TRu I A R q Q) (hw : RuW I A Q n) (hv : TRo A R v) (hi : i < n) : (pv A Q v i = -1 ∧ rv R q i = -9) ∨ ∃ m, m < 6 ∧ pv A Q v i = nI m ∧ rv R q i = nI m := by
  unfold pv rv
  rw [(h.2.2.2 i (by have := hw.1; omega)).1]
  obtain ⟨m, hm, em⟩ := t_in6 (hw.2.2 i hi) (by omega)
  rw [em, t_cl (by omega)]
  exact hv m hm
def rt (R : Nat → Nat → Int32) (p q : Nat) (b : Int32) (i : Nat) : Int32 := if rv R q i = -9 then (if R 328 (6 * q + i) < 0 then (if 1 = b then R 328 (6 * q + i) * (R 321 (6 * p + (R 327 (6 * q + i)).toNatClampNeg) - 1) else 0) else (if 0 = b then R 328 (6 * q + i) * (R 321 (6 * p + (R 327 (6 * q + i)).toNatClampNeg) - 1) else 0)) else R 328 (6 * q + i) * rv R q i
theorem r_sumOf_L {R : Nat → Nat → Int32} {p q n : Nat} {b : Int32} {k4 : Int32 → Option Int32} (hp : p < 5) (h : TPa R q n) : ∀ (k i fu : Nat) (a : Int32), i + k = n → k < fu → f_X7_sumOf_L6 (nI p) (nI q) b R k4 fu (nI i) a = k4 (sm (rt R p q b) k i a) := by
  obtain ⟨hq, hn, en, hp6⟩ := h
  intro k
  induction k with
  | zero =>
    intro i fu a hi hf
    obtain ⟨fu, rfl⟩ : ∃ z, fu = z + 1 := ⟨fu - 1, by omega⟩
    have hlt : ¬ i < n := by omega
    simp (disch := omega) only [f_X7_sumOf_L6, gd_in, t_cl, en, t_lt, hlt, if_false, sm]
  | succ k ih =>
    intro i fu a hi hf
    obtain ⟨fu, rfl⟩ : ∃ z, fu = z + 1 := ⟨fu - 1, by omega⟩
    have hlt : i < n := by omega
    obtain ⟨m, hm, em⟩ := hp6 i hlt
    have ih' : ∀ a, f_X7_sumOf_L6 (nI p) (nI q) b R k4 fu (nI (i + 1)) a = k4 (sm (rt R p q b) k (i + 1) a) := fun a => ih (i + 1) fu a (by omega) (by omega)
    have er : rv R q i = R 364 m := by unfold rv; rw [em, t_cl (by omega)]
    simp (disch := omega) only [f_X7_sumOf_L6, gd_in, t_cl, en, t_lt, hlt, if_true, m6, em, nI_1, ih', sm, rt, er]
    repeat' split
    all_goals first | rfl | contradiction | (exfalso; simp_all; done)
theorem r_sumOf {R : Nat → Nat → Int32} {p q n : Nat} {b : Int32} (hp : p < 5) (h : TPa R q n) : f_X7_sumOf R (nI p) (nI q) b = some (sm (rt R p q b) n 0 0) := by
  simp only [f_X7_sumOf, bd]
  exact r_sumOf_L hp h n 0 FU 0 (by omega) (t_fu n (by have := h.2.1; omega))
theorem t_mul {w : Int32} {m : Nat} (h1 : -50 ≤ w.toInt) (h2 : w.toInt ≤ 50) (hm : m ≤ 5) : (w * nI m).toInt = w.toInt * m := by
  rw [Int32.toInt_mul, nI_toInt (by omega)]
  obtain rfl | rfl | rfl | rfl | rfl | rfl : m = 0 ∨ m = 1 ∨ m = 2 ∨ m = 3 ∨ m = 4 ∨ m = 5 := by omega
  all_goals (apply Int.bmod_eq_of_le <;> omega)
theorem t_neg {w : Int32} {m : Nat} (h1 : -50 ≤ w.toInt) (h2 : w.toInt ≤ 50) (hm : m ≤ 5) : w * nI m < 0 ↔ w < 0 ∧ 0 < m := by
  rw [Int32.lt_iff_toInt_lt, Int32.lt_iff_toInt_lt, t_mul h1 h2 hm, show (0 : Int32).toInt = 0 by decide]
  obtain rfl | rfl | rfl | rfl | rfl | rfl : m = 0 ∨ m = 1 ∨ m = 2 ∨ m = 3 ∨ m = 4 ∨ m = 5 := by omega
  all_goals omega
theorem t_pos {w : Int32} {m : Nat} (h1 : -50 ≤ w.toInt) (h2 : w.toInt ≤ 50) (hm : m ≤ 5) : 0 < w * nI m ↔ 0 < w ∧ 0 < m := by
  rw [Int32.lt_iff_toInt_lt, Int32.lt_iff_toInt_lt, t_mul h1 h2 hm, show (0 : Int32).toInt = 0 by decide]
  obtain rfl | rfl | rfl | rfl | rfl | rfl : m = 0 ∨ m = 1 ∨ m = 2 ∨ m = 3 ∨ m = 4 ∨ m = 5 := by omega
  all_goals omega
theorem t_mul0 (w : Int32) : w * nI 0 = 0 := Int32.mul_zero
/-- the sizes of a rule's parts -/
def TSz (A : Nat → Nat → Int32) (Q z n : Nat) : Prop := ∀ i, i < n → ∃ s, 1 ≤ s ∧ s ≤ 6 ∧ A z (A (Q + 1) i).toNatClampNeg = nI s
/-- sizes on both sides -/
def TSs (A R : Nat → Nat → Int32) (p z : Nat) : Prop := ∀ m, m < 6 → R 321 (6 * p + m) = A z m
section RU
variable {I A R : Nat → Nat → Int32} {p q Q n v z : Nat}
theorem rt_1 (h : TRu I A R q Q) (hw : RuW I A Q n) (hv : TRo A R v) (he : TWe A Q n) (hs : TSz A Q z n) (hz : TSs A R p z) {i : Nat} (hi : i < n) : rt R p q 1 i = tl A Q v z i := by
  have hn := hw.1
  obtain ⟨m, hm, em⟩ := t_in6 (hw.2.2 i hi) (by omega)
  obtain ⟨s, s1, s6, es⟩ := hs i hi
  unfold rt tl
  rw [(h.2.2.2 i (by omega)).1, (h.2.2.2 i (by omega)).2]
  rw [em, t_cl (by omega)] at es ⊢
  rw [hz m hm, es, nI_s1 (by omega)]
  have hneg := t_neg (he i hi).1 (he i hi).2 (show s - 1 ≤ 5 by omega)
  rcases tr_pv h hw hv hi with ⟨e1, e2⟩ | ⟨x, hx, e1, e2⟩
  · simp only [e1, e2, if_true, z01, if_false]
    by_cases hw0 : A (Q + 2) i < 0
    · rw [if_pos hw0]
      by_cases hs0 : 0 < s - 1
      · rw [if_pos (hneg.mpr ⟨hw0, hs0⟩)]
      · rw [if_neg (fun r => hs0 (hneg.mp r).2), show s - 1 = 0 by omega, t_mul0]
    · rw [if_neg hw0, if_neg (fun r => hw0 (hneg.mp r).1)]
  · rw [e1, e2, if_neg (t_m9 (by omega)), if_neg (t_m1 (by omega))]
theorem rt_0 (h : TRu I A R q Q) (hw : RuW I A Q n) (hv : TRo A R v) (he : TWe A Q n) (hs : TSz A Q z n) (hz : TSs A R p z) {i : Nat} (hi : i < n) : rt R p q 0 i = tg A Q v z i := by
  have hn := hw.1
  obtain ⟨m, hm, em⟩ := t_in6 (hw.2.2 i hi) (by omega)
  obtain ⟨s, s1, s6, es⟩ := hs i hi
  unfold rt tg
  rw [(h.2.2.2 i (by omega)).1, (h.2.2.2 i (by omega)).2]
  rw [em, t_cl (by omega)] at es ⊢
  rw [hz m hm, es, nI_s1 (by omega)]
  have hpos := t_pos (he i hi).1 (he i hi).2 (show s - 1 ≤ 5 by omega)
  rcases tr_pv h hw hv hi with ⟨e1, e2⟩ | ⟨x, hx, e1, e2⟩
  · simp only [e1, e2, if_true, z10, if_false]
    by_cases hw0 : A (Q + 2) i < 0
    · rw [if_pos hw0, if_neg (fun r => absurd (hpos.mp r).1 (Int32.not_lt.mpr (Int32.le_of_lt hw0)))]
    · rw [if_neg hw0]
      by_cases hs0 : 0 < s - 1
      · by_cases hw1 : 0 < A (Q + 2) i
        · rw [if_pos (hpos.mpr ⟨hw1, hs0⟩)]
        · have e0 : A (Q + 2) i = 0 := Int32.le_antisymm (Int32.not_lt.mp hw1) (Int32.not_lt.mp hw0)
          rw [if_neg (fun r => hw1 (hpos.mp r).1), e0, Int32.zero_mul]
      · rw [if_neg (fun r => hs0 (hpos.mp r).2), show s - 1 = 0 by omega, t_mul0]
  · rw [e1, e2, if_neg (t_m9 (by omega)), if_neg (t_m1 (by omega))]
end RU
/-- LOADED -/
def rl (R : Nat → Nat → Int32) (q : Nat) (x : Int32) (i : Nat) : Int32 := if rv R q i = x then R 328 (6 * q + i) else if rv R q i = -9 then (if R 328 (6 * q + i) < 0 then R 328 (6 * q + i) else 0) else 0
theorem r_load_L {R : Nat → Nat → Int32} {q n : Nat} {x : Int32} {k9 : Int32 → Option Int32} (h : TPa R q n) : ∀ (k i fu : Nat) (a : Int32), i + k = n → k < fu → f_X7_isLoaded_L13 x (nI q) R k9 fu (nI i) a = k9 (sm (rl R q x) k i a) := by
  obtain ⟨hq, hn, en, hp6⟩ := h
  intro k
  induction k with
  | zero =>
    intro i fu a hi hf
    obtain ⟨fu, rfl⟩ : ∃ z, fu = z + 1 := ⟨fu - 1, by omega⟩
    have hlt : ¬ i < n := by omega
    simp (disch := omega) only [f_X7_isLoaded_L13, gd_in, t_cl, en, t_lt, hlt, if_false, sm]
  | succ k ih =>
    intro i fu a hi hf
    obtain ⟨fu, rfl⟩ : ∃ z, fu = z + 1 := ⟨fu - 1, by omega⟩
    have hlt : i < n := by omega
    obtain ⟨m, hm, em⟩ := hp6 i hlt
    have ih' : ∀ a, f_X7_isLoaded_L13 x (nI q) R k9 fu (nI (i + 1)) a = k9 (sm (rl R q x) k (i + 1) a) := fun a => ih (i + 1) fu a (by omega) (by omega)
    have er : rv R q i = R 364 m := by unfold rv; rw [em, t_cl (by omega)]
    simp (disch := omega) only [f_X7_isLoaded_L13, gd_in, t_cl, en, t_lt, hlt, if_true, m6, em, nI_1, ih', sm, rl, er]
    repeat' split
    all_goals first | rfl | contradiction | (exfalso; simp_all; done)
def plo2 (R : Nat → Nat → Int32) (q n x : Nat) : Bool := decide (R 325 q < sm (rl R q (nI x)) n 0 0)
theorem r_load_L2 {R : Nat → Nat → Int32} {q n : Nat} {k3 k4 : Unit → Option Int32} (h : TPa R q n) : ∀ (k i fu : Nat), i + k = 6 → k < fu → f_X7_isLoaded_L2 (nI q) R k3 k4 fu (nI i) = if ex1 (plo2 R q n) k i = 1 then k3 () else k4 () := by
  have hq := h.1
  have hn := h.2.1
  intro k
  induction k with
  | zero =>
    intro i fu hi hf
    obtain ⟨fu, rfl⟩ : ∃ z, fu = z + 1 := ⟨fu - 1, by omega⟩
    obtain rfl : i = 6 := by omega
    rw [f_X7_isLoaded_L2, if_neg (by decide)]
    rfl
  | succ k ih =>
    intro i fu hi hf
    obtain ⟨fu, rfl⟩ : ∃ z, fu = z + 1 := ⟨fu - 1, by omega⟩
    rw [f_X7_isLoaded_L2, if_pos (show nI i < 6 from nI_lt (b := 6) (by omega) (by omega))]
    simp only [bd]
    refine Eq.trans (r_load_L h n 0 FU 0 (by omega) (t_fu n (by omega))) ?_
    simp (disch := omega) only [gd_in, t_cl, nI_1]
    rw [ih (i + 1) fu (by omega) (by omega), ex1_if]
    by_cases hc : R 325 q < sm (rl R q (nI i)) n 0 0
    · rw [if_pos hc, if_pos (show plo2 R q n i = true from decide_eq_true hc)]
    · rw [if_neg hc, if_neg (show ¬ plo2 R q n i = true from by rw [show plo2 R q n i = false from decide_eq_false hc]; decide)]
theorem r_isLoaded {R : Nat → Nat → Int32} {q n : Nat} (h : TPa R q n) : f_X7_isLoaded R (nI q) = some (ex1 (plo2 R q n) 6 0) := by
  simp only [f_X7_isLoaded, bd]
  refine Eq.trans (r_load_L2 h 6 0 FU (by omega) (t_fu 6 (by omega))) ?_
  rcases ex1_01 (plo2 R q n) 6 0 with e | e <;> rw [e]
  · rw [if_neg z01]
  · rw [if_pos rfl]
theorem load_e {I A R : Nat → Nat → Int32} {q Q n v : Nat} (h : TRu I A R q Q) (hw : RuW I A Q n) (hv : TRo A R v) : ex1 (plo2 R q n) 6 0 = ex1 (pov I A Q v n) 6 0 := by
  have hn := hw.1
  apply ex1_e
  have e : ∀ x, x < 6 → plo2 R q n x = pov I A Q v n x := fun x hx => by
    unfold plo2 pov
    rw [h.2.1]
    congr 2
    have e1 : sm (tv A Q v (nI x)) n 0 (sm (to A Q v) n 0 0) = sm (fun j => to A Q v j + tv A Q v (nI x) j) n 0 0 := by
      have := sm_a (tv A Q v (nI x)) n 0 (sm (to A Q v) n 0 0) 0
      rw [Int32.add_zero] at this
      rw [this, sm_2]
      rfl
    rw [e1]
    apply sm_c
    intro i _ hi
    unfold rl to tv
    rw [(h.2.2.2 i (by omega)).2]
    rcases tr_pv h hw hv (i := i) (by omega) with ⟨e1, e2⟩ | ⟨m, hm, e1, e2⟩
    · simp only [e1, e2, if_true, show ¬ (-9 : Int32) = nI x from fun r => t_m9 (by omega) r.symm, show ¬ (-1 : Int32) = nI x from fun r => t_m1 (by omega) r.symm, if_false, Int32.add_zero]
    · simp only [e1, e2, t_m9 (n := m) (by omega), t_m1 (n := m) (by omega), if_false, Int32.zero_add]
  constructor
  · rintro ⟨j, h1, h2, h3⟩; exact ⟨j, h1, h2, by rw [← e j (by omega)]; exact h3⟩
  · rintro ⟨j, h1, h2, h3⟩; exact ⟨j, h1, h2, by rw [e j (by omega)]; exact h3⟩
/-- ENOUGH -/
def rwl (R : Nat → Nat → Int32) (q i : Nat) : Int32 := if rv R q i = -9 then 1 else if rv R q i = R 328 (6 * q + i) then 1 else 0
theorem r_will_L {R : Nat → Nat → Int32} {q n : Nat} {c : Int32} {k9 : Int32 → Int32 → Option Int32} (h : TPa R q n) : ∀ (k i fu : Nat) (a : Int32), i + k = n → k < fu → f_X7_isBroken_L162 R k9 fu (nI i) a c (nI q) = k9 c (sm (rwl R q) k i a) := by
  obtain ⟨hq, hn, en, hp6⟩ := h
  intro k
  induction k with
  | zero =>
    intro i fu a hi hf
    obtain ⟨fu, rfl⟩ : ∃ z, fu = z + 1 := ⟨fu - 1, by omega⟩
    have hlt : ¬ i < n := by omega
    simp (disch := omega) only [f_X7_isBroken_L162, gd_in, t_cl, en, t_lt, hlt, if_false, sm]
  | succ k ih =>
    intro i fu a hi hf
    obtain ⟨fu, rfl⟩ : ∃ z, fu = z + 1 := ⟨fu - 1, by omega⟩
    have hlt : i < n := by omega
    obtain ⟨m, hm, em⟩ := hp6 i hlt
    have ih' : ∀ a, f_X7_isBroken_L162 R k9 fu (nI (i + 1)) a c (nI q) = k9 c (sm (rwl R q) k (i + 1) a) := fun a => ih (i + 1) fu a (by omega) (by omega)
    have er : rv R q i = R 364 m := by unfold rv; rw [em, t_cl (by omega)]
    simp (disch := omega) only [f_X7_isBroken_L162, gd_in, t_cl, en, t_lt, hlt, if_true, m6, em, nI_1, ih', sm, rwl, er]
    repeat' split
    all_goals first | rfl | contradiction | (exfalso; simp_all; done)
/-- RISING -/
def pfa (R : Nat → Nat → Int32) (q i : Nat) : Bool := decide (rv R q (i - 1) ≠ -9 ∧ rv R q i ≠ -9 ∧ rv R q i < rv R q (i - 1) + R 325 q)
theorem r_fall_L {R : Nat → Nat → Int32} {q n : Nat} {k3 k4 : Unit → Option Int32} (h : TPa R q n) : ∀ (k i fu : Nat), 1 ≤ i → (i + k = n ∨ (k = 0 ∧ n ≤ i ∧ i ≤ 1)) → k < fu → f_X7_isFalling_L2 (nI q) R k3 k4 fu (nI i) = if ex1 (pfa R q) k i = 1 then k3 () else k4 () := by
  obtain ⟨hq, hn, en, hp6⟩ := h
  intro k
  induction k with
  | zero =>
    intro i fu h1 hi hf
    obtain ⟨fu, rfl⟩ : ∃ z, fu = z + 1 := ⟨fu - 1, by omega⟩
    have hlt : ¬ i < n := by omega
    simp (disch := omega) only [f_X7_isFalling_L2, gd_in, t_cl, en, t_lt, hlt, if_false, ex1]
    rfl
  | succ k ih =>
    intro i fu h1 hi hf
    obtain ⟨fu, rfl⟩ : ∃ z, fu = z + 1 := ⟨fu - 1, by omega⟩
    have hlt : i < n := by omega
    obtain ⟨m, hm, em⟩ := hp6 i hlt
    obtain ⟨m', hm', em'⟩ := hp6 (i - 1) (by omega)
    have ih' := ih (i + 1) fu (by omega) (by omega) (by omega)
    have er : rv R q i = R 364 m := by unfold rv; rw [em, t_cl (by omega)]
    have er' : rv R q (i - 1) = R 364 m' := by unfold rv; rw [em', t_cl (by omega)]
    have ei : 6 * q + i - 1 = 6 * q + (i - 1) := by omega
    simp (disch := omega) only [f_X7_isFalling_L2, gd_in, t_cl, en, t_lt, hlt, if_true, m6, nI_s1, ei, em, em', nI_1, ih', ex1, pfa, er, er']
    by_cases h1 : R 364 m' = -9 <;> by_cases h2 : R 364 m = -9 <;> by_cases h3 : R 364 m < R 364 m' + R 325 q <;> simp [h1, h2, h3]
theorem r_isFalling {R : Nat → Nat → Int32} {q n : Nat} (h : TPa R q n) : f_X7_isFalling R (nI q) = some (ex1 (pfa R q) (n - 1) 1) := by
  simp only [f_X7_isFalling, bd]
  have hn := h.2.1
  refine Eq.trans (r_fall_L h (n - 1) 1 FU (by omega) (by omega) (t_fu _ (by omega))) ?_
  rcases ex1_01 (pfa R q) (n - 1) 1 with e | e <;> rw [e]
  · rw [if_neg z01]
  · rw [if_pos rfl]
theorem fall_e {I A R : Nat → Nat → Int32} {q Q n v : Nat} (h : TRu I A R q Q) (hw : RuW I A Q n) (hv : TRo A R v) : ex1 (pfa R q) (n - 1) 1 = ex1 (pst I A Q v) (n - 1) 0 := by
  have hn := hw.1
  apply ex1_e
  have e : ∀ x, x + 1 < n → pfa R q (x + 1) = pst I A Q v x := fun x hx => by
    unfold pfa pst
    rw [h.2.1, Nat.add_sub_cancel]
    congr 1
    rcases tr_pv h hw hv (i := x) (by omega) with ⟨e1, e2⟩ | ⟨m, hm, e1, e2⟩ <;> rcases tr_pv h hw hv (i := x + 1) (by omega) with ⟨e3, e4⟩ | ⟨m', hm', e3, e4⟩ <;> rw [e1, e2, e3, e4]
    · simp
    · simp
    · simp
    · simp [t_m9 (n := m) (by omega), t_m9 (n := m') (by omega), t_m1 (n := m) (by omega), t_m1 (n := m') (by omega)]
  constructor
  · rintro ⟨j, h1, h2, h3⟩; exact ⟨j - 1, by omega, by omega, by rw [← e (j - 1) (by omega), Nat.sub_add_cancel h1]; exact h3⟩
  · rintro ⟨j, h1, h2, h3⟩; exact ⟨j + 1, by omega, by omega, by rw [e j (by omega)]; exact h3⟩
/-- UNLIKE, FAR -/
def dst (x y : Int32) : Int32 := if x < y then y - x else x - y
def pnn (R : Nat → Nat → Int32) (q : Nat) (b : Int32) (i j : Nat) : Bool := decide (rv R q i ≠ -9 ∧ rv R q j ≠ -9 ∧ (dst (rv R q i) (rv R q j) = 0 ∨ (b ≠ 0 ∧ dst (rv R q i) (rv R q j) < R 325 q)))
theorem r_near_L {R : Nat → Nat → Int32} {q n i : Nat} {b : Int32} {k9 k10 : Unit → Option Int32} (h : TPa R q n) (hin : i < n) : ∀ (k j fu : Nat), j + k = i → k < fu → f_X7_isNear_L15 (nI i) (nI q) b R k9 k10 fu (nI j) = if ex1 (pnn R q b i) k j = 1 then k9 () else k10 () := by
  obtain ⟨hq, hn, en, hp6⟩ := h
  intro k
  induction k with
  | zero =>
    intro j fu hj hf
    obtain ⟨fu, rfl⟩ : ∃ z, fu = z + 1 := ⟨fu - 1, by omega⟩
    have hlt : ¬ j < i := by omega
    simp (disch := omega) only [f_X7_isNear_L15, t_lt, hlt, if_false, ex1]
    rfl
  | succ k ih =>
    intro j fu hj hf
    obtain ⟨fu, rfl⟩ : ∃ z, fu = z + 1 := ⟨fu - 1, by omega⟩
    have hlt : j < i := by omega
    obtain ⟨m, hm, em⟩ := hp6 i hin
    obtain ⟨m', hm', em'⟩ := hp6 j (by omega)
    have ih' := ih (j + 1) fu (by omega) (by omega)
    have er : rv R q i = R 364 m := by unfold rv; rw [em, t_cl (by omega)]
    have er' : rv R q j = R 364 m' := by unfold rv; rw [em', t_cl (by omega)]
    rw [ex1_if]
    have hR : ∀ x y : Int32, (if x < y then (if x = -9 then (if ex1 (pnn R q b i) k (j + 1) = 1 then k9 () else k10 ()) else (if y = -9 then (if ex1 (pnn R q b i) k (j + 1) = 1 then k9 () else k10 ()) else (if y - x = 0 then k9 () else (if b = 0 then (if ex1 (pnn R q b i) k (j + 1) = 1 then k9 () else k10 ()) else (if y - x < R 325 q then k9 () else (if ex1 (pnn R q b i) k (j + 1) = 1 then k9 () else k10 ())))))) else (if x = -9 then (if ex1 (pnn R q b i) k (j + 1) = 1 then k9 () else k10 ()) else (if y = -9 then (if ex1 (pnn R q b i) k (j + 1) = 1 then k9 () else k10 ()) else (if x - y = 0 then k9 () else (if b = 0 then (if ex1 (pnn R q b i) k (j + 1) = 1 then k9 () else k10 ()) else (if x - y < R 325 q then k9 () else (if ex1 (pnn R q b i) k (j + 1) = 1 then k9 () else k10 ()))))))) = (if x = -9 then (if ex1 (pnn R q b i) k (j + 1) = 1 then k9 () else k10 ()) else (if y = -9 then (if ex1 (pnn R q b i) k (j + 1) = 1 then k9 () else k10 ()) else (if dst x y = 0 then k9 () else (if b = 0 then (if ex1 (pnn R q b i) k (j + 1) = 1 then k9 () else k10 ()) else (if dst x y < R 325 q then k9 () else (if ex1 (pnn R q b i) k (j + 1) = 1 then k9 () else k10 ())))))) := fun x y => by
      unfold dst
      by_cases hxy : x < y
      · simp only [if_pos hxy]
      · simp only [if_neg hxy]
    simp (disch := omega) only [f_X7_isNear_L15, bd, gd_in, t_cl, t_lt, hlt, if_true, m6, em, em', nI_1, ih']
    refine Eq.trans (hR (R 364 m) (R 364 m')) ?_
    by_cases hp : pnn R q b i j = true
    · rw [if_pos hp]
      obtain ⟨g1, g2, g3⟩ := of_decide_eq_true hp
      rw [er] at g1 g3
      rw [er'] at g2 g3
      rw [if_neg g1, if_neg g2]
      by_cases hD : dst (R 364 m) (R 364 m') = 0
      · rw [if_pos hD]
      · obtain ⟨g4, g5⟩ := g3.resolve_left hD
        rw [if_neg hD, if_neg g4, if_pos g5]
    · rw [if_neg hp]
      by_cases h1 : R 364 m = -9
      · rw [if_pos h1]
      by_cases h2 : R 364 m' = -9
      · rw [if_neg h1, if_pos h2]
      have hD : ¬ (dst (R 364 m) (R 364 m') = 0 ∨ (b ≠ 0 ∧ dst (R 364 m) (R 364 m') < R 325 q)) := fun q => hp (decide_eq_true (by rw [er, er']; exact ⟨h1, h2, q⟩))
      rw [if_neg h1, if_neg h2, if_neg (fun q => hD (Or.inl q))]
      by_cases h4 : b = 0
      · rw [if_pos h4]
      · rw [if_neg h4, if_neg (fun q => hD (Or.inr ⟨h4, q⟩))]
def pno (R : Nat → Nat → Int32) (q : Nat) (b : Int32) (i : Nat) : Bool := decide (ex1 (pnn R q b i) i 0 = 1)
theorem r_near_L2 {R : Nat → Nat → Int32} {q n : Nat} {b : Int32} {k3 k4 : Unit → Option Int32} (h : TPa R q n) : ∀ (k i fu : Nat), i + k = n → k < fu → f_X7_isNear_L2 (nI q) b R k3 k4 fu (nI i) = if ex1 (pno R q b) k i = 1 then k3 () else k4 () := by
  have hq := h.1
  have hn := h.2.1
  have en := h.2.2.1
  intro k
  induction k with
  | zero =>
    intro i fu hi hf
    obtain ⟨fu, rfl⟩ : ∃ z, fu = z + 1 := ⟨fu - 1, by omega⟩
    have hlt : ¬ i < n := by omega
    simp (disch := omega) only [f_X7_isNear_L2, gd_in, t_cl, en, t_lt, hlt, if_false, ex1]
    rfl
  | succ k ih =>
    intro i fu hi hf
    obtain ⟨fu, rfl⟩ : ∃ z, fu = z + 1 := ⟨fu - 1, by omega⟩
    have hlt : i < n := by omega
    simp (disch := omega) only [f_X7_isNear_L2, gd_in, t_cl, en, t_lt, hlt, if_true, bd, nI_1]
    refine Eq.trans (r_near_L h hlt i 0 FU (by omega) (t_fu i (by omega))) ?_
    rw [ih (i + 1) fu (by omega) (by omega), ex1_if]
    by_cases hc : ex1 (pnn R q b i) i 0 = 1
    · rw [if_pos hc, if_pos (show pno R q b i = true from decide_eq_true hc)]
    · rw [if_neg hc, if_neg (show ¬ pno R q b i = true from by rw [show pno R q b i = false from decide_eq_false hc]; decide)]
theorem r_isNear {R : Nat → Nat → Int32} {q n : Nat} {b : Int32} (h : TPa R q n) : f_X7_isNear R (nI q) b = some (ex1 (pno R q b) n 0) := by
  simp only [f_X7_isNear, bd]
  have hn := h.2.1
  refine Eq.trans (r_near_L2 h n 0 FU (by omega) (t_fu _ (by omega))) ?_
  rcases ex1_01 (pno R q b) n 0 with e | e <;> rw [e]
  · rw [if_neg z01]
  · rw [if_pos rfl]
theorem t_dst : ∀ a, a < 6 → ∀ b, b < 6 → dst (nI a) (nI b) = nI (if a < b then b - a else a - b) ∧ ab (nI a - nI b) = nI (if a < b then b - a else a - b) ∧ (if a < b then b - a else a - b) < 6 ∧ (if a < b then b - a else a - b) = (if b < a then a - b else b - a) := by decide
theorem near_e {I A R : Nat → Nat → Int32} {q Q n v : Nat} {b d : Int32} (h : TRu I A R q Q) (hw : RuW I A Q n) (hv : TRo A R v) (hbd : ∀ x, x < 6 → ((nI x = 0 ∨ (b ≠ 0 ∧ nI x < R 325 q)) ↔ nI x < d)) : ex1 (pno R q b) n 0 = ex1 (pna A Q v n d) n 0 := by
  have hn := hw.1
  apply ex1_e
  -- a pair: i the later part
  have e : ∀ i j, i < n → j < n → (pnn R q b i j = true ↔ pv A Q v j ≠ -1 ∧ pnr A Q v d j i = true) := fun i j hi hj => by
    unfold pnn pnr
    rw [decide_eq_true_iff, decide_eq_true_iff]
    rcases tr_pv h hw hv hi with ⟨e1, e2⟩ | ⟨m, hm, e1, e2⟩ <;> rcases tr_pv h hw hv hj with ⟨e3, e4⟩ | ⟨m', hm', e3, e4⟩ <;> rw [e1, e2, e3, e4]
    · simp
    · simp
    · simp
    · obtain ⟨d1, d2, d3, d4⟩ := t_dst m hm m' hm'
      obtain ⟨f1, f2, f3, f4⟩ := t_dst m' hm' m hm
      rw [d1, f2, d4]
      have hx := hbd _ f3
      constructor
      · rintro ⟨_, _, h3⟩; exact ⟨t_m1 (by omega), t_m1 (by omega), hx.mp h3⟩
      · rintro ⟨_, _, h3⟩; exact ⟨t_m9 (by omega), t_m9 (by omega), hx.mpr h3⟩
  constructor
  · rintro ⟨i, h1, h2, h3⟩
    obtain ⟨j, j1, j2, j3⟩ := (ex1_i _ _ _).mp (of_decide_eq_true h3)
    obtain ⟨g1, g2⟩ := (e i j (by omega) (by omega)).mp j3
    refine ⟨j, by omega, by omega, decide_eq_true ⟨g1, (ex1_i _ _ _).mpr ⟨i, by omega, by omega, g2⟩⟩⟩
  · rintro ⟨j, h1, h2, h3⟩
    obtain ⟨g1, g2⟩ := of_decide_eq_true h3
    obtain ⟨i, i1, i2, i3⟩ := (ex1_i _ _ _).mp g2
    exact ⟨i, by omega, by omega, decide_eq_true ((ex1_i _ _ _).mpr ⟨j, by omega, by omega, (e i j (by omega) (by omega)).mpr ⟨g1, i3⟩⟩)⟩
theorem near_4 {c : Int32} (x : Nat) (hx : x < 6) : (nI x = 0 ∨ ((0 : Int32) ≠ 0 ∧ nI x < c)) ↔ nI x < 1 := by
  have e0 : (nI x).toInt = x := nI_toInt (by omega)
  constructor
  · rintro (h | ⟨h, _⟩)
    · rw [h]; decide
    · exact absurd rfl h
  · intro h
    rw [Int32.lt_iff_toInt_lt, e0, show (1 : Int32).toInt = 1 by decide] at h
    left
    rw [show x = 0 by omega]; rfl
theorem near_5 {c : Int32} (x : Nat) (hx : x < 6) : (nI x = 0 ∨ ((1 : Int32) ≠ 0 ∧ nI x < c)) ↔ nI x < (if 1 < c then c else 1) := by
  have e0 : (nI x).toInt = x := nI_toInt (by omega)
  have e1 : (1 : Int32).toInt = 1 := by decide
  by_cases hc : 1 < c
  · rw [if_pos hc]
    rw [Int32.lt_iff_toInt_lt, e1] at hc
    constructor
    · rintro (h | ⟨_, h⟩)
      · rw [h, Int32.lt_iff_toInt_lt, show (0 : Int32).toInt = 0 by decide]; omega
      · exact h
    · intro h; exact Or.inr ⟨by decide, h⟩
  · rw [if_neg hc]
    rw [Int32.lt_iff_toInt_lt, e1] at hc
    constructor
    · rintro (h | ⟨_, h⟩)
      · rw [h]; decide
      · rw [Int32.lt_iff_toInt_lt, e0] at h ⊢; rw [e1]; omega
    · intro h
      rw [Int32.lt_iff_toInt_lt, e0, e1] at h
      left
      rw [show x = 0 by omega]; rfl
/-- a rule's whole tie -/
def TRule (I A R : Nat → Nat → Int32) (p q Q z n : Nat) : Prop := q < 40 ∧ TRu I A R q Q ∧ RuW I A Q n ∧ TWe A Q n ∧ TSz A Q z n ∧ TSs A R p z ∧ ∃ k, k ≤ 7 ∧ I Q 0 = nI k
theorem r_isBroken {I A R : Nat → Nat → Int32} {p r Q z n v : Nat} (hp : p < 5) (h : TRule I A R p (8 * p + r) Q z n) (hv : TRo A R v) : f_X7_isBroken R (nI p) (nI r) = some (brk I A Q v z n) := by
  obtain ⟨hq, hT, hw, he, hs, hz, kd, hkd, ek⟩ := h
  have hP := TPa_of hq hT hw
  have hn := hw.1
  have e1 : sm (rt R p (8 * p + r) 1) n 0 0 = sm (tl A Q v z) n 0 0 := sm_c n 0 0 (fun i _ hi => rt_1 hT hw hv he hs hz (by omega))
  have e0 : sm (rt R p (8 * p + r) 0) n 0 0 = sm (tg A Q v z) n 0 0 := sm_c n 0 0 (fun i _ hi => rt_0 hT hw hv he hs hz (by omega))
  have ew : sm (rwl R (8 * p + r)) n 0 0 = sm (tw A Q v) n 0 0 := sm_c n 0 0 (fun i _ hi => by
    unfold rwl tw
    rw [(hT.2.2.2 i (by omega)).2]
    rcases tr_pv hT hw hv (i := i) (by omega) with ⟨e1, e2⟩ | ⟨m, hm, e1, e2⟩
    · rw [e1, e2, if_pos rfl, if_pos (Or.inl rfl)]
    · rw [e1, e2, if_neg (t_m9 (by omega))]
      by_cases hc : nI m = A (Q + 2) i
      · rw [if_pos hc, if_pos (Or.inr hc)]
      · rw [if_neg hc, if_neg (fun r => r.elim (t_m1 (by omega)) hc)])
  unfold f_X7_isBroken brk
  simp (disch := omega) only [m8, gd_in, t_cl, hT.1, hT.2.1, ek]
  obtain rfl | rfl | rfl | rfl | rfl | rfl | rfl | rfl : kd = 0 ∨ kd = 1 ∨ kd = 2 ∨ kd = 3 ∨ kd = 4 ∨ kd = 5 ∨ kd = 6 ∨ kd = 7 := by omega
  · rw [if_pos (by decide), if_pos (by decide), r_isLoaded hP, load_e hT hw hv]
    exact gd_t (ex1_01 _ _ _)
  · rw [if_neg (by decide), if_pos (by decide), if_neg (by decide), if_pos (by decide), r_sumOf hp hP, e1]
    show (if _ then _ else _) = _
    split <;> rfl
  · rw [if_neg (by decide), if_neg (by decide), if_pos (by decide), if_neg (by decide), if_neg (by decide), if_pos (by decide), r_sumOf hp hP, e0]
    show (if _ then _ else _) = _
    split <;> rfl
  · rw [if_neg (by decide), if_neg (by decide), if_neg (by decide), if_pos (by decide), if_neg (by decide), if_neg (by decide), if_neg (by decide), if_pos (by decide), r_sumOf hp hP, r_sumOf hp hP, e0, e1]
    show (if _ then _ else (if _ then _ else _)) = _
    split
    · rfl
    · split <;> rfl
  · rw [if_neg (by decide), if_neg (by decide), if_neg (by decide), if_neg (by decide), if_pos (by decide), if_neg (by decide), if_neg (by decide), if_neg (by decide), if_neg (by decide), if_pos (by decide), r_isNear hP, near_e hT hw hv (fun x hx => near_4 x hx)]
    exact gd_t (ex1_01 _ _ _)
  · rw [if_neg (by decide), if_neg (by decide), if_neg (by decide), if_neg (by decide), if_neg (by decide), if_pos (by decide), if_neg (by decide), if_neg (by decide), if_neg (by decide), if_neg (by decide), if_neg (by decide), if_pos (by decide), r_isNear hP, near_e hT hw hv (fun x hx => near_5 x hx), hT.2.1]
    exact gd_t (ex1_01 _ _ _)
  · rw [if_neg (by decide), if_neg (by decide), if_neg (by decide), if_neg (by decide), if_neg (by decide), if_neg (by decide), if_pos (by decide), if_neg (by decide), if_neg (by decide), if_neg (by decide), if_neg (by decide), if_neg (by decide), if_neg (by decide), if_pos (by decide), r_isFalling hP, fall_e hT hw hv]
    exact gd_t (ex1_01 _ _ _)
  · rw [if_neg (by decide), if_neg (by decide), if_neg (by decide), if_neg (by decide), if_neg (by decide), if_neg (by decide), if_neg (by decide), if_neg (by decide), if_neg (by decide), if_neg (by decide), if_neg (by decide), if_neg (by decide), if_neg (by decide), if_neg (by decide), if_pos (by decide)]
    unfold bd
    have hL := r_will_L (c := I Q 1) (k9 := fun (v33 : Int32) (v34 : Int32) => if v34 < v33 then (some (1 : Int32)) else (some (0 : Int32))) hP n 0 FU 0 (by omega) (t_fu _ (by omega))
    rw [ew] at hL
    refine hL.trans ?_
    show (if _ then _ else _) = _
    split <;> rfl

/-! part 62.judge -/
/-! THE TIE: a problem, and what is judged in it -/
def TIs (A : Nat → Nat → Int32) (Q n : Nat) : Prop := ∀ x, x < 6 → (A (Q + 3) x = 0 ∧ ∀ k, k < n → A (Q + 1) k ≠ nI x) ∨ (¬ A (Q + 3) x = 0 ∧ (∃ k, k < n ∧ A (Q + 1) k = nI x) ∧ ∀ k, k < n → A (Q + 1) k = nI x → A (Q + 2) k = A (Q + 4) x)
/-- rule r of problem p -/
def TRl (I A R : Nat → Nat → Int32) (p B r : Nat) : Prop := TRu I A R (8 * p + r) (B + 12 + 5 * r) ∧ TWe A (B + 12 + 5 * r) (nP I (B + 12 + 5 * r)) ∧ TSz A (B + 12 + 5 * r) (B + 1) (nP I (B + 12 + 5 * r)) ∧ TIs A (B + 12 + 5 * r) (nP I (B + 12 + 5 * r)) ∧ ∃ k, k ≤ 7 ∧ I (B + 12 + 5 * r) 0 = nI k
/-- problem p: nv variables, nr rules -/
def TPr (I A R : Nat → Nat → Int32) (p B nv nr : Nat) : Prop := p < 5 ∧ B = 58 + 52 * p ∧ PrW I A B nv nr ∧ R 319 p = nI nv ∧ R 320 p = nI nr ∧ TSs A R p (B + 1) ∧ (∀ x k, x < 6 → k < 6 → R 323 (36 * p + 6 * x + k) = A (B + 4 + x) k ∧ -100000 ≤ (A (B + 4 + x) k).toInt ∧ (A (B + 4 + x) k).toInt ≤ 100000) ∧ ∀ r, r < 8 → TRl I A R p B r
theorem TPr_of {I A R I2 A2 R2 : Nat → Nat → Int32} {p B nv nr : Nat} (h : TPr I A R p B nv nr) (hI : ∀ j k, 58 ≤ j → j < 318 → I2 j k = I j k) (hA : ∀ j k, 58 ≤ j → j < 318 → A2 j k = A j k) (hR : ∀ j k, 319 ≤ j → j ≤ 328 → R2 j k = R j k) : TPr I2 A2 R2 p B nv nr := by
  obtain ⟨hp, hB, hw, h1, h2, h3, h4, h5⟩ := h
  refine ⟨hp, hB, ?_, by rw [hR _ _ (by omega) (by omega)]; exact h1, by rw [hR _ _ (by omega) (by omega)]; exact h2, fun m hm => by rw [hR _ _ (by omega) (by omega), hA _ _ (by omega) (by omega)]; exact h3 m hm, fun x k hx hk => by rw [hR _ _ (by omega) (by omega), hA _ _ (by omega) (by omega)]; exact h4 x k hx hk, fun r hr => ?_⟩
  · refine ⟨hw.1, hw.2.1, by rw [hI _ _ (by omega) (by omega)]; exact hw.2.2.1, by rw [hI _ _ (by omega) (by omega)]; exact hw.2.2.2.1, fun x hx => by rw [hA _ _ (by omega) (by omega)]; exact hw.2.2.2.2.1 x hx, fun r hr => ?_⟩
    have e : nP I2 (B + 12 + 5 * r) = nP I (B + 12 + 5 * r) := by unfold nP; rw [hI _ _ (by omega) (by omega)]
    rw [e]
    have w := hw.2.2.2.2.2 r hr
    exact ⟨w.1, by rw [hI _ _ (by omega) (by omega)]; exact w.2.1, fun i hi => by rw [hA _ _ (by omega) (by omega)]; exact w.2.2 i hi⟩
  · have e : nP I2 (B + 12 + 5 * r) = nP I (B + 12 + 5 * r) := by unfold nP; rw [hI _ _ (by omega) (by omega)]
    obtain ⟨⟨a1, a2, a3, a4⟩, b, c, d, k, k7, ek⟩ := h5 r hr
    unfold TRl
    rw [e]
    refine ⟨⟨by rw [hR _ _ (by omega) (by omega), hI _ _ (by omega) (by omega)]; exact a1, by rw [hR _ _ (by omega) (by omega), hI _ _ (by omega) (by omega)]; exact a2, by rw [hR _ _ (by omega) (by omega), hI _ _ (by omega) (by omega)]; exact a3, fun k hk => by rw [hR _ _ (by omega) (by omega), hR _ _ (by omega) (by omega), hA _ _ (by omega) (by omega), hA _ _ (by omega) (by omega)]; exact a4 k hk⟩, fun k hk => by rw [hA _ _ (by omega) (by omega)]; exact b k hk, fun i hi => by rw [hA (B + 1) _ (by omega) (by omega), hA (B + 12 + 5 * r + 1) _ (by omega) (by omega)]; exact c i hi, fun x hx => ?_, k, k7, by rw [hI _ _ (by omega) (by omega)]; exact ek⟩
    rw [hA _ _ (by omega) (by omega), hA (B + 12 + 5 * r + 4) _ (by omega) (by omega)]
    rcases d x hx with ⟨d1, d2⟩ | ⟨d1, ⟨k0, d2, d3⟩, d4⟩
    · exact Or.inl ⟨d1, fun k hk => by rw [hA _ _ (by omega) (by omega)]; exact d2 k hk⟩
    · exact Or.inr ⟨d1, ⟨k0, d2, by rw [hA _ _ (by omega) (by omega)]; exact d3⟩, fun k hk => by rw [hA _ _ (by omega) (by omega), hA _ _ (by omega) (by omega)]; exact d4 k hk⟩
theorem TPr_up {I A R : Nat → Nat → Int32} {p B nv nr v x y : Nat} {w w' : Int32} (h : TPr I A R p B nv nr) (hv : v < 58) : TPr I (up2 A v x w) (up2 R 364 y w') p B nv nr :=
  TPr_of h (fun _ _ _ _ => rfl) (fun j k h1 _ => up2_j (by omega)) (fun j k _ h1 => up2_j (by omega))
theorem TRo_up {A R : Nat → Nat → Int32} {v x y : Nat} (h : TRo A R v) (hy : y < 6) : TRo (up2 A v x (nI y)) (up2 R 364 x (nI y)) v := fun i hi => by
  by_cases hx : i = x
  · subst hx; rw [up2_s, up2_s]; exact Or.inr ⟨y, hy, rfl, rfl⟩
  · rw [up2_k hx, up2_k hx]; exact h i hi
theorem tp_at {I A R : Nat → Nat → Int32} {p B nv nr : Nat} (h : TPr I A R p B nv nr) : PrAt B := ⟨p, h.1, h.2.1⟩
theorem tp_ru {I A R : Nat → Nat → Int32} {p B nv nr r : Nat} (h : TPr I A R p B nv nr) (hr : r < 8) : TRule I A R p (8 * p + r) (B + 12 + 5 * r) (B + 1) (nP I (B + 12 + 5 * r)) := by
  obtain ⟨hp, hB, hw, h1, h2, h3, h4, h5⟩ := h
  obtain ⟨a, b, c, d, e⟩ := h5 r hr
  exact ⟨by omega, a, hw.2.2.2.2.2 r hr, b, c, h3, e⟩
section JU
variable {I A R : Nat → Nat → Int32} {p B nv nr v : Nat}
theorem r_brk_L {k3 : Int32 → Option Int32} {k5 : Unit → Option Int32} (h : TPr I A R p B nv nr) (hv : TRo A R v) : ∀ (k i fu : Nat), i + k = nr → k < fu → f_X7_brokenBy_L2 (nI p) R k3 k5 fu (nI i) = if fst1 (pbr I A B v) k i = -9 then k5 () else k3 (fst1 (pbr I A B v) k i) := by
  have hp := h.1
  have hw := h.2.2.1
  have hnr := hw.2.1
  have e2 := h.2.2.2.2.1
  intro k
  induction k with
  | zero =>
    intro i fu hi hf
    obtain ⟨fu, rfl⟩ : ∃ z, fu = z + 1 := ⟨fu - 1, by omega⟩
    have hlt : ¬ i < nr := by omega
    simp (disch := omega) only [f_X7_brokenBy_L2, gd_in, t_cl, e2, t_lt, hlt, if_false, fst1, if_true]
  | succ k ih =>
    intro i fu hi hf
    obtain ⟨fu, rfl⟩ : ∃ z, fu = z + 1 := ⟨fu - 1, by omega⟩
    have hlt : i < nr := by omega
    simp (disch := omega) only [f_X7_brokenBy_L2, gd_in, t_cl, e2, t_lt, hlt, if_true, nI_1]
    rw [r_isBroken hp (tp_ru h (by omega)) hv, Option.bind_some, ih (i + 1) fu (by omega) (by omega), fst1_if (by omega)]
    by_cases hc : brk I A (B + 12 + 5 * i) v (B + 1) (nP I (B + 12 + 5 * i)) = 0
    · have e : ¬ pbr I A B v i = true := by unfold pbr; rw [decide_eq_true_iff]; exact fun q => q hc
      rw [if_pos hc, if_neg e]
    · have e : pbr I A B v i = true := decide_eq_true hc
      rw [if_neg hc, if_pos e]
theorem r_brokenBy (h : TPr I A R p B nv nr) (hv : TRo A R v) : f_X7_brokenBy R (nI p) = some (fbk I A B v nr) := by
  simp only [f_X7_brokenBy, bd]
  have hnr := h.2.2.1.2.1
  refine Eq.trans (r_brk_L h hv nr 0 FU (by omega) (t_fu _ (by omega))) ?_
  unfold fbk
  by_cases e : fst1 (pbr I A B v) nr 0 = -9
  · rw [if_pos e, e]
  · rw [if_neg e]
theorem r_isOut {x y : Nat} (h : TPr I A R p B nv nr) (hv : TRo A R v) (hv58 : v < 58) (hx : x < 6) (hy : y < 6) : f_X7_isOut R (nI p) (nI x) (nI y) = some (if fbk I (up2 A v x (nI y)) B v nr = -9 then 0 else 1, R) := by
  have e := r_brokenBy (TPr_up (x := x) (y := x) (w := nI y) (w' := nI y) h hv58) (TRo_up (x := x) hv hy)
  simp (disch := omega) only [f_X7_isOut, gd_in, t_cl, bd, e, Option.bind_some, up2_back]
  split <;> rfl
/-- where a variable is a part -/
def ppt (R : Nat → Nat → Int32) (q x i : Nat) : Bool := decide (R 327 (6 * q + i) = nI x)
theorem r_part_L {q n x : Nat} {k4 : Int32 → Option Int32} {k6 : Unit → Option Int32} (h : TPa R q n) : ∀ (k i fu : Nat), i + k = n → k < fu → f_X7_partAt_L11 (nI x) R k4 k6 fu (nI i) (nI q) = if fst1 (ppt R q x) k i = -9 then k6 () else k4 (fst1 (ppt R q x) k i) := by
  obtain ⟨hq, hn, en, hp6⟩ := h
  intro k
  induction k with
  | zero =>
    intro i fu hi hf
    obtain ⟨fu, rfl⟩ : ∃ z, fu = z + 1 := ⟨fu - 1, by omega⟩
    have hlt : ¬ i < n := by omega
    simp (disch := omega) only [f_X7_partAt_L11, gd_in, t_cl, en, t_lt, hlt, if_false, fst1, if_true]
  | succ k ih =>
    intro i fu hi hf
    obtain ⟨fu, rfl⟩ : ∃ z, fu = z + 1 := ⟨fu - 1, by omega⟩
    have hlt : i < n := by omega
    rw [fst1_if (by omega)]
    simp (disch := omega) only [f_X7_partAt_L11, gd_in, t_cl, en, t_lt, hlt, if_true, nI_1, m6, ih (i + 1) fu (by omega) (by omega)]
    by_cases hc : R 327 (6 * q + i) = nI x
    · have e : ppt R q x i = true := decide_eq_true hc
      rw [if_pos hc, if_pos e]
    · have e : ¬ ppt R q x i = true := by unfold ppt; rw [decide_eq_true_iff]; exact hc
      rw [if_neg hc, if_neg e]
theorem r_partAt {r n x : Nat} (hp : p < 5) (h : TPa R (8 * p + r) n) : f_X7_partAt R (nI p) (nI r) (nI x) = some (fst1 (ppt R (8 * p + r) x) n 0) := by
  have hn := h.2.1
  simp only [f_X7_partAt, bd, m8]
  refine Eq.trans (r_part_L h n 0 FU (by omega) (t_fu _ (by omega))) ?_
  by_cases e : fst1 (ppt R (8 * p + r) x) n 0 = -9
  · rw [if_pos e, e]
  · rw [if_neg e]
/-- a part or none, with its weight -/
theorem part_c {r x : Nat} (h : TPr I A R p B nv nr) (hr : r < 8) (hx : x < 6) : (A (B + 12 + 5 * r + 3) x = 0 ∧ fst1 (ppt R (8 * p + r) x) (nP I (B + 12 + 5 * r)) 0 = -9) ∨ (¬ A (B + 12 + 5 * r + 3) x = 0 ∧ ∃ k, k < 6 ∧ fst1 (ppt R (8 * p + r) x) (nP I (B + 12 + 5 * r)) 0 = nI k ∧ R 328 (6 * (8 * p + r) + k) = A (B + 12 + 5 * r + 4) x) := by
  have hT := tp_ru h hr
  have hw := hT.2.2.1
  have hd := (h.2.2.2.2.2.2.2 r hr).2.2.2.1
  have hn := hw.1
  rcases fst1_o (p := ppt R (8 * p + r) x) (nP I (B + 12 + 5 * r)) 0 with e | ⟨k, k1, k2, k3, k4⟩
  · rcases hd x hx with ⟨d1, d2⟩ | ⟨d1, ⟨k, d2, d3⟩, d4⟩
    · exact Or.inl ⟨d1, e⟩
    · have e2 := (fst1_n _ 0 (by omega)).mp e k (by omega) (by omega)
      unfold ppt at e2
      rw [(hT.2.1.2.2.2 k (by omega)).1, d3] at e2
      simp at e2
  · have k4 := of_decide_eq_true k4
    rw [(hT.2.1.2.2.2 k (by omega)).1] at k4
    rcases hd x hx with ⟨d1, d2⟩ | ⟨d1, _, d4⟩
    · exact absurd k4 (d2 k (by omega))
    · exact Or.inr ⟨d1, k, by omega, k3, by rw [(hT.2.1.2.2.2 k (by omega)).2]; exact d4 k (by omega) k4⟩
theorem r_costAt {x k : Nat} (h : TPr I A R p B nv nr) (hx : x < 6) (hk : k < 6) : f_X7_costAt R (nI p) (nI x) (nI k) = some (A (B + 4 + x) k) := by
  have hp := h.1
  simp (disch := omega) only [f_X7_costAt, m36, gd_in, t_cl, (h.2.2.2.2.2.2.1 x k hx hk).1]
theorem all1_if {β : Type} {q : Nat → Bool} {k i : Nat} {a b : β} : (if all1 q (k + 1) i = 1 then a else b) = if q i = true then (if all1 q k (i + 1) = 1 then a else b) else b := by
  rw [all1]
  by_cases h : q i = true
  · rw [if_pos h, if_pos h]
  · rw [if_neg h, if_neg h, if_neg z01]
theorem r_like_L {a e s : Nat} {k6 k7 : Unit → Option Int32} (h : TPr I A R p B nv nr) (ha : a < 6) (he : e < 6) (hs : s ≤ 6) (es : R 321 (6 * p + a) = nI s) : ∀ (k i fu : Nat), i + k = s → k < fu → f_X7_areLike_L30 (nI p) (nI a) (nI e) R k6 k7 fu (nI i) = if all1 (peq A B a e) k i = 1 then k7 () else k6 () := by
  have hp := h.1
  intro k
  induction k with
  | zero =>
    intro i fu hi hf
    obtain ⟨fu, rfl⟩ : ∃ z, fu = z + 1 := ⟨fu - 1, by omega⟩
    have hlt : ¬ i < s := by omega
    simp (disch := omega) only [f_X7_areLike_L30, m6, t_cl, es, t_lt, hlt, if_false, all1, if_true]
  | succ k ih =>
    intro i fu hi hf
    obtain ⟨fu, rfl⟩ : ∃ z, fu = z + 1 := ⟨fu - 1, by omega⟩
    have hlt : i < s := by omega
    simp (disch := omega) only [f_X7_areLike_L30, m6, t_cl, es, t_lt, hlt, if_true, nI_1, ih (i + 1) fu (by omega) (by omega), r_costAt h ha (show i < 6 by omega), r_costAt h he (show i < 6 by omega), Option.bind_some, all1_if]
    by_cases hc : A (B + 4 + a) i = A (B + 4 + e) i
    · rw [if_pos hc, if_pos (show peq A B a e i = true from decide_eq_true hc)]
    · rw [if_neg hc, if_neg (show ¬ peq A B a e i = true from by unfold peq; rw [decide_eq_true_iff]; exact hc)]
theorem r_like_L2 {a e : Nat} {k10 k11 : Unit → Option Int32} (h : TPr I A R p B nv nr) (ha : a < 6) (he : e < 6) : ∀ (k i fu : Nat), i + k = nr → k < fu → f_X7_areLike_L76 (nI p) (nI a) (nI e) R k10 k11 fu (nI i) = if all1 (pta I A B a e) k i = 1 then k11 () else k10 () := by
  have hp := h.1
  have hnr := h.2.2.1.2.1
  have e2 := h.2.2.2.2.1
  intro k
  induction k with
  | zero =>
    intro i fu hi hf
    obtain ⟨fu, rfl⟩ : ∃ z, fu = z + 1 := ⟨fu - 1, by omega⟩
    have hlt : ¬ i < nr := by omega
    simp (disch := omega) only [f_X7_areLike_L76, gd_in, t_cl, e2, t_lt, hlt, if_false, all1, if_true]
  | succ k ih =>
    intro i fu hi hf
    obtain ⟨fu, rfl⟩ : ∃ z, fu = z + 1 := ⟨fu - 1, by omega⟩
    have hlt : i < nr := by omega
    have hT := tp_ru h (show i < 8 by omega)
    have hP := TPa_of hT.1 hT.2.1 hT.2.2.1
    have hq := hT.1
    have ek := hT.2.1.1
    have q1 := r_partAt (x := a) hp hP
    have q2 := r_partAt (x := e) hp hP
    rw [all1_if]
    have ih' := ih (i + 1) fu (by omega) (by omega)
    rw [f_X7_areLike_L76, gd_in hp (by omega), t_cl (by omega), e2, if_pos (nI_lt hlt (by omega)), q1, q2, Option.bind_some, Option.bind_some, nI_1, ih']
    rcases part_c h (show i < 8 by omega) ha with ⟨a1, a2⟩ | ⟨a1, ka, a2, a3, a4⟩ <;> rcases part_c h (show i < 8 by omega) he with ⟨b1, b2⟩ | ⟨b1, kb, b2, b3, b4⟩
    · have et : pta I A B a e i = true := decide_eq_true (by unfold tal; rw [if_pos (Or.inl ⟨a1, b1⟩)]; decide)
      simp only [a2, b2, bd, if_true, et, z10, if_false]
    · have et : ¬ pta I A B a e i = true := by
        unfold pta; rw [decide_eq_true_iff]; unfold tal
        rw [if_neg (fun q => q.elim (fun q => b1 q.2) (fun q => q.2.1 a1))]; exact fun q => q rfl
      simp (disch := omega) only [a2, b3, bd, if_true, t_m9, if_false, et, Bool.false_eq_true]
    · have et : ¬ pta I A B a e i = true := by
        unfold pta; rw [decide_eq_true_iff]; unfold tal
        rw [if_neg (fun q => q.elim (fun q => a1 q.1) (fun q => q.2.2.1 b1))]; exact fun q => q rfl
      simp (disch := omega) only [a3, b2, bd, if_true, t_m9, if_false, et, Bool.false_eq_true]
    · simp (disch := omega) only [a3, b3, bd, if_true, t_m9, if_false, m8, gd_in, t_cl, ek, m6, a4, b4]
      by_cases h6 : I (B + 12 + 5 * i) 0 = 6
      · have et : ¬ pta I A B a e i = true := by
          unfold pta; rw [decide_eq_true_iff]; unfold tal
          rw [if_neg (fun q => q.elim (fun q => a1 q.1) (fun q => q.1 h6))]; exact fun q => q rfl
        rw [if_pos h6, if_neg et]
      · rw [if_neg h6]
        by_cases hc : A (B + 12 + 5 * i + 4) a = A (B + 12 + 5 * i + 4) e
        · have et : pta I A B a e i = true := decide_eq_true (by unfold tal; rw [if_pos (Or.inr ⟨h6, a1, b1, hc⟩)]; decide)
          rw [if_pos hc, if_pos et]
        · have et : ¬ pta I A B a e i = true := by
            unfold pta; rw [decide_eq_true_iff]; unfold tal
            rw [if_neg (fun q => q.elim (fun q => a1 q.1) (fun q => hc q.2.2.2))]; exact fun q => q rfl
          rw [if_neg hc, if_neg et]
theorem r_areLike {a e : Nat} (h : TPr I A R p B nv nr) (ha : a < nv) (he : e < 6) : f_X7_areLike R (nI p) (nI a) (nI e) = some (twn I A B nr (szo A B a) a e) := by
  have hp := h.1
  have hnv := h.2.2.1.1
  have hnr := h.2.2.1.2.1
  obtain ⟨s1, s2, s3⟩ := pr_sz h.2.2.1 ha
  have ea := h.2.2.2.2.2.1 a (by omega)
  have ee := h.2.2.2.2.2.1 e he
  unfold twn
  simp (disch := omega) only [f_X7_areLike, m6, gd_in, t_cl, bd, ea, ee]
  by_cases hc : A (B + 1) a = A (B + 1) e
  · rw [if_pos hc]
    refine Eq.trans (r_like_L h (by omega) he s3 (ea.trans s1) (szo A B a) 0 FU (by omega) (t_fu _ (by omega))) ?_
    by_cases hd : all1 (peq A B a e) (szo A B a) 0 = 1
    · rw [if_pos hd, if_pos ⟨hc, hd⟩]
      refine Eq.trans (r_like_L2 h (by omega) he nr 0 FU (by omega) (t_fu _ (by omega))) ?_
      rcases all1_01 (pta I A B a e) nr 0 with e | e <;> rw [e]
      · rw [if_neg z01]
      · rw [if_pos rfl]
    · rw [if_neg hd, if_neg (fun q => hd q.2)]
  · rw [if_neg hc, if_neg (fun q => hc q.1)]
end JU

/-! part 63.what -/
/-! THE TIE: what a node is -/
theorem ex1_c {p q : Nat → Bool} : ∀ (k i : Nat), (∀ j, i ≤ j → j < i + k → p j = q j) → ex1 p k i = ex1 q k i
  | 0, _, _ => rfl
  | k + 1, i, h => by
    unfold ex1
    rw [h i (Nat.le_refl i) (by omega), ex1_c k (i + 1) (fun j h1 h2 => h j (by omega) (by omega))]
/-- a rule sees its parts' values, weights and sizes, and no more -/
theorem brk_c {I I' A A' : Nat → Nat → Int32} {Q v z n : Nat} (hI : ∀ k, I' Q k = I Q k) (hp : ∀ i, i < n → pv A' Q v i = pv A Q v i) (h1 : ∀ i, A' (Q + 1) i = A (Q + 1) i) (h2 : ∀ i, A' (Q + 2) i = A (Q + 2) i) (hz : ∀ i, A' z i = A z i) : brk I' A' Q v z n = brk I A Q v z n := by
  have el : sm (tl A' Q v z) n 0 0 = sm (tl A Q v z) n 0 0 := sm_c n 0 0 (fun i _ hi => by unfold tl; rw [hp i (by omega), h1, h2, hz])
  have eg : sm (tg A' Q v z) n 0 0 = sm (tg A Q v z) n 0 0 := sm_c n 0 0 (fun i _ hi => by unfold tg; rw [hp i (by omega), h1, h2, hz])
  have ew : sm (tw A' Q v) n 0 0 = sm (tw A Q v) n 0 0 := sm_c n 0 0 (fun i _ hi => by unfold tw; rw [hp i (by omega), h2])
  have eo : ex1 (pov I' A' Q v n) 6 0 = ex1 (pov I A Q v n) 6 0 := ex1_c 6 0 (fun x _ _ => by
    unfold pov
    have e1 : sm (to A' Q v) n 0 0 = sm (to A Q v) n 0 0 := sm_c n 0 0 (fun i _ hi => by unfold to; rw [hp i (by omega), h2])
    have e2 : ∀ a, sm (tv A' Q v (nI x)) n 0 a = sm (tv A Q v (nI x)) n 0 a := fun a => sm_c n 0 a (fun i _ hi => by unfold tv; rw [hp i (by omega), h2])
    rw [e1, e2, hI])
  have en : ∀ d, ex1 (pna A' Q v n d) n 0 = ex1 (pna A Q v n d) n 0 := fun d => ex1_c n 0 (fun i _ hi => by
    unfold pna
    have e1 : ex1 (pnr A' Q v d i) (n - (i + 1)) (i + 1) = ex1 (pnr A Q v d i) (n - (i + 1)) (i + 1) := ex1_c _ _ (fun j j1 j2 => by unfold pnr; rw [hp i (by omega), hp j (by omega)])
    rw [e1, hp i (by omega)])
  have es : ex1 (pst I' A' Q v) (n - 1) 0 = ex1 (pst I A Q v) (n - 1) 0 := ex1_c _ _ (fun i _ hi => by unfold pst; rw [hp i (by omega), hp (i + 1) (by omega), hI])
  unfold brk
  rw [el, eg, ew, eo, es, hI, hI]
  simp only [en]
section WH
variable {I A R : Nat → Nat → Int32} {p B nv nr v : Nat}
theorem brk_np {x : Nat} {w : Int32} {r : Nat} (h : TPr I A R p B nv nr) (hv : v < 58) (hr : r < 8) (hx : x < 6) (hn : A (B + 12 + 5 * r + 3) x = 0) : brk I (up2 A v x w) (B + 12 + 5 * r) v (B + 1) (nP I (B + 12 + 5 * r)) = brk I A (B + 12 + 5 * r) v (B + 1) (nP I (B + 12 + 5 * r)) := by
  have hB := h.2.1
  have hw := h.2.2.1.2.2.2.2.2 r hr
  refine brk_c (fun _ => rfl) (fun i hi => ?_) (fun i => up2_j (by omega)) (fun i => up2_j (by omega)) (fun i => up2_j (by omega))
  unfold pv
  rw [up2_j (show B + 12 + 5 * r + 1 ≠ v by omega)]
  obtain ⟨m, hm, em⟩ := t_in6 (hw.2.2 i hi) (by omega)
  rw [em, t_cl (by omega)]
  refine up2_k (fun e => ?_)
  rcases (h.2.2.2.2.2.2.2 r hr).2.2.2.1 x hx with ⟨_, d⟩ | ⟨d, _⟩
  · exact d i hi (by rw [em, e])
  · exact d hn
theorem out_e {x y : Nat} (h : TPr I A R p B nv nr) (hv : v < 58) (hx : x < 6) (h0 : fbk I A B v nr = -9) : ex1 (plo I A B v x y) nr 0 = 0 ↔ fbk I (up2 A v x (nI y)) B v nr = -9 := by
  have hnr := h.2.2.1.2.1
  unfold fbk at h0 ⊢
  rw [fst1_n nr 0 (by omega)] at h0 ⊢
  constructor
  · intro e j _ hj
    unfold pbr
    rw [decide_eq_false_iff_not, Classical.not_not]
    by_cases hp : A (B + 12 + 5 * j + 3) x = 0
    · rw [brk_np h hv (by omega) hx hp]
      have := h0 j (by omega) hj
      unfold pbr at this
      rw [decide_eq_false_iff_not, Classical.not_not] at this
      exact this
    · refine Classical.byContradiction (fun q => ?_)
      have := (ex1_i (plo I A B v x y) nr 0).mpr ⟨j, by omega, hj, decide_eq_true ⟨hp, q⟩⟩
      rw [e] at this
      exact absurd this z01
  · intro e
    rcases ex1_01 (plo I A B v x y) nr 0 with q | q
    · exact q
    · obtain ⟨j, j1, j2, j3⟩ := (ex1_i _ _ _).mp q
      have j3 := of_decide_eq_true j3
      have := e j j1 j2
      unfold pbr at this
      rw [decide_eq_false_iff_not, Classical.not_not] at this
      exact absurd this j3.2
/-- the least value found, and its cost -/
def LB (A : Nat → Nat → Int32) (B x : Nat) (b a : Int32) : Prop := (b = -9 ∧ a = -1000000) ∨ ∃ m, m < 6 ∧ b = nI m ∧ a = A (B + 4 + x) m ∧ ¬ a = -1000000
theorem c_no {x k : Nat} (h : TPr I A R p B nv nr) (hx : x < 6) (hk : k < 6) : ¬ A (B + 4 + x) k = -1000000 := fun e => by
  have := (h.2.2.2.2.2.2.1 x k hx hk).2.1
  rw [e, show (-1000000 : Int32).toInt = -1000000 by decide] at this
  omega
theorem r_least_L {x s : Nat} {a2 : Int32} {J : Nat → Nat → Int32} {k31 : Int32 → (Nat → Nat → Int32) → Option (Int32 × (Nat → Nat → Int32) × (Nat → Nat → Int32))} (h : TPr I A R p B nv nr) (hr : TRo A R v) (hv : v < 58) (hx : x < 6) (hs : s ≤ 6) (es : A (B + 1) x = nI s) (h0 : fbk I A B v nr = -9) : ∀ (k y fu : Nat) (b a : Int32), y + k = s → k < fu → LB A B x b a → ∃ b', f_X7_whatIs_L138 (nI x) (nI p) a2 J k31 fu (nI y) b R = k31 b' R ∧ LB A B x b' (lcs I A B v x nr k y a) := by
  have hp := h.1
  have e1 := (h.2.2.2.2.2.1 x hx).trans es
  intro k
  induction k with
  | zero =>
    intro y fu b a hy hf hb
    obtain ⟨fu, rfl⟩ : ∃ z, fu = z + 1 := ⟨fu - 1, by omega⟩
    have hlt : ¬ y < s := by omega
    refine ⟨b, ?_, hb⟩
    simp (disch := omega) only [f_X7_whatIs_L138, m6, gd_in, t_cl, e1, t_lt, hlt, if_false]
  | succ k ih =>
    intro y fu b a hy hf hb
    obtain ⟨fu, rfl⟩ : ∃ z, fu = z + 1 := ⟨fu - 1, by omega⟩
    have hlt : y < s := by omega
    rw [f_X7_whatIs_L138, m6, gd_in (by omega) (by omega), t_cl (by omega), e1, if_pos (nI_lt hlt (by omega)), r_isOut h hr hv hx (by omega), Option.bind_some, nI_1, lcs]
    by_cases ho : fbk I (up2 A v x (nI y)) B v nr = -9
    · simp only [if_pos ho, if_true]
      have hq := (out_e (y := y) h hv hx h0).mpr ho
      rcases hb with ⟨b1, b2⟩ | ⟨m, hm, b1, b2, b3⟩
      · rw [if_pos b1, if_pos ⟨hq, Or.inl b2⟩]
        exact ih (y + 1) fu _ _ (by omega) (by omega) (Or.inr ⟨y, by omega, rfl, rfl, c_no h hx (by omega)⟩)
      · subst b1
        rw [if_neg (t_m9 (by omega)), r_costAt h hx (show y < 6 by omega), r_costAt h hx hm]
        simp only [Option.bind_some]
        by_cases hc : A (B + 4 + x) y < A (B + 4 + x) m
        · rw [if_pos hc, if_pos ⟨hq, Or.inr (by rw [b2]; exact hc)⟩]
          exact ih (y + 1) fu _ _ (by omega) (by omega) (Or.inr ⟨y, by omega, rfl, rfl, c_no h hx (by omega)⟩)
        · rw [if_neg hc, if_neg (fun q => q.2.elim b3 (fun q => hc (by rw [← b2]; exact q)))]
          exact ih (y + 1) fu _ _ (by omega) (by omega) (Or.inr ⟨m, hm, rfl, b2, b3⟩)
    · simp only [if_neg ho, z10, if_false]
      rw [if_neg (fun q => ho ((out_e h hv hx h0).mp q.1))]
      exact ih (y + 1) fu _ _ (by omega) (by omega) hb
/-- the bound's loop -/
theorem r_bnd_L {d : Nat} {J : Nat → Nat → Int32} {k16 : Int32 → (Nat → Nat → Int32) → (Nat → Nat → Int32) → Option (Int32 × (Nat → Nat → Int32) × (Nat → Nat → Int32))} {k21 : (Nat → Nat → Int32) → (Nat → Nat → Int32) → Option (Int32 × (Nat → Nat → Int32) × (Nat → Nat → Int32))} (h : TPr I A R p B nv nr) (hr : TRo A R v) (hv : v < 58) (hro : RoW A B v d) (hd : d ≤ nv) (h0 : fbk I A B v nr = -9) : ∀ (k i fu : Nat) (a : Int32), i + k = nv → k < fu → ((bnd I A B v nr d k i a).1 = 0 → f_X7_whatIs_L88 (nI p) (nI d) k16 k21 fu (nI i) (up2 J 318 65 a) R = k21 (up2 J 318 65 (bnd I A B v nr d k i a).2.2) R) ∧ (¬ (bnd I A B v nr d k i a).1 = 0 → (bnd I A B v nr d k i a).1 = 3 ∧ ∃ s, f_X7_whatIs_L88 (nI p) (nI d) k16 k21 fu (nI i) (up2 J 318 65 a) R = k16 (bnd I A B v nr d k i a).2.1 (up2 J 318 65 s) R) := by
  have hp := h.1
  have hnv := h.2.2.1.1
  have e1 := h.2.2.2.1
  intro k
  induction k with
  | zero =>
    intro i fu a hi hf
    obtain ⟨fu, rfl⟩ : ∃ z, fu = z + 1 := ⟨fu - 1, by omega⟩
    have hlt : ¬ i < nv := by omega
    unfold bnd
    refine ⟨fun _ => ?_, fun q => absurd rfl q⟩
    simp (disch := omega) only [f_X7_whatIs_L88, gd_in, t_cl, e1, t_lt, hlt, if_false]
  | succ k ih =>
    intro i fu a hi hf
    obtain ⟨fu, rfl⟩ : ∃ z, fu = z + 1 := ⟨fu - 1, by omega⟩
    have hlt : i < nv := by omega
    rw [f_X7_whatIs_L88, gd_in hp (by omega), t_cl (by omega), e1, if_pos (nI_lt hlt (by omega)), bnd]
    by_cases hid : i < d
    · have el : lbd I A B v nr d i = A (B + 4 + i) (A v i).toNatClampNeg := if_pos hid
      obtain ⟨m, hm, em⟩ := t_in6 (hro.1 i hid) (by have := (pr_sz h.2.2.1 hlt).2.2; omega)
      have hm6 : m < 6 := by have := (pr_sz h.2.2.1 hlt).2.2; omega
      have er : R 364 i = nI m := by
        rcases hr i (by omega) with ⟨q1, q2⟩ | ⟨m', hm', q1, q2⟩
        · rw [em] at q1; exact absurd q1 (t_m1 (by omega))
        · rw [q2, ← q1, em]
      rw [em, t_cl (by omega)] at el
      rw [if_pos (nI_lt hid (by omega)), gd_in (by omega) (by omega), t_cl (by omega), er, r_costAt h (by omega) hm6, Option.bind_some, el, if_neg (c_no h (by omega) hm6)]
      simp only [bd, up2_s, up2_up2, nI_1]
      exact ih (i + 1) fu _ (by omega) (by omega)
    · have el : lbd I A B v nr d i = lcs I A B v i nr (szo A B i) 0 (-1000000) := if_neg hid
      obtain ⟨s1, s2, s3⟩ := pr_sz h.2.2.1 hlt
      rw [if_neg (nI_nlt (by omega) (by omega)), bd]
      obtain ⟨b', q1, q2⟩ := r_least_L (a2 := nI d) (J := up2 J 318 65 a) (k31 := fun (v32 : Int32) (A33 : Nat → Nat → Int32) => if v32 = (-9) then (k16 (nI i) (up2 J 318 65 a) A33) else (Option.bind (f_X7_costAt A33 (nI p) (nI i) v32) fun r35 => bd (up2 (up2 J 318 65 a) 318 65 (((up2 J 318 65 a) 318 65) + r35)) fun I37 => f_X7_whatIs_L88 (nI p) (nI d) k16 k21 fu (nI i + 1) I37 A33)) h hr hv (by omega) s3 s1 h0 (szo A B i) 0 FU (-9) (-1000000) (by omega) (t_fu _ (by omega)) (Or.inl ⟨rfl, rfl⟩)
      have q1 : f_X7_whatIs_L138 (nI i) (nI p) (nI d) (up2 J 318 65 a) _ FU 0 (-9) R = _ := q1
      rw [q1, el]
      rcases q2 with ⟨b1, b2⟩ | ⟨m, hm, b1, b2, b3⟩
      · rw [b2, if_pos rfl]
        refine ⟨fun q => absurd (show (3 : Int32) = 0 from q) (by decide), fun _ => ⟨rfl, a, ?_⟩⟩
        simp only [b1, if_true]
      · subst b1
        rw [if_neg b3]
        simp only [if_neg (t_m9 (n := m) (by omega)), r_costAt h (show i < 6 by omega) hm, Option.bind_some, bd, up2_s, up2_up2, nI_1, b2]
        exact ih (i + 1) fu _ (by omega) (by omega)
/-- twins -/
theorem r_twin_L {d : Nat} {mt : Int32} {J : Nat → Nat → Int32} {k7 : Int32 → Option (Int32 × (Nat → Nat → Int32) × (Nat → Nat → Int32))} {k10 : Unit → Option (Int32 × (Nat → Nat → Int32) × (Nat → Nat → Int32))} (h : TPr I A R p B nv nr) (hr : TRo A R v) (hro : RoW A B v (d + 1)) (hd : d < nv) (hmt : ¬ mt = 0) : ∀ (k i fu : Nat), i + k = d → k < fu → f_X7_whatIs_L23 (nI p) (nI (d + 1)) mt J R k7 k10 fu (nI i) = if fst1 (ptw I A B v nr d) k i = -9 then k10 () else k7 (fst1 (ptw I A B v nr d) k i) := by
  have hp := h.1
  have hnv := h.2.2.1.1
  have hval : ∀ i, i ≤ d → A v i = R 364 i := fun i hi => by
    have s3 := (pr_sz h.2.2.1 (show i < nv by omega)).2.2
    obtain ⟨m, hm, em⟩ := t_in6 (hro.1 i (by omega)) (by omega)
    rcases hr i (by omega) with ⟨q1, q2⟩ | ⟨m', hm', q1, q2⟩
    · rw [em] at q1; exact absurd q1 (t_m1 (by omega))
    · rw [q1, q2]
  intro k
  induction k with
  | zero =>
    intro i fu hi hf
    obtain ⟨fu, rfl⟩ : ∃ z, fu = z + 1 := ⟨fu - 1, by omega⟩
    rw [f_X7_whatIs_L23, nI_1, if_neg (nI_nlt (by omega) (by omega))]
    rfl
  | succ k ih =>
    intro i fu hi hf
    obtain ⟨fu, rfl⟩ : ∃ z, fu = z + 1 := ⟨fu - 1, by omega⟩
    rw [fst1_if (by omega), f_X7_whatIs_L23, nI_1, if_pos (nI_lt (by omega) (by omega)), if_neg hmt, gd_in (by omega) (by omega), nI_pred, gd_in (by omega) (by omega), t_cl (by omega), t_cl (by omega), ← hval i (by omega), ← hval d (by omega), r_areLike h (by omega) (by omega), Option.bind_some, ih (i + 1) fu (by omega) (by omega)]
    by_cases hc : A v d < A v i
    · rw [if_pos hc]
      by_cases ht : twn I A B nr (szo A B i) i d = 0
      · have e : ¬ ptw I A B v nr d i = true := by unfold ptw; rw [decide_eq_true_iff]; exact fun q => q.2 ht
        rw [if_pos ht, if_neg e]
      · have e : ptw I A B v nr d i = true := decide_eq_true ⟨hc, ht⟩
        rw [if_neg ht, if_pos e]
    · have e : ¬ ptw I A B v nr d i = true := by unfold ptw; rw [decide_eq_true_iff]; exact fun q => hc q.1
      rw [if_neg hc, if_neg e]
/-- the judgement -/
theorem r_whatIs {d : Nat} {mt : Int32} {J : Nat → Nat → Int32} (h : TPr I A R p B nv nr) (hr : TRo A R v) (hv : v < 58) (hro : RoW A B v d) (hd : d ≤ nv) : ∃ J', f_X7_whatIs J R (nI p) (nI d) mt = some ((lk I A B v nv nr d mt).1, J', R) ∧ (∀ j k, ¬ (j = 318 ∧ (k = 64 ∨ k = 65)) → J' j k = J j k) ∧ ((lk I A B v nv nr d mt).1 = 0 → J' 318 65 = (lk I A B v nv nr d mt).2.2) ∧ (¬ (lk I A B v nv nr d mt).1 = 0 → J' 318 64 = (lk I A B v nv nr d mt).2.1) := by
  have hnv := h.2.2.1.1
  have hup : ∀ (F : Nat → Nat → Int32) (q : Nat) (w : Int32), (q = 64 ∨ q = 65) → (∀ j k, ¬ (j = 318 ∧ (k = 64 ∨ k = 65)) → F j k = J j k) → ∀ j k, ¬ (j = 318 ∧ (k = 64 ∨ k = 65)) → up2 F 318 q w j k = J j k := fun F q w hq hF j k hj => by
    unfold up2
    rw [if_neg (fun e => hj ⟨e.1, by rw [e.2]; exact hq⟩)]
    exact hF j k hj
  unfold lk f_X7_whatIs
  rw [r_brokenBy h hr, Option.bind_some]
  simp only [bd, up2_s]
  by_cases h0 : fbk I A B v nr = -9
  · rw [if_pos h0, if_pos h0]
    -- behind the twins
    have hk10 : ∀ (J3 : Nat → Nat → Int32), (∀ j k, ¬ (j = 318 ∧ (k = 64 ∨ k = 65)) → J3 j k = J j k) → ∃ J', f_X7_whatIs_L88 (nI p) (nI d) (fun (v17 : Int32) (I18 : Nat → Nat → Int32) (A19 : Nat → Nat → Int32) => some ((3 : Int32), up2 I18 318 64 v17, A19)) (fun (I22 : Nat → Nat → Int32) (A23 : Nat → Nat → Int32) => some ((0 : Int32), I22, A23)) FU 0 (up2 J3 318 65 0) R = some ((bnd I A B v nr d nv 0 0).1, J', R) ∧ (∀ j k, ¬ (j = 318 ∧ (k = 64 ∨ k = 65)) → J' j k = J j k) ∧ ((bnd I A B v nr d nv 0 0).1 = 0 → J' 318 65 = (bnd I A B v nr d nv 0 0).2.2) ∧ (¬ (bnd I A B v nr d nv 0 0).1 = 0 → J' 318 64 = (bnd I A B v nr d nv 0 0).2.1) := fun J3 hJ3 => by
      obtain ⟨q1, q2⟩ := r_bnd_L (d := d) (J := J3) (k16 := fun (v17 : Int32) (I18 : Nat → Nat → Int32) (A19 : Nat → Nat → Int32) => some ((3 : Int32), up2 I18 318 64 v17, A19)) (k21 := fun (I22 : Nat → Nat → Int32) (A23 : Nat → Nat → Int32) => some ((0 : Int32), I22, A23)) h hr hv hro hd h0 nv 0 FU 0 (by omega) (t_fu _ (by omega))
      by_cases hb : (bnd I A B v nr d nv 0 0).1 = 0
      · refine ⟨_, (q1 hb).trans (by rw [hb]), hup _ 65 _ (Or.inr rfl) hJ3, fun _ => up2_s _ _ _ _, fun q => absurd hb q⟩
      · obtain ⟨q3, s, q4⟩ := q2 hb
        refine ⟨_, q4.trans (by rw [q3]), hup _ 64 _ (Or.inl rfl) (hup _ 65 _ (Or.inr rfl) hJ3), fun q => absurd q hb, fun _ => up2_s _ _ _ _⟩
    have hJ3 := hup J 64 (-9) (Or.inl rfl) (fun _ _ _ => rfl)
    rw [h0]
    by_cases hmt : mt = 0
    · rw [if_pos (Or.inl hmt)]
      obtain ⟨fu, efu⟩ : ∃ z, FU = z + 1 := ⟨FU - 1, by have := FU_le; omega⟩
      have e : ∀ (k7 : Int32 → Option (Int32 × (Nat → Nat → Int32) × (Nat → Nat → Int32))) (k10 : Unit → Option (Int32 × (Nat → Nat → Int32) × (Nat → Nat → Int32))), f_X7_whatIs_L23 (nI p) (nI d) mt (up2 J 318 64 (-9)) R k7 k10 FU 0 = k10 () := fun k7 k10 => by
        rw [efu, f_X7_whatIs_L23, if_pos hmt]
        split <;> rfl
      rw [e]
      exact hk10 _ hJ3
    · by_cases hd0 : d = 0
      · rw [if_pos (Or.inr (Or.inl hd0))]
        obtain ⟨fu, efu⟩ : ∃ z, FU = z + 1 := ⟨FU - 1, by have := FU_le; omega⟩
        have e : ∀ (k7 : Int32 → Option (Int32 × (Nat → Nat → Int32) × (Nat → Nat → Int32))) (k10 : Unit → Option (Int32 × (Nat → Nat → Int32) × (Nat → Nat → Int32))), f_X7_whatIs_L23 (nI p) (nI d) mt (up2 J 318 64 (-9)) R k7 k10 FU 0 = k10 () := fun k7 k10 => by
          rw [efu, f_X7_whatIs_L23, hd0, if_neg (by decide)]
        rw [e]
        exact hk10 _ hJ3
      · obtain ⟨d', rfl⟩ : ∃ z, d = z + 1 := ⟨d - 1, by omega⟩
        have e := fun k7 k10 => r_twin_L (mt := mt) (J := up2 J 318 64 (-9)) (k7 := k7) (k10 := k10) h hr hro (by omega) hmt d' 0 FU (by omega) (t_fu _ (by omega))
        have e : ∀ (k7 : Int32 → Option (Int32 × (Nat → Nat → Int32) × (Nat → Nat → Int32))) (k10 : Unit → Option (Int32 × (Nat → Nat → Int32) × (Nat → Nat → Int32))), f_X7_whatIs_L23 (nI p) (nI (d' + 1)) mt (up2 J 318 64 (-9)) R k7 k10 FU 0 = if ftw I A B v nr d' = -9 then k10 () else k7 (ftw I A B v nr d') := e
        rw [e, Nat.add_sub_cancel]
        by_cases hf : ftw I A B v nr d' = -9
        · rw [if_pos hf, if_pos (Or.inr (Or.inr hf))]
          exact hk10 _ hJ3
        · rw [if_neg hf, if_neg (fun q => q.elim hmt (fun q => q.elim hd0 hf))]
          exact ⟨_, rfl, hup _ 64 _ (Or.inl rfl) hJ3, fun q => absurd (show (2 : Int32) = 0 from q) (by decide), fun _ => up2_s _ _ _ _⟩
  · rw [if_neg h0, if_neg h0]
    exact ⟨_, rfl, hup J 64 _ (Or.inl rfl) (fun _ _ _ => rfl), fun q => absurd (show (1 : Int32) = 0 from q) (by decide), fun _ => up2_s _ _ _ _⟩
end WH

/-! part 64.bits -/
/-! THE TIE: a node's place, by its bound and its digits -/
theorem l_and {x : Int64} {k : Nat} (hk : k < 63) : (x &&& Int64.ofNat (2 ^ k - 1)).toInt = x.toInt % (2 ^ k : Nat) := by
  have hp : 2 ^ k < 2 ^ 63 := Nat.pow_lt_pow_right (by decide) hk
  have h1 : (x &&& Int64.ofNat (2 ^ k - 1)).toBitVec.toNat = x.toBitVec.toNat % 2 ^ k := by
    rw [Int64.toBitVec_and, BitVec.toNat_and]
    show x.toBitVec.toNat &&& (2 ^ k - 1) % 2 ^ 64 = _
    rw [Nat.mod_eq_of_lt (by omega), Nat.and_two_pow_sub_one_eq_mod]
  have hl : x.toBitVec.toNat % 2 ^ k < 2 ^ k := Nat.mod_lt _ (Nat.pos_of_ne_zero (by simp))
  have e : ∀ b : BitVec 64, b.toInt = if 2 * b.toNat < 2 ^ 64 then (b.toNat : Int) else (b.toNat : Int) - (2 ^ 64 : Nat) := fun b => BitVec.toInt_eq_toNat_cond b
  show (x &&& Int64.ofNat (2 ^ k - 1)).toBitVec.toInt = x.toBitVec.toInt % (2 ^ k : Nat)
  rw [e, e x.toBitVec, h1, if_pos (by omega)]
  have hd : ((2 ^ 64 : Nat) : Int) % (2 ^ k : Nat) = 0 := by
    have : (2 ^ 64 : Nat) = 2 ^ k * 2 ^ (64 - k) := by rw [← Nat.pow_add]; congr 1; omega
    rw [this]
    push_cast
    exact Int.mul_emod_right _ _
  split
  · first | exact Int.natCast_emod _ _ | exact Int.ofNat_emod _ _ | (push_cast; rfl)
  · rw [Int.sub_emod, hd, Int.sub_zero, Int.emod_emod]
    first | exact Int.natCast_emod _ _ | exact Int.ofNat_emod _ _ | (push_cast; rfl)
theorem l_or {x y : Int64} (h : x &&& y = 0) : x ||| y = x + y := by
  apply Int64.toBitVec_inj.1
  rw [Int64.toBitVec_or, Int64.toBitVec_add]
  have h := congrArg Int64.toBitVec h
  rw [Int64.toBitVec_and] at h
  exact (BitVec.add_eq_or_of_and_eq_zero _ _ h).symm
theorem l_shl {x : Int64} {s : Nat} (hs : s < 64) : x <<< lN s = x * Int64.ofNat (2 ^ s) := by
  apply Int64.toBitVec_inj.1
  rw [Int64.toBitVec_shiftLeft, Int64.toBitVec_mul]
  have e : ((lN s).toBitVec.smod 64).toNat = s := (by decide +kernel : ∀ s, s < 64 → ((lN s).toBitVec.smod 64).toNat = s) s hs
  show x.toBitVec <<< ((lN s).toBitVec.smod 64).toNat = _
  rw [e, BitVec.shiftLeft_eq_mul_twoPow]
  congr 1
  apply BitVec.eq_of_toNat_eq
  rw [BitVec.toNat_twoPow]
  rfl
theorem l_shr {x : Int64} {s : Nat} (hs : s < 64) : (x >>> lN s).toInt = x.toInt / (2 ^ s : Nat) := by
  show (x >>> lN s).toBitVec.toInt = _
  rw [Int64.toBitVec_shiftRight]
  have e : ((lN s).toBitVec.smod 64).toNat = s := (by decide +kernel : ∀ s, s < 64 → ((lN s).toBitVec.smod 64).toNat = s) s hs
  show (x.toBitVec.sshiftRight ((lN s).toBitVec.smod 64).toNat).toInt = _
  rw [e, BitVec.toInt_sshiftRight, Int.shiftRight_eq_div_pow]
  rfl
theorem b_rng (b : Int32) : -2147483648 ≤ b.toInt ∧ b.toInt < 2147483648 := ⟨Int32.le_toInt b, Int32.toInt_lt b⟩
theorem plc_int (b : Int32) {r : Nat} (hr : r < 262144) : (plc b (lN r)).toInt = b.toInt * 262144 + r := by
  have hb := b_rng b
  unfold plc
  rw [show ((18 : Int32).toInt64 &&& 63) = lN 18 by decide, l_shl (by decide)]
  have e1 : (b.toInt64 * Int64.ofNat (2 ^ 18)).toInt = b.toInt * 262144 := by
    rw [Int64.toInt_mul, Int32.toInt_toInt64, show (Int64.ofNat (2 ^ 18)).toInt = 262144 by decide]
    apply Int.bmod_eq_of_le <;> omega
  have e2 : (lN r).toInt = r := lN_toInt (by omega)
  have hz : b.toInt64 * Int64.ofNat (2 ^ 18) &&& lN r = 0 := by
    rw [← l_shl (by decide)]
    apply Int64.toBitVec_inj.1
    rw [Int64.toBitVec_and, Int64.toBitVec_shiftLeft]
    apply BitVec.eq_of_getLsbD_eq
    intro i hi
    rw [BitVec.getLsbD_and]
    show ((b.toInt64.toBitVec <<< ((lN 18).toBitVec.smod 64).toNat).getLsbD i && (BitVec.ofNat 64 r).getLsbD i) = (0 : BitVec 64).getLsbD i
    rw [show ((lN 18).toBitVec.smod 64).toNat = 18 by decide, BitVec.getLsbD_shiftLeft, BitVec.getLsbD_ofNat]
    by_cases h18 : i < 18
    · simp [h18]
    · have : r.testBit i = false := Nat.testBit_lt_two_pow (Nat.lt_of_lt_of_le (show r < 2 ^ 18 from hr) (Nat.pow_le_pow_right (by decide) (by omega)))
      simp [this]
  rw [l_or hz, Int64.toInt_add, e1, e2]
  apply Int.bmod_eq_of_le <;> omega
theorem plc_lt (a b : Int32) {r q : Nat} (hr : r < 262144) (hq : q < 262144) : plc a (lN r) < plc b (lN q) ↔ (a < b ∨ (a = b ∧ r < q)) := by
  rw [Int64.lt_iff_toInt_lt, plc_int a hr, plc_int b hq, Int32.lt_iff_toInt_lt, ← Int32.toInt_inj]
  omega
theorem bdo_plc (b : Int32) {r : Nat} (hr : r < 262144) : bdo (plc b (lN r)) = b := by
  have hb := b_rng b
  unfold bdo
  apply Int32.toInt_inj.1
  rw [show ((18 : Int32).toInt64 &&& 63) = lN 18 by decide, Int64.toInt_toInt32, l_shr (by decide), plc_int b hr]
  rw [show (b.toInt * 262144 + (r : Int)) / ((2 ^ 18 : Nat) : Int) = b.toInt by omega]
  apply Int.bmod_eq_of_le <;> omega
theorem msk_plc (b : Int32) {r : Nat} (hr : r < 262144) : plc b (lN r) &&& 262143 = lN r := by
  apply Int64.toInt_inj.1
  rw [show (262143 : Int64) = Int64.ofNat (2 ^ 18 - 1) by decide, l_and (by decide), plc_int b hr, lN_toInt (by omega)]
  omega
/-- the digits of a row of d values -/
def dg (w : Nat → Nat) (d i : Nat) : Nat := if i < d then w i + 1 else 0
def e8 (w : Nat → Nat) (d : Nat) : Nat := dg w d 0 * 32768 + dg w d 1 * 4096 + dg w d 2 * 512 + dg w d 3 * 64 + dg w d 4 * 8 + dg w d 5
def e7 (w : Nat → Nat) (d : Nat) : Nat := dg w d 0 * 16807 + dg w d 1 * 2401 + dg w d 2 * 343 + dg w d 3 * 49 + dg w d 4 * 7 + dg w d 5
theorem dg_6 {w : Nat → Nat} {d : Nat} (h : ∀ i, i < d → w i < 6) (i : Nat) : dg w d i ≤ 6 := by
  unfold dg
  split
  · have := h i (by assumption); omega
  · omega
theorem e8_lt {w : Nat → Nat} {d : Nat} (h : ∀ i, i < d → w i < 6) : e8 w d < 262144 := by
  have h0 := dg_6 h 0; have h1 := dg_6 h 1; have h2 := dg_6 h 2; have h3 := dg_6 h 3; have h4 := dg_6 h 4; have h5 := dg_6 h 5
  unfold e8; omega
theorem e7_lt {w : Nat → Nat} {d : Nat} (h : ∀ i, i < d → w i < 6) : e7 w d < 117649 := by
  have h0 := dg_6 h 0; have h1 := dg_6 h 1; have h2 := dg_6 h 2; have h3 := dg_6 h 3; have h4 := dg_6 h 4; have h5 := dg_6 h 5
  unfold e7; omega
theorem lex1 {x y x' y' a b : Nat} (h1 : x < y ↔ x' < y') (h2 : x = y ↔ x' = y') (ha : a ≤ 6) (hb : b ≤ 6) : (x * 8 + a < y * 8 + b ↔ x' * 7 + a < y' * 7 + b) ∧ (x * 8 + a = y * 8 + b ↔ x' * 7 + a = y' * 7 + b) := by
  constructor <;> (rcases Nat.lt_trichotomy x y with q | q | q <;> rcases Nat.lt_trichotomy x' y' with q' | q' | q' <;> constructor <;> intro h <;> omega)
theorem e87 {w u : Nat → Nat} {d k : Nat} (h : ∀ i, i < d → w i < 6) (g : ∀ i, i < k → u i < 6) : (e8 w d < e8 u k ↔ e7 w d < e7 u k) ∧ (e8 w d = e8 u k ↔ e7 w d = e7 u k) := by
  have h0 := dg_6 h 0; have h1 := dg_6 h 1; have h2 := dg_6 h 2; have h3 := dg_6 h 3; have h4 := dg_6 h 4; have h5 := dg_6 h 5
  have g0 := dg_6 g 0; have g1 := dg_6 g 1; have g2 := dg_6 g 2; have g3 := dg_6 g 3; have g4 := dg_6 g 4; have g5 := dg_6 g 5
  have l1 := lex1 (x := dg w d 0) (y := dg u k 0) (Iff.rfl) (Iff.rfl) h1 g1
  have l2 := lex1 l1.1 l1.2 h2 g2
  have l3 := lex1 l2.1 l2.2 h3 g3
  have l4 := lex1 l3.1 l3.2 h4 g4
  have l5 := lex1 l4.1 l4.2 h5 g5
  have e1 : e8 w d = ((((dg w d 0 * 8 + dg w d 1) * 8 + dg w d 2) * 8 + dg w d 3) * 8 + dg w d 4) * 8 + dg w d 5 := by unfold e8; omega
  have e2 : e8 u k = ((((dg u k 0 * 8 + dg u k 1) * 8 + dg u k 2) * 8 + dg u k 3) * 8 + dg u k 4) * 8 + dg u k 5 := by unfold e8; omega
  have e3 : e7 w d = ((((dg w d 0 * 7 + dg w d 1) * 7 + dg w d 2) * 7 + dg w d 3) * 7 + dg w d 4) * 7 + dg w d 5 := by unfold e7; omega
  have e4 : e7 u k = ((((dg u k 0 * 7 + dg u k 1) * 7 + dg u k 2) * 7 + dg u k 3) * 7 + dg u k 4) * 7 + dg u k 5 := by unfold e7; omega
  rw [e1, e2, e3, e4]
  exact l5
theorem sh_s : ∀ i, i < 6 → ((sh (nI i)).toInt64 &&& 63) = lN (3 * (5 - i)) := by decide
theorem vlo_e8 (b : Int32) {w : Nat → Nat} {d i : Nat} (h : ∀ i, i < d → w i < 6) (hi : i < d) (h6 : i < 6) : vlo (plc b (lN (e8 w d))) (nI i) = nI (w i) := by
  have h0 := dg_6 h 0; have h1 := dg_6 h 1; have h2 := dg_6 h 2; have h3 := dg_6 h 3; have h4 := dg_6 h 4; have h5 := dg_6 h 5
  have hl := e8_lt h
  have hp := plc_int b hl
  have hd : dg w d i = w i + 1 := if_pos hi
  have hw := h i hi
  have e8' : e8 w d = dg w d 0 * 32768 + dg w d 1 * 4096 + dg w d 2 * 512 + dg w d 3 * 64 + dg w d 4 * 8 + dg w d 5 := rfl
  have key : ((plc b (lN (e8 w d)) >>> lN (3 * (5 - i))) &&& 7).toInt = ((w i + 1 : Nat) : Int) := by
    rw [show (7 : Int64) = Int64.ofNat (2 ^ 3 - 1) by decide, l_and (by decide), l_shr (by omega), hp]
    obtain rfl | rfl | rfl | rfl | rfl | rfl : i = 0 ∨ i = 1 ∨ i = 2 ∨ i = 3 ∨ i = 4 ∨ i = 5 := by omega
    all_goals (simp only [Nat.reduceSub, Nat.reduceMul, Nat.reducePow]; omega)
  unfold vlo
  rw [sh_s i h6]
  have e2 : ((plc b (lN (e8 w d)) >>> lN (3 * (5 - i))) &&& 7) = lN (w i + 1) := Int64.toInt_inj.1 (by rw [key, lN_toInt (by omega)])
  rw [e2, lN_i, nI_pred]
theorem e8_s {w : Nat → Nat} {d y : Nat} (h : ∀ i, i < d → w i < 6) (hd : d < 6) (hy : y < 6) : lN (e8 w d) ||| ((nI y + 1).toInt64 <<< ((sh (nI d)).toInt64 &&& 63)) = lN (e8 (fun i => if i = d then y else w i) (d + 1)) := by
  have h0 := dg_6 h 0; have h1 := dg_6 h 1; have h2 := dg_6 h 2; have h3 := dg_6 h 3; have h4 := dg_6 h 4; have h5 := dg_6 h 5
  have hl := e8_lt h
  rw [sh_s d hd, nI_1, nI_l (by omega), l_shl (by omega)]
  have em : lN (y + 1) * Int64.ofNat (2 ^ (3 * (5 - d))) = lN ((y + 1) * 2 ^ (3 * (5 - d))) := lN_mul _ _
  rw [em]
  have ee : e8 (fun i => if i = d then y else w i) (d + 1) = e8 w d + (y + 1) * 2 ^ (3 * (5 - d)) := by
    unfold e8 dg
    obtain rfl | rfl | rfl | rfl | rfl | rfl : d = 0 ∨ d = 1 ∨ d = 2 ∨ d = 3 ∨ d = 4 ∨ d = 5 := by omega
    all_goals (simp; try omega)
  rw [ee, ← lN_add]
  apply l_or
  apply Int64.toBitVec_inj.1
  rw [Int64.toBitVec_and]
  apply BitVec.eq_of_getLsbD_eq
  intro i hi
  rw [BitVec.getLsbD_and]
  show ((BitVec.ofNat 64 (e8 w d)).getLsbD i && (BitVec.ofNat 64 ((y + 1) * 2 ^ (3 * (5 - d)))).getLsbD i) = (0 : BitVec 64).getLsbD i
  rw [BitVec.getLsbD_ofNat, BitVec.getLsbD_ofNat]
  have hm : e8 w d = (e8 w d / 2 ^ (3 * (6 - d))) * 2 ^ (3 * (6 - d)) := by
    unfold e8 dg
    obtain rfl | rfl | rfl | rfl | rfl | rfl : d = 0 ∨ d = 1 ∨ d = 2 ∨ d = 3 ∨ d = 4 ∨ d = 5 := by omega
    all_goals (simp; try omega)
  by_cases hi1 : i < 3 * (6 - d)
  · have : (e8 w d).testBit i = false := by rw [hm, Nat.testBit_mul_two_pow]; simp; intro q; omega
    simp [this]
  · have : ((y + 1) * 2 ^ (3 * (5 - d))).testBit i = false := by
      apply Nat.testBit_lt_two_pow
      have : (y + 1) * 2 ^ (3 * (5 - d)) < 2 ^ 3 * 2 ^ (3 * (5 - d)) := Nat.mul_lt_mul_of_pos_right (by omega) (Nat.pos_of_ne_zero (by simp))
      rw [← Nat.pow_add] at this
      exact Nat.lt_of_lt_of_le this (Nat.pow_le_pow_right (by decide) (by omega))
    simp [this]

/-! part 65.scan -/
/-! THE TIE: the search for the least node -/
/-- the better of a candidate and the best one so far -/
def btr (lt : Nat → Nat → Bool) (i : Nat) : Option Nat → Option Nat
  | none => some i
  | some j => if lt i j = true then some i else some j
theorem btr_s (lt : Nat → Nat → Bool) (i j : Nat) : btr lt i (some j) = if lt i j = true then some i else some j := rfl
/-- the least of a list (the first of equals), with a best one before it -/
def amin (P : Nat → Bool) (lt : Nat → Nat → Bool) : List Nat → Option Nat → Option Nat
  | [], b => b
  | i :: l, b => amin P lt l (if P i = true then btr lt i b else b)
def enc (x : Int32) : Option Nat → Int32
  | none => x
  | some n => nI n
theorem amin_f {P Q : Nat → Bool} {lt : Nat → Nat → Bool} (h : ∀ c, P c = true → Q c = true) : ∀ (l : List Nat) (b : Option Nat), amin P lt (l.filter Q) b = amin P lt l b
  | [], _ => rfl
  | i :: l, b => by
    by_cases hq : Q i = true
    · rw [List.filter_cons_of_pos hq]; unfold amin; exact amin_f h l _
    · rw [List.filter_cons_of_neg hq]
      have hp : ¬ P i = true := fun q => hq (h i q)
      rw [amin, if_neg hp]
      exact amin_f h l b
theorem amin_m {P : Nat → Bool} {lt : Nat → Nat → Bool} {φ : Nat → Nat} : ∀ (l : List Nat) (b : Option Nat), amin P lt (l.map φ) (b.map φ) = (amin (fun n => P (φ n)) (fun n m => lt (φ n) (φ m)) l b).map φ
  | [], _ => rfl
  | i :: l, b => by
    rw [List.map_cons, amin, amin]
    have e : (if P (φ i) = true then btr lt (φ i) (b.map φ) else b.map φ) = (if P (φ i) = true then btr (fun n m => lt (φ n) (φ m)) i b else b).map φ := by
      by_cases hp : P (φ i) = true
      · rw [if_pos hp, if_pos hp]
        cases b with
        | none => rfl
        | some j =>
          show (if lt (φ i) (φ j) = true then some (φ i) else some (φ j)) = Option.map φ (if lt (φ i) (φ j) = true then some i else some j)
          split <;> rfl
      · rw [if_neg hp, if_neg hp]
    rw [e]
    exact amin_m l _
theorem btr_o (lt : Nat → Nat → Bool) (i : Nat) (b : Option Nat) : btr lt i b = some i ∨ (btr lt i b = b ∧ b ≠ none) := by
  cases b with
  | none => exact Or.inl rfl
  | some j =>
    rw [btr_s]
    by_cases h : lt i j = true
    · rw [if_pos h]; exact Or.inl rfl
    · rw [if_neg h]; exact Or.inr ⟨rfl, by simp⟩
theorem amin_c {P P' : Nat → Bool} {lt lt' : Nat → Nat → Bool} (S : Nat → Prop) (hP : ∀ n, S n → P n = P' n) (hl : ∀ n m, S n → S m → lt n m = lt' n m) : ∀ (l : List Nat) (b : Option Nat), (∀ n ∈ l, S n) → (∀ n, b = some n → S n) → amin P lt l b = amin P' lt' l b
  | [], _, _, _ => rfl
  | i :: l, b, hS, hb => by
    have hi : S i := hS i (List.mem_cons_self ..)
    rw [amin, amin, ← hP i hi]
    have e : btr lt i b = btr lt' i b := by
      cases b with
      | none => rfl
      | some j => rw [btr_s, btr_s, hl i j hi (hb j rfl)]
    rw [e]
    refine amin_c S hP hl l _ (fun n hn => hS n (List.mem_cons_of_mem _ hn)) (fun n hn => ?_)
    by_cases hp : P i = true
    · rw [if_pos hp] at hn
      rcases btr_o lt' i b with q | q
      · rw [q] at hn; cases hn; exact hi
      · rw [q.1] at hn; exact hb n hn
    · rw [if_neg hp] at hn; exact hb n hn
theorem amin_o {P : Nat → Bool} {lt : Nat → Nat → Bool} : ∀ (l : List Nat) (b : Option Nat) (n : Nat), amin P lt l b = some n → b = some n ∨ (n ∈ l ∧ P n = true)
  | [], _, _, h => Or.inl h
  | i :: l, b, n, h => by
    rw [amin] at h
    rcases amin_o l _ n h with q | ⟨q1, q2⟩
    · by_cases hp : P i = true
      · rw [if_pos hp] at q
        rcases btr_o lt i b with r | r
        · rw [r] at q; cases q; exact Or.inr ⟨List.mem_cons_self .., hp⟩
        · rw [r.1] at q; exact Or.inl q
      · rw [if_neg hp] at q; exact Or.inl q
    · exact Or.inr ⟨List.mem_cons_of_mem _ q1, q2⟩
theorem amin_n {P : Nat → Bool} {lt : Nat → Nat → Bool} : ∀ (l : List Nat) (b : Option Nat), amin P lt l b = none → b = none ∧ ∀ n ∈ l, P n = false
  | [], _, h => ⟨h, fun _ q => by cases q⟩
  | i :: l, b, h => by
    rw [amin] at h
    obtain ⟨q1, q2⟩ := amin_n l _ h
    by_cases hp : P i = true
    · rw [if_pos hp] at q1
      rcases btr_o lt i b with r | r
      · rw [r] at q1; cases q1
      · rw [r.1] at q1; exact absurd q1 r.2
    · rw [if_neg hp] at q1
      refine ⟨q1, fun n hn => ?_⟩
      rcases List.mem_cons.mp hn with e | e
      · rw [e]; simpa using hp
      · exact q2 n e
/-- the class's searches -/
def pfr (A : Nat → Nat → Int32) (T c : Nat) : Bool := decide (A (T + 3) c = 0 ∧ A (T + 5) c = 0)
def pwk (A : Nat → Nat → Int32) (T c : Nat) : Bool := decide (¬ A (T + 8) c = 0 ∧ A (T + 3) c = 0 ∧ ¬ A (T + 5) c = 3)
def plt (L : Nat → Nat → Int64) (T c e : Nat) : Bool := decide (L (T + 1) c < L (T + 1) e)
theorem enc_s {Q : Prop} [Decidable Q] {A : Bool} {L : Nat → Nat → Int64} {T i : Nat} {b : Option Nat} (hb : ∀ j, b = some j → j < 2147483648) (hQ : A = true ↔ Q) : (if Q ∧ (enc (-1) b = -1 ∨ L (T + 1) i < L (T + 1) (enc (-1) b).toNatClampNeg) then nI i else enc (-1) b) = enc (-1) (if A = true then btr (plt L T) i b else b) := by
  by_cases h : Q
  · rw [if_pos (hQ.mpr h)]
    cases b with
    | none => rw [if_pos ⟨h, Or.inl rfl⟩]; rfl
    | some j =>
      have hj := hb j rfl
      rw [btr_s]
      show (if Q ∧ (nI j = -1 ∨ L (T + 1) i < L (T + 1) (nI j).toNatClampNeg) then nI i else nI j) = _
      rw [t_cl hj]
      by_cases hl : L (T + 1) i < L (T + 1) j
      · rw [if_pos ⟨h, Or.inr hl⟩, if_pos (show plt L T i j = true from decide_eq_true hl)]; rfl
      · rw [if_neg (fun q => q.2.elim (t_m1 hj) hl), if_neg (show ¬ plt L T i j = true from by unfold plt; rw [decide_eq_true_iff]; exact hl)]; rfl
  · rw [if_neg (fun q => h q.1), if_neg (fun q => h (hQ.mp q))]
theorem nxt_b {P : Bool} {lt : Nat → Nat → Bool} {i : Nat} {b : Option Nat} (hi : i < 2147483648) (hb : ∀ j, b = some j → j < 2147483648) : ∀ j, (if P = true then btr lt i b else b) = some j → j < 2147483648 := fun j hj => by
  by_cases hp : P = true
  · rw [if_pos hp] at hj
    rcases btr_o lt i b with q | q
    · rw [q] at hj; cases hj; exact hi
    · rw [q.1] at hj; exact hb j hj
  · rw [if_neg hp] at hj; exact hb j hj
theorem nfr_e {A : Nat → Nat → Int32} {L : Nat → Nat → Int64} {T : Nat} : ∀ (k i : Nat) (b : Option Nat), i + k < 2147483648 → (∀ j, b = some j → j < 2147483648) → nfr A L T k i (enc (-1) b) = enc (-1) (amin (pfr A T) (plt L T) (List.range' i k) b)
  | 0, _, _, _, _ => rfl
  | k + 1, i, b, hi, hb => by
    rw [nfr, enc_s (A := pfr A T i) hb (by unfold pfr; rw [decide_eq_true_iff]), List.range'_succ, amin]
    exact nfr_e k (i + 1) _ (by omega) (nxt_b (by omega) hb)
theorem nwk_e {A : Nat → Nat → Int32} {L : Nat → Nat → Int64} {T : Nat} : ∀ (k i : Nat) (b : Option Nat), i + k < 2147483648 → (∀ j, b = some j → j < 2147483648) → nwk A L T k i (enc (-1) b) = enc (-1) (amin (pwk A T) (plt L T) (List.range' i k) b)
  | 0, _, _, _, _ => rfl
  | k + 1, i, b, hi, hb => by
    rw [nwk, enc_s (A := pwk A T i) hb (by unfold pwk; rw [decide_eq_true_iff]), List.range'_succ, amin]
    exact nwk_e k (i + 1) _ (by omega) (nxt_b (by omega) hb)
/-- the reference's -/
def qfr (R : Nat → Nat → Int32) (n : Nat) : Bool := decide (R 343 n = -9)
def qwk (R : Nat → Nat → Int32) (n : Nat) : Bool := decide (R 345 n = 0 ∧ (R 342 n = -9 ∨ ¬ R 345 (R 342 n).toNatClampNeg = 0))
def qlt (R : Nat → Nat → Int32) (n m : Nat) : Bool := decide (R 341 n < R 341 m ∨ (R 341 n = R 341 m ∧ R 340 n < R 340 m))
theorem r_isAhead {R : Nat → Nat → Int32} {n m : Nat} (hn : n < 2000) (hm : m < 2000) : f_X7_isAhead R (nI n) (nI m) = some (if qlt R n m = true then 1 else 0) := by
  simp (disch := omega) only [f_X7_isAhead, gd_in, t_cl]
  unfold qlt
  by_cases h1 : R 341 n < R 341 m
  · rw [if_pos h1, if_pos (decide_eq_true (Or.inl h1))]
  · rw [if_neg h1]
    by_cases h2 : R 341 n = R 341 m
    · rw [if_pos h2]
      by_cases h3 : R 340 n < R 340 m
      · rw [if_pos h3, if_pos (decide_eq_true (Or.inr ⟨h2, h3⟩))]
      · rw [if_neg h3, if_neg (fun q => (of_decide_eq_true q).elim h1 (fun q => h3 q.2))]
    · rw [if_neg h2, if_neg (fun q => (of_decide_eq_true q).elim h1 (fun q => h2 q.1))]
theorem nxt_b2 {P : Bool} {lt : Nat → Nat → Bool} {i N : Nat} {b : Option Nat} (hi : i < N) (hb : ∀ j, b = some j → j < N) : ∀ j, (if P = true then btr lt i b else b) = some j → j < N := fun j hj => by
  by_cases hp : P = true
  · rw [if_pos hp] at hj
    rcases btr_o lt i b with q | q
    · rw [q] at hj; cases hj; exact hi
    · rw [q.1] at hj; exact hb j hj
  · rw [if_neg hp] at hj; exact hb j hj
theorem r_next_L {J R : Nat → Nat → Int32} {nn : Nat} {k4 : Int32 → Option Int32} (hn : nn ≤ 2000) (en : J 318 29 = nI nn) (ha : ∀ n, n < nn → R 342 n = -9 ∨ ∃ a, a < 2000 ∧ R 342 n = nI a) : ∀ (k i fu : Nat) (b : Option Nat), i + k = nn → k < fu → (∀ j, b = some j → j < 2000) → f_X7_nextOf_L5 J R k4 fu (nI i) (enc (-9) b) = k4 (enc (-9) (amin (qwk R) (qlt R) (List.range' i k) b)) := by
  intro k
  induction k with
  | zero =>
    intro i fu b hi hf hb
    obtain ⟨fu, rfl⟩ : ∃ z, fu = z + 1 := ⟨fu - 1, by omega⟩
    rw [f_X7_nextOf_L5, en, if_neg (nI_nlt (by omega) (by omega))]
    rfl
  | succ k ih =>
    intro i fu b hi hf hb
    obtain ⟨fu, rfl⟩ : ∃ z, fu = z + 1 := ⟨fu - 1, by omega⟩
    rw [f_X7_nextOf_L5, en, if_pos (nI_lt (by omega) (by omega)), gd_in (by omega) (by omega), t_cl (by omega), nI_1, List.range'_succ, amin]
    -- the join
    have hj : ∀ z : Int32, (z = 0 ∨ z = 1) → (z = 1 ↔ qwk R i = true) → (if z = 0 then (f_X7_nextOf_L5 J R k4 fu (nI (i + 1)) (enc (-9) b)) else (if enc (-9) b = (-9) then (f_X7_nextOf_L5 J R k4 fu (nI (i + 1)) (nI i)) else (Option.bind (f_X7_isAhead R (nI i) (enc (-9) b)) fun r15 => if r15 = 0 then (f_X7_nextOf_L5 J R k4 fu (nI (i + 1)) (enc (-9) b)) else (f_X7_nextOf_L5 J R k4 fu (nI (i + 1)) (nI i))))) = k4 (enc (-9) (amin (qwk R) (qlt R) (List.range' (i + 1) k) (if qwk R i = true then btr (qlt R) i b else b))) := fun z hz hq => by
      rcases hz with rfl | rfl
      · rw [if_pos rfl, if_neg (fun q => z01 (hq.mpr q))]
        exact ih (i + 1) fu b (by omega) (by omega) hb
      · rw [if_neg z10, if_pos (hq.mp rfl)]
        cases b with
        | none =>
          rw [if_pos (show enc (-9) none = -9 from rfl)]
          exact ih (i + 1) fu (some i) (by omega) (by omega) (fun j hj => by cases hj; omega)
        | some j =>
          have hj := hb j rfl
          show (if nI j = (-9) then _ else _) = _
          rw [if_neg (t_m9 (by omega))]
          show (Option.bind (f_X7_isAhead R (nI i) (nI j)) _) = _
          rw [r_isAhead (by omega) hj, Option.bind_some]
          rw [btr_s]
          by_cases hl : qlt R i j = true
          · rw [if_pos hl, if_neg z10, if_pos hl]
            exact ih (i + 1) fu (some i) (by omega) (by omega) (fun j hj => by cases hj; omega)
          · rw [if_neg hl, if_pos rfl, if_neg hl]
            exact ih (i + 1) fu (some j) (by omega) (by omega) hb
    simp only [bd]
    unfold qwk at hj ⊢
    by_cases h1 : R 345 i = 0
    · rw [if_pos h1]
      by_cases h2 : R 342 i = -9
      · rw [if_pos h2]
        exact hj 1 (Or.inr rfl) ⟨fun _ => decide_eq_true ⟨h1, Or.inl h2⟩, fun _ => rfl⟩
      · obtain ⟨a, ha1, ha2⟩ := (ha i (by omega)).resolve_left h2
        rw [if_neg h2, ha2, gd_in ha1 (by omega), t_cl (by omega)]
        rw [ha2, t_cl (by omega)] at hj
        by_cases h3 : R 345 a = 0
        · rw [if_pos h3]
          exact hj 0 (Or.inl rfl) ⟨fun q => absurd q z01, fun q => absurd (of_decide_eq_true q).2 (fun q => q.elim (t_m9 (by omega)) (fun q => q h3))⟩
        · rw [if_neg h3]
          exact hj 1 (Or.inr rfl) ⟨fun _ => decide_eq_true ⟨h1, Or.inr h3⟩, fun _ => rfl⟩
    · rw [if_neg h1]
      exact hj 0 (Or.inl rfl) ⟨fun q => absurd q z01, fun q => absurd (of_decide_eq_true q).1 h1⟩
theorem r_nextOf {J R : Nat → Nat → Int32} {nn : Nat} (hn : nn ≤ 2000) (en : J 318 29 = nI nn) (ha : ∀ n, n < nn → R 342 n = -9 ∨ ∃ a, a < 2000 ∧ R 342 n = nI a) : f_X7_nextOf J R = some (enc (-9) (amin (qwk R) (qlt R) (List.range' 0 nn) none)) := by
  simp only [f_X7_nextOf, bd]
  exact r_next_L hn en ha nn 0 FU none (by omega) (t_fu _ (by omega)) (fun j hj => by cases hj)
theorem r_free_L {J R : Nat → Nat → Int32} {nn : Nat} {a2 : Int32} {k21 : Int32 → Option ((Nat → Nat → Int32) × (Nat → Nat → Int32))} (hn : nn ≤ 2000) (en : J 318 29 = nI nn) : ∀ (k i fu : Nat) (b : Option Nat), i + k = nn → k < fu → (∀ j, b = some j → j < 2000) → f_X7_turnOf_L17 a2 J R k21 fu (nI i) (enc (-9) b) = k21 (enc (-9) (amin (qfr R) (qlt R) (List.range' i k) b)) := by
  intro k
  induction k with
  | zero =>
    intro i fu b hi hf hb
    obtain ⟨fu, rfl⟩ : ∃ z, fu = z + 1 := ⟨fu - 1, by omega⟩
    rw [f_X7_turnOf_L17, en, if_neg (nI_nlt (by omega) (by omega))]
    rfl
  | succ k ih =>
    intro i fu b hi hf hb
    obtain ⟨fu, rfl⟩ : ∃ z, fu = z + 1 := ⟨fu - 1, by omega⟩
    rw [f_X7_turnOf_L17, en, if_pos (nI_lt (by omega) (by omega)), gd_in (by omega) (by omega), t_cl (by omega), nI_1, List.range'_succ, amin]
    by_cases h1 : R 343 i = -9
    · rw [if_pos h1, if_pos (show qfr R i = true from decide_eq_true h1)]
      cases b with
      | none =>
        rw [if_pos (show enc (-9) none = -9 from rfl)]
        exact ih (i + 1) fu (some i) (by omega) (by omega) (fun j hj => by cases hj; omega)
      | some j =>
        have hj := hb j rfl
        show (if nI j = (-9) then _ else _) = _
        rw [if_neg (t_m9 (by omega))]
        show (Option.bind (f_X7_isAhead R (nI i) (nI j)) _) = _
        rw [r_isAhead (by omega) hj, Option.bind_some]
        rw [btr_s]
        by_cases hl : qlt R i j = true
        · rw [if_pos hl, if_neg z10, if_pos hl]
          exact ih (i + 1) fu (some i) (by omega) (by omega) (fun j hj => by cases hj; omega)
        · rw [if_neg hl, if_pos rfl, if_neg hl]
          exact ih (i + 1) fu (some j) (by omega) (by omega) hb
    · rw [if_neg h1, if_neg (show ¬ qfr R i = true from fun q => h1 (of_decide_eq_true q))]
      exact ih (i + 1) fu b (by omega) (by omega) hb

/-! part 66.tree -/
/-! THE TIE: trees. The reference keeps the OPEN nodes alone, in the class's order: node n of it is node (fi n) of the class -/
def os (A : Nat → Nat → Int32) (T kn : Nat) : List Nat := (List.range kn).filter (fun c => decide (A (T + 3) c = 0))
def fi (A : Nat → Nat → Int32) (T kn n : Nat) : Nat := (os A T kn).getD n 0
theorem os_mem {A : Nat → Nat → Int32} {T kn c : Nat} : c ∈ os A T kn ↔ c < kn ∧ A (T + 3) c = 0 := by
  unfold os
  rw [List.mem_filter, List.mem_range, decide_eq_true_iff]
theorem fi_get {A : Nat → Nat → Int32} {T kn n : Nat} (h : n < (os A T kn).length) : fi A T kn n = (os A T kn)[n] := by
  unfold fi
  rw [List.getD_eq_getElem?_getD, List.getElem?_eq_getElem h]
  rfl
theorem fi_mem {A : Nat → Nat → Int32} {T kn n : Nat} (h : n < (os A T kn).length) : fi A T kn n < kn ∧ A (T + 3) (fi A T kn n) = 0 := by
  rw [fi_get h]
  exact os_mem.mp (List.getElem_mem h)
theorem os_pw (A : Nat → Nat → Int32) (T kn : Nat) : (os A T kn).Pairwise (· < ·) := by
  unfold os
  exact List.Pairwise.filter _ List.pairwise_lt_range
theorem fi_lt {A : Nat → Nat → Int32} {T kn n m : Nat} (hm : m < (os A T kn).length) (h : n < m) : fi A T kn n < fi A T kn m := by
  rw [fi_get hm, fi_get (Nat.lt_trans h hm)]
  exact List.pairwise_iff_getElem.mp (os_pw A T kn) n m (Nat.lt_trans h hm) hm h
theorem fi_inj {A : Nat → Nat → Int32} {T kn n m : Nat} (hn : n < (os A T kn).length) (hm : m < (os A T kn).length) (h : fi A T kn n = fi A T kn m) : n = m := by
  rcases Nat.lt_trichotomy n m with q | q | q
  · have := fi_lt hm q; omega
  · exact q
  · have := fi_lt hn q; omega
theorem fi_sur {A : Nat → Nat → Int32} {T kn c : Nat} (hc : c < kn) (h : A (T + 3) c = 0) : ∃ n, n < (os A T kn).length ∧ fi A T kn n = c := by
  obtain ⟨n, hn, e⟩ := List.getElem_of_mem (os_mem.mpr ⟨hc, h⟩)
  exact ⟨n, hn, (fi_get hn).trans e⟩
theorem os_c {A A' : Nat → Nat → Int32} {T kn : Nat} (h : ∀ c, c < kn → A' (T + 3) c = A (T + 3) c) : os A' T kn = os A T kn := by
  unfold os
  apply List.filter_congr
  intro c hc
  rw [h c (List.mem_range.mp hc)]
theorem os_s (A : Nat → Nat → Int32) (T kn : Nat) : os A T (kn + 1) = os A T kn ++ (if A (T + 3) kn = 0 then [kn] else []) := by
  unfold os
  rw [List.range_succ, List.filter_append]
  by_cases h : A (T + 3) kn = 0
  · rw [if_pos h]; simp [h]
  · rw [if_neg h]; simp [h]
theorem os_le (A : Nat → Nat → Int32) (T kn : Nat) : (os A T kn).length ≤ kn := by
  have := List.length_filter_le (fun c => decide (A (T + 3) c = 0)) (List.range kn)
  rwa [List.length_range] at this
theorem os_map (A : Nat → Nat → Int32) (T kn : Nat) : (List.range' 0 (os A T kn).length).map (fi A T kn) = os A T kn := by
  apply List.ext_getElem
  · simp
  · intro i h1 h2
    rw [List.getElem_map, List.getElem_range']
    rw [fi_get (by simpa using h2)]
    simp
/-- a node's depth and values, as the reference has them -/
def dn (R : Nat → Nat → Int32) (n : Nat) : Nat := (R 338 n).toNatClampNeg
def wn (R : Nat → Nat → Int32) (n i : Nat) : Nat := (R 339 (6 * n + i)).toNatClampNeg
def TNs (A : Nat → Nat → Int32) (L : Nat → Nat → Int64) (R : Nat → Nat → Int32) (T B nv n c : Nat) : Prop := dn R n ≤ nv ∧ R 338 n = nI (dn R n) ∧ A (T + 2) c = nI (dn R n) ∧ (∀ i, i < dn R n → R 339 (6 * n + i) = nI (wn R n i) ∧ wn R n i < szo A B i ∧ szo A B i ≤ 6) ∧ (∀ i, dn R n ≤ i → i < 6 → R 339 (6 * n + i) = -9) ∧ L (T + 1) c = plc (R 341 n) (lN (e8 (wn R n) (dn R n))) ∧ R 340 n = nI (e7 (wn R n) (dn R n))
/-- free, held, done, taken -/
def stg (R : Nat → Nat → Int32) (n : Nat) : Int32 := if R 345 n = 0 then (if R 344 n = 0 then (if R 343 n = -9 then 0 else 1) else 2) else 3
def TNd (A R : Nat → Nat → Int32) (T : Nat) (sv : Prop) (n c : Nat) : Prop := A (T + 5) c = stg R n ∧ (R 344 n = 0 ∨ R 344 n = 1) ∧ (R 345 n = 0 ∨ R 345 n = 1) ∧ (R 345 n = 1 → R 344 n = 1) ∧ (sv → (R 343 n = -9 ∨ ∃ h, h < 5 ∧ R 343 n = nI h) ∧ (R 344 n = 1 → R 343 n ≠ -9 ∧ A (T + 6) c = R 343 n))
/-- reached: the node above it is taken -/
def TNr (A R : Nat → Nat → Int32) (T : Nat) (tk : Nat → Prop) (n c : Nat) : Prop := (R 342 n = -9 ∧ A (T + 8) c = 1) ∨ ∃ a, a < n ∧ R 342 n = nI a ∧ ((tk a ∧ A (T + 8) c = 1) ∨ (¬ tk a ∧ A (T + 8) c = 0))
/-- what is below it: fb n = some (f, k): the k nodes of the class from f on -/
def TNc (A R : Nat → Nat → Int32) (T kn nn : Nat) (fb : Nat → Option (Nat × Nat)) (n c : Nat) : Prop := (fb n = none ∧ A (T + 7) c = -1 ∧ R 349 n = 0 ∧ ∀ m, m < nn → R 342 m ≠ nI n) ∨ ∃ f k, fb n = some (f, k) ∧ A (T + 7) c = nI f ∧ k ≤ 6 ∧ f + k ≤ kn ∧ (∀ y, y < k → A (T + 3) (f + y) = R 347 (6 * n + y) ∧ A (T + 4) (f + y) = R 348 (6 * n + y)) ∧ R 349 n = sm (fun y => if A (T + 3) (f + y) = 0 then 1 else 0) k 0 0 ∧ ∀ m, m < nn → (R 342 m = nI n ↔ f ≤ fi A T kn m ∧ fi A T kn m < f + k)
/-- the trees; ex: the node that is being opened -/
def TT (I A : Nat → Nat → Int32) (L : Nat → Nat → Int64) (J R : Nat → Nat → Int32) (T B nv kn nn : Nat) (sv : Prop) (fb : Nat → Option (Nat × Nat)) (tk ex : Nat → Prop) : Prop := (os A T kn).length = nn ∧ I T 9 = nI kn ∧ J 318 29 = nI nn ∧ kn ≤ lT T ∧ nv ≤ 6 ∧ ∀ n, n < nn → TNs A L R T B nv n (fi A T kn n) ∧ (¬ ex n → TNd A R T sv n (fi A T kn n)) ∧ TNr A R T tk n (fi A T kn n) ∧ TNc A R T kn nn fb n (fi A T kn n)
section TR
variable {I A : Nat → Nat → Int32} {L : Nat → Nat → Int64} {J R : Nat → Nat → Int32} {T B nv kn nn : Nat} {sv : Prop} {fb : Nat → Option (Nat × Nat)} {tk ex : Nat → Prop}
theorem ns_6 {n c : Nat} (h : TNs A L R T B nv n c) : ∀ i, i < dn R n → wn R n i < 6 := fun i hi => by
  have := h.2.2.2.1 i hi; omega
theorem tt_nn (hT : TrAt T) (h : TT I A L J R T B nv kn nn sv fb tk ex) : nn ≤ kn ∧ nn ≤ 1711 := by
  have h1 := os_le A T kn
  have h2 := (tr_l hT).2.2.2.2.2.2.2.2.2.2.2
  have h3 := h.1
  have h4 := h.2.2.2.1
  omega
theorem tt_lt {n m : Nat} (h : TT I A L J R T B nv kn nn sv fb tk ex) (hn : n < nn) (hm : m < nn) : plt L T (fi A T kn n) (fi A T kn m) = qlt R n m := by
  have a := (h.2.2.2.2.2 n hn).1
  have b := (h.2.2.2.2.2 m hm).1
  unfold plt qlt
  rw [a.2.2.2.2.2.1, b.2.2.2.2.2.1, a.2.2.2.2.2.2, b.2.2.2.2.2.2]
  have e := e87 (ns_6 a) (ns_6 b)
  have l1 := e7_lt (ns_6 a)
  have l2 := e7_lt (ns_6 b)
  apply decide_eq_decide.mpr
  rw [plc_lt _ _ (e8_lt (ns_6 a)) (e8_lt (ns_6 b)), e.1, t_lt (by omega) (by omega)]
theorem tt_scan {P Q : Nat → Bool} (h : TT I A L J R T B nv kn nn sv fb tk ex) (hP : ∀ c, P c = true → A (T + 3) c = 0) (hPQ : ∀ n, n < nn → P (fi A T kn n) = Q n) : amin P (plt L T) (List.range' 0 kn) none = (amin Q (qlt R) (List.range' 0 nn) none).map (fi A T kn) := by
  rw [← List.range_eq_range', ← amin_f (Q := fun c => decide (A (T + 3) c = 0)) (fun c hc => decide_eq_true (hP c hc))]
  have e : (List.range kn).filter (fun c => decide (A (T + 3) c = 0)) = (List.range' 0 nn).map (fi A T kn) := by
    rw [← h.1]; exact (os_map A T kn).symm
  rw [e]
  have m := amin_m (P := P) (lt := plt L T) (φ := fi A T kn) (List.range' 0 nn) none
  refine (show _ = _ from m).trans ?_
  congr 1
  refine amin_c (fun n => n < nn) (fun n hn => hPQ n hn) (fun n m hn hm => tt_lt h hn hm) _ _ (fun n hn => ?_) (fun n hn => by cases hn)
  have := List.mem_range'_1.mp hn
  omega
/-- the next of the walk, on both sides -/
def nxw (R : Nat → Nat → Int32) (nn : Nat) : Option Nat := amin (qwk R) (qlt R) (List.range' 0 nn) none
def nxf (R : Nat → Nat → Int32) (nn : Nat) : Option Nat := amin (qfr R) (qlt R) (List.range' 0 nn) none
theorem tt_ab (h : TT I A L J R T B nv kn nn sv fb tk ex) (hT : TrAt T) : ∀ n, n < nn → R 342 n = -9 ∨ ∃ a, a < 2000 ∧ R 342 n = nI a := fun n hn => by
  have := (tt_nn hT h).2
  rcases (h.2.2.2.2.2 n hn).2.2.1 with ⟨q, _⟩ | ⟨a, ha, q, _⟩
  · exact Or.inl q
  · exact Or.inr ⟨a, by omega, q⟩
theorem st_3 {n : Nat} (h0 : R 345 n = 0 ∨ R 345 n = 1) : stg R n = 3 ↔ ¬ R 345 n = 0 := by
  unfold stg
  rcases h0 with q | q <;> rw [q]
  · simp only [if_true]
    constructor
    · intro h
      exfalso
      revert h
      split
      · split <;> decide
      · decide
    · intro h; exact absurd trivial h
  · simp only [z10, if_false, not_false_eq_true]
theorem tt_pw (h : TT I A L J R T B nv kn nn sv fb (fun a => ¬ R 345 a = 0) (fun _ => False)) (hT : TrAt T) {n : Nat} (hn : n < nn) : pwk A T (fi A T kn n) = qwk R n := by
  have hnn := (tt_nn hT h).2
  obtain ⟨a, b, c, d⟩ := h.2.2.2.2.2 n hn
  have b := b (fun q => q)
  have w := (fi_mem (A := A) (T := T) (kn := kn) (n := n) (by rw [h.1]; exact hn)).2
  unfold pwk qwk
  apply decide_eq_decide.mpr
  rw [b.1, st_3 b.2.2.1, Classical.not_not]
  constructor
  · rintro ⟨h1, _, h3⟩
    refine ⟨h3, ?_⟩
    rcases c with ⟨q, _⟩ | ⟨x, hx, q, ⟨r, _⟩ | ⟨_, r⟩⟩
    · exact Or.inl q
    · right; rw [q, t_cl (by omega)]; exact r
    · exact absurd r h1
  · rintro ⟨h1, h2⟩
    refine ⟨?_, w, h1⟩
    rcases c with ⟨_, q⟩ | ⟨x, hx, q, ⟨_, r⟩ | ⟨r, _⟩⟩
    · rw [q]; exact z10
    · rw [r]; exact z10
    · rcases h2 with h2 | h2
      · rw [q] at h2; exact absurd h2 (t_m9 (by omega))
      · rw [q, t_cl (by omega)] at h2; exact absurd h2 r
theorem tt_pf (h : TT I A L J R T B nv kn nn sv fb tk (fun _ => False)) (hs : sv) {n : Nat} (hn : n < nn) : pfr A T (fi A T kn n) = qfr R n := by
  obtain ⟨a, b, c, d⟩ := h.2.2.2.2.2 n hn
  have b := b (fun q => q)
  have w := (fi_mem (A := A) (T := T) (kn := kn) (n := n) (by rw [h.1]; exact hn)).2
  unfold pfr qfr
  apply decide_eq_decide.mpr
  rw [b.1]
  obtain ⟨s1, s2⟩ := b.2.2.2.2 hs
  unfold stg
  constructor
  · rintro ⟨_, q⟩
    revert q
    split
    · split
      · split
        · exact fun _ => by assumption
        · intro q; exact absurd q (by decide)
      · intro q; exact absurd q (by decide)
    · intro q; exact absurd q (by decide)
  · intro q
    refine ⟨w, ?_⟩
    have d0 : R 344 n = 0 := b.2.1.resolve_right (fun r => (s2 r).1 q)
    have t0 : R 345 n = 0 := b.2.2.1.resolve_right (fun r => by have := b.2.2.2.1 r; rw [d0] at this; exact absurd this z01)
    rw [t0, d0, q, if_pos rfl, if_pos rfl, if_pos rfl]
theorem t_nxw (h : TT I A L J R T B nv kn nn sv fb (fun a => ¬ R 345 a = 0) (fun _ => False)) (hT : TrAt T) : f_X5_nextOfWalk I A L T = some (enc (-1) ((nxw R nn).map (fi A T kn))) ∧ f_X7_nextOf J R = some (enc (-9) (nxw R nn)) := by
  have hnn := tt_nn hT h
  have hkn := h.2.2.2.1
  have hl := (tr_l hT).2.2.2.2.2.2.2.2.2.2.2
  constructor
  · unfold f_X5_nextOfWalk
    have ek : (I T 9).toNatClampNeg = kn := by rw [h.2.1]; exact t_cl (by omega)
    rw [gd_t ⟨hT, by rw [ek]; exact hkn, by rw [ek]; exact h.2.1⟩, ek]
    have e := nwk_e (A := A) (L := L) (T := T) kn 0 none (by omega) (fun j hj => by cases hj)
    rw [tt_scan h (fun c hc => (of_decide_eq_true hc).2.1) (fun n hn => tt_pw h hT hn)] at e
    exact congrArg some e
  · exact r_nextOf (by omega) h.2.2.1 (tt_ab h hT)
theorem t_nxf (h : TT I A L J R T B nv kn nn sv fb tk (fun _ => False)) (hs : sv) (hT : TrAt T) : f_X5_nextFree I A L T = some (enc (-1) ((nxf R nn).map (fi A T kn))) := by
  have hnn := tt_nn hT h
  have hkn := h.2.2.2.1
  have hl := (tr_l hT).2.2.2.2.2.2.2.2.2.2.2
  unfold f_X5_nextFree
  have ek : (I T 9).toNatClampNeg = kn := by rw [h.2.1]; exact t_cl (by omega)
  rw [gd_t ⟨hT, by rw [ek]; exact hkn, by rw [ek]; exact h.2.1⟩, ek]
  have e := nfr_e (A := A) (L := L) (T := T) kn 0 none (by omega) (fun j hj => by cases hj)
  rw [tt_scan h (fun c hc => (of_decide_eq_true hc).1) (fun n hn => tt_pf h hs hn)] at e
  exact congrArg some e
theorem nxw_o {n : Nat} (h : nxw R nn = some n) : n < nn ∧ R 345 n = 0 ∧ (R 342 n = -9 ∨ ¬ R 345 (R 342 n).toNatClampNeg = 0) := by
  rcases amin_o _ _ _ h with q | ⟨q1, q2⟩
  · cases q
  · have := List.mem_range'_1.mp q1
    have q3 := of_decide_eq_true q2
    exact ⟨by omega, q3.1, q3.2⟩
theorem nxf_o {n : Nat} (h : nxf R nn = some n) : n < nn ∧ R 343 n = -9 := by
  rcases amin_o _ _ _ h with q | ⟨q1, q2⟩
  · cases q
  · have := List.mem_range'_1.mp q1
    exact ⟨by omega, of_decide_eq_true q2⟩
end TR

/-! part 67.add -/
/-! THE TIE: a node comes to the trees -/
theorem nb_nI : ∀ m, m < 100 → vp_nar .byte (nI m).toInt8.toInt32 = nI m := by decide +kernel
theorem nb_9 : vp_nar .byte (-9 : Int32).toInt8.toInt32 = -9 := by decide +kernel
theorem nb_m9 : vp_nar .byte (-9) = -9 := by decide +kernel
theorem nb_0 : vp_nar .byte 0 = 0 := by decide +kernel
theorem nb_1 : vp_nar .byte 1 = 1 := by decide +kernel
theorem nb_2 : vp_nar .byte 2 = 2 := by decide +kernel
theorem nb_3 : vp_nar .byte 3 = 3 := by decide +kernel
theorem ns_m1 : vp_nar .short (-1) = -1 := by decide +kernel
theorem ns_nI : ∀ m, m < 2000 → vp_nar .short (nI m).toInt16.toInt32 = nI m := by decide +kernel
theorem nz_0 : vp_nar .boolean 0 = 0 := by decide +kernel
theorem nz_1 : vp_nar .boolean 1 = 1 := by decide +kernel
theorem tgd {T : Nat} (hT : TrAt T) : (T < 318 ∧ kd T = 5) ∧ (T + 1 < 318 ∧ kd (T + 1) = 12) ∧ (T + 2 < 318 ∧ kd (T + 2) = 9) ∧ (T + 3 < 318 ∧ kd (T + 3) = 9) ∧ (T + 4 < 318 ∧ kd (T + 4) = 9) ∧ (T + 5 < 318 ∧ kd (T + 5) = 9) ∧ (T + 6 < 318 ∧ kd (T + 6) = 9) ∧ (T + 7 < 318 ∧ kd (T + 7) = 10) ∧ (T + 8 < 318 ∧ kd (T + 8) = 11) ∧ (T + 9 < 318 ∧ kd (T + 9) = 8) ∧ (T + 10 < 318 ∧ kd (T + 10) = 8) ∧ (T + 11 < 318 ∧ kd (T + 11) = 0) := by
  obtain ⟨h, h0, h1, h2, h3, h4, h5, h6, h7, h8, h9, h10, h11⟩ := tr_o hT
  exact ⟨⟨by omega, h0⟩, ⟨by omega, h1⟩, ⟨by omega, h2⟩, ⟨by omega, h3⟩, ⟨by omega, h4⟩, ⟨by omega, h5⟩, ⟨by omega, h6⟩, ⟨by omega, h7⟩, ⟨by omega, h8⟩, ⟨by omega, h9⟩, ⟨by omega, h10⟩, ⟨by omega, h11⟩⟩
theorem ti {T k : Nat} (hT : TrAt T) (hk : k < lT T) : inr (nI k) (ln (T + 1)) ∧ inr (nI k) (ln (T + 2)) ∧ inr (nI k) (ln (T + 3)) ∧ inr (nI k) (ln (T + 4)) ∧ inr (nI k) (ln (T + 5)) ∧ inr (nI k) (ln (T + 6)) ∧ inr (nI k) (ln (T + 7)) ∧ inr (nI k) (ln (T + 8)) := by
  obtain ⟨h1, h2, h3, h4, h5, h6, h7, h8, _, _, _, hl⟩ := tr_l hT
  rw [h1, h2, h3, h4, h5, h6, h7, h8]
  have := t_in hk (show lT T < 2147483648 by omega)
  exact ⟨this, this, this, this, this, this, this, this⟩
theorem t_add {I A : Nat → Nat → Int32} {L : Nat → Nat → Int64} {T kn dp : Nat} {row : Int64} (hT : TrAt T) (hk : I T 9 = nI kn) (hkn : kn < lT T) (hd : dp < 100) (hw : ∃ x, x < 100 ∧ I (T + 11) 0 = nI x) (hy : I (T + 11) 1 = -9 ∨ ∃ x, x < 100 ∧ I (T + 11) 1 = nI x) : ∃ A', f_X5_addJudged I A L T (nI dp) row = some (up2 I T 9 (nI (kn + 1)), A', up2 L (T + 1) kn (plc (I (T + 11) 2) row)) ∧ (∀ j m, ¬ (T + 2 ≤ j ∧ j ≤ T + 8 ∧ m = kn) → A' j m = A j m) ∧ A' (T + 2) kn = nI dp ∧ A' (T + 3) kn = I (T + 11) 0 ∧ A' (T + 4) kn = I (T + 11) 1 ∧ A' (T + 5) kn = 0 ∧ A' (T + 6) kn = -9 ∧ A' (T + 7) kn = -1 ∧ A' (T + 8) kn = 0 := by
  obtain ⟨g0, g1, g2, g3, g4, g5, g6, g7, g8, g9, g10, g11⟩ := tgd hT
  obtain ⟨i1, i2, i3, i4, i5, i6, i7, i8⟩ := ti hT hkn
  have hl := (tr_l hT).2.2.2.2.2.2.2.2.2.2.2
  obtain ⟨x, hx, ex⟩ := hw
  have e4 : vp_nar .byte (I (T + 11) 1).toInt8.toInt32 = I (T + 11) 1 := by
    rcases hy with q | ⟨y, hy, q⟩
    · rw [q]; exact nb_9
    · rw [q]; exact nb_nI y hy
  have e3 : vp_nar .byte (I (T + 11) 0).toInt8.toInt32 = I (T + 11) 0 := by rw [ex]; exact nb_nI x hx
  refine ⟨up2 (up2 (up2 (up2 (up2 (up2 (up2 A (T + 2) kn (nI dp)) (T + 3) kn (I (T + 11) 0)) (T + 4) kn (I (T + 11) 1)) (T + 5) kn 0) (T + 6) kn (-9)) (T + 7) kn (-1)) (T + 8) kn 0, ?_, ?_, ?_, ?_, ?_, ?_, ?_, ?_, ?_⟩
  · simp only [f_X5_addJudged, bd, hk, t_cl (show kn < 2147483648 by omega), gd_t g0, gd_t g1, gd_t g2, gd_t g3, gd_t g4, gd_t g5, gd_t g6, gd_t g7, gd_t g8, gd_t g11, gd_t i1, gd_t i2, gd_t i3, gd_t i4, gd_t i5, gd_t i6, gd_t i7, gd_t i8, nb_nI dp hd, e3, e4, nb_0, nb_m9, ns_m1, nz_0, nI_1]
    rfl
  · intro j m hj
    have hne : ∀ o, 2 ≤ o → o ≤ 8 → ¬ (j = T + o ∧ m = kn) := fun o h1 h2 q => hj ⟨by omega, by omega, q.2⟩
    unfold up2
    rw [if_neg (hne 8 (by omega) (by omega)), if_neg (hne 7 (by omega) (by omega)), if_neg (hne 6 (by omega) (by omega)), if_neg (hne 5 (by omega) (by omega)), if_neg (hne 4 (by omega) (by omega)), if_neg (hne 3 (by omega) (by omega)), if_neg (hne 2 (by omega) (by omega))]
  · rw [up2_j (by omega), up2_j (by omega), up2_j (by omega), up2_j (by omega), up2_j (by omega), up2_j (by omega), up2_s]
  · rw [up2_j (by omega), up2_j (by omega), up2_j (by omega), up2_j (by omega), up2_j (by omega), up2_s]
  · rw [up2_j (by omega), up2_j (by omega), up2_j (by omega), up2_j (by omega), up2_s]
  · rw [up2_j (by omega), up2_j (by omega), up2_j (by omega), up2_s]
  · rw [up2_j (by omega), up2_j (by omega), up2_s]
  · rw [up2_j (by omega), up2_s]
  · rw [up2_s]
/-- the row that is written, up to i -/
def rrw (R : Nat → Nat → Int32) (nn : Nat) (w : Nat → Nat) (d i : Nat) : Nat → Nat → Int32 := fun j m => if j = 339 ∧ 6 * nn ≤ m ∧ m < 6 * nn + i then (if m - 6 * nn < d then nI (w (m - 6 * nn)) else -9) else R j m
def kk7 (w : Nat → Nat) (d : Nat) : Nat → Nat
  | 0 => 0
  | i + 1 => 7 * kk7 w d i + dg w d i
theorem rrw_s {R : Nat → Nat → Int32} {nn d i : Nat} {w : Nat → Nat} : up2 (rrw R nn w d i) 339 (6 * nn + i) (if i < d then nI (w i) else -9) = rrw R nn w d (i + 1) := by
  funext j m
  unfold up2 rrw
  by_cases h : j = 339 ∧ m = 6 * nn + i
  · rw [if_pos h, if_pos (show j = 339 ∧ 6 * nn ≤ m ∧ m < 6 * nn + (i + 1) from ⟨h.1, by omega, by omega⟩), show m - 6 * nn = i by omega]
  · rw [if_neg h]
    by_cases h2 : j = 339 ∧ 6 * nn ≤ m ∧ m < 6 * nn + i
    · rw [if_pos h2, if_pos (show j = 339 ∧ 6 * nn ≤ m ∧ m < 6 * nn + (i + 1) from ⟨h2.1, h2.2.1, by omega⟩)]
    · rw [if_neg h2, if_neg (fun q => h2 ⟨q.1, q.2.1, by
        rcases Nat.lt_or_ge m (6 * nn + i) with r | r
        · exact r
        · exact absurd ⟨q.1, by omega⟩ h⟩)]
theorem r_row_L {J R : Nat → Nat → Int32} {nn d : Nat} {w : Nat → Nat} {k15 : Int32 → Int32 → (Nat → Nat → Int32) → Option ((Nat → Nat → Int32) × (Nat → Nat → Int32))} (hn : nn < 2000) (hd : d ≤ 6) (hw : ∀ i, i < d → R 364 i = nI (w i)) : ∀ (k i fu : Nat), i + k = 6 → k < fu → f_X7_addNode_L74 (nI d) J k15 fu (nI i) (nI (kk7 w d i)) (nI nn) (rrw R nn w d i) = k15 (nI nn) (nI (kk7 w d 6)) (rrw R nn w d 6) := by
  intro k
  induction k with
  | zero =>
    intro i fu hi hf
    obtain ⟨fu, rfl⟩ : ∃ z, fu = z + 1 := ⟨fu - 1, by omega⟩
    obtain rfl : i = 6 := by omega
    rw [f_X7_addNode_L74, if_neg (by decide)]
  | succ k ih =>
    intro i fu hi hf
    obtain ⟨fu, rfl⟩ : ∃ z, fu = z + 1 := ⟨fu - 1, by omega⟩
    have ih' := ih (i + 1) fu (by omega) (by omega)
    have hs := rrw_s (R := R) (nn := nn) (d := d) (i := i) (w := w)
    rw [f_X7_addNode_L74, if_pos (show nI i < 6 from nI_lt (b := 6) (by omega) (by omega))]
    have er : ∀ j, (rrw R nn w d j) 364 i = R 364 i := fun j => by unfold rrw; rw [if_neg (fun q => by omega)]
    by_cases hid : i < d
    · rw [if_pos hid] at hs
      have e7 : 7 * nI (kk7 w d i) + nI (w i + 1) = nI (kk7 w d (i + 1)) := by
        rw [kk7, dg, if_pos hid, show (7 : Int32) = nI 7 from rfl, tI_mul, nI_add]
      simp (disch := omega) only [bd, t_lt, hid, if_true, gd_in, t_cl, er, hw i hid, m6, hs, e7, nI_1, ih']
    · rw [if_neg hid] at hs
      have e7 : 7 * nI (kk7 w d i) + 0 = nI (kk7 w d (i + 1)) := by
        rw [kk7, dg, if_neg hid, show (7 : Int32) = nI 7 from rfl, tI_mul, Int32.add_zero, Nat.add_zero]
      simp (disch := omega) only [bd, t_lt, hid, if_false, gd_in, t_cl, m6, hs, e7, nI_1, ih']
theorem kk7_6 (w : Nat → Nat) (d : Nat) : kk7 w d 6 = e7 w d := by
  simp only [kk7, e7]
  omega
theorem r_add {J R : Nat → Nat → Int32} {nn d : Nat} {w : Nat → Nat} {a2 : Int32} (en : J 318 29 = nI nn) (hn : nn < 2000) (hd : d ≤ 6) (hw : ∀ i, i < d → R 364 i = nI (w i)) : ∃ R', f_X7_addNode J R (nI d) a2 = some (up2 J 318 29 (nI (nn + 1)), R') ∧ (∀ j m, ¬ ((j = 338 ∨ j = 340 ∨ j = 341 ∨ j = 342 ∨ j = 343 ∨ j = 344 ∨ j = 345 ∨ j = 349) ∧ m = nn) → ¬ (j = 339 ∧ 6 * nn ≤ m ∧ m < 6 * nn + 6) → R' j m = R j m) ∧ R' 338 nn = nI d ∧ R' 342 nn = a2 ∧ R' 341 nn = J 318 65 ∧ R' 343 nn = -9 ∧ R' 344 nn = 0 ∧ R' 345 nn = 0 ∧ R' 349 nn = 0 ∧ R' 340 nn = nI (e7 w d) ∧ ∀ i, i < 6 → R' 339 (6 * nn + i) = if i < d then nI (w i) else -9 := by
  have e9 : ∀ F : Nat → Nat → Int32, rrw F nn w d 0 = F := fun F => by
    funext j m; unfold rrw; rw [if_neg (fun q => by omega)]
  refine ⟨up2 (rrw (up2 (up2 (up2 (up2 (up2 (up2 (up2 R 338 nn (nI d)) 342 nn a2) 341 nn (J 318 65)) 343 nn (-9)) 344 nn 0) 345 nn 0) 349 nn 0) nn w d 6) 340 nn (nI (e7 w d)), ?_, ?_, ?_, ?_, ?_, ?_, ?_, ?_, ?_, ?_, ?_⟩
  · have hL := r_row_L (J := up2 J 318 29 (nI (nn + 1))) (R := up2 (up2 (up2 (up2 (up2 (up2 (up2 R 338 nn (nI d)) 342 nn a2) 341 nn (J 318 65)) 343 nn (-9)) 344 nn 0) 345 nn 0) 349 nn 0) (k15 := fun (v16 : Int32) (v17 : Int32) (A18 : Nat → Nat → Int32) => gd (inr v16 2000) <| some (up2 J 318 29 (nI (nn + 1)), up2 A18 340 v16.toNatClampNeg v17)) hn hd (fun i hi => by rw [up2_j (by omega), up2_j (by omega), up2_j (by omega), up2_j (by omega), up2_j (by omega), up2_j (by omega), up2_j (by omega)]; exact hw i hi) 6 0 FU (by omega) (t_fu 6 (by omega))
    rw [e9] at hL
    simp (disch := omega) only [f_X7_addNode, bd, en, nI_1, gd_in, t_cl, nz_0, up2_k (show (65 : Nat) ≠ 29 by decide)]
    refine Eq.trans hL ?_
    simp (disch := omega) only [gd_in, t_cl, kk7_6]
  · intro j m h1 h2
    have hne : ∀ q, (q = 338 ∨ q = 340 ∨ q = 341 ∨ q = 342 ∨ q = 343 ∨ q = 344 ∨ q = 345 ∨ q = 349) → ¬ (j = q ∧ m = nn) := fun q hq e => h1 ⟨by rw [e.1]; exact hq, e.2⟩
    simp only [up2, rrw, if_neg (hne 340 (by omega)), if_neg h2, if_neg (hne 349 (by omega)), if_neg (hne 345 (by omega)), if_neg (hne 344 (by omega)), if_neg (hne 343 (by omega)), if_neg (hne 341 (by omega)), if_neg (hne 342 (by omega)), if_neg (hne 338 (by omega))]
  all_goals try (unfold up2 rrw; simp; done)
  · intro i hi
    rw [up2_j (by omega)]
    unfold rrw
    rw [if_pos ⟨rfl, by omega, by omega⟩, show 6 * nn + i - 6 * nn = i by omega]
/-- now becomes the row of node n -/
def nwr (R : Nat → Nat → Int32) (n i : Nat) : Nat → Nat → Int32 := fun j m => if j = 364 ∧ m < i then R 339 (6 * n + m) else R j m
theorem r_rowOf_L {R : Nat → Nat → Int32} {n : Nat} {k4 : (Nat → Nat → Int32) → Option (Nat → Nat → Int32)} (hn : n < 2000) : ∀ (k i fu : Nat), i + k = 6 → k < fu → f_X7_rowOf_L2 (nI n) k4 fu (nI i) (nwr R n i) = k4 (nwr R n 6) := by
  intro k
  induction k with
  | zero =>
    intro i fu hi hf
    obtain ⟨fu, rfl⟩ : ∃ z, fu = z + 1 := ⟨fu - 1, by omega⟩
    obtain rfl : i = 6 := by omega
    rw [f_X7_rowOf_L2, if_neg (by decide)]
  | succ k ih =>
    intro i fu hi hf
    obtain ⟨fu, rfl⟩ : ∃ z, fu = z + 1 := ⟨fu - 1, by omega⟩
    have e1 : (nwr R n i) 339 (6 * n + i) = R 339 (6 * n + i) := by unfold nwr; rw [if_neg (fun q => by omega)]
    have e2 : up2 (nwr R n i) 364 i (R 339 (6 * n + i)) = nwr R n (i + 1) := by
      funext j m
      unfold up2 nwr
      by_cases h : j = 364 ∧ m = i
      · rw [if_pos h, if_pos ⟨h.1, by omega⟩, h.2]
      · rw [if_neg h]
        by_cases h2 : j = 364 ∧ m < i
        · rw [if_pos h2, if_pos ⟨h2.1, by omega⟩]
        · rw [if_neg h2, if_neg (fun q => by
            rcases Nat.lt_or_ge m i with r | r
            · exact h2 ⟨q.1, r⟩
            · exact h ⟨q.1, by omega⟩)]
    rw [f_X7_rowOf_L2, if_pos (show nI i < 6 from nI_lt (b := 6) (by omega) (by omega))]
    simp (disch := omega) only [bd, gd_in, t_cl, m6, e1, e2, nI_1]
    exact ih (i + 1) fu (by omega) (by omega)
theorem r_rowOf {R : Nat → Nat → Int32} {n : Nat} (hn : n < 2000) : f_X7_rowOf R (nI n) = some (nwr R n 6) := by
  simp only [f_X7_rowOf, bd]
  have e : nwr R n 0 = R := by funext j m; unfold nwr; rw [if_neg (fun q => by omega)]
  have h := r_rowOf_L (R := R) (k4 := fun A5 => some A5) hn 6 0 FU (by omega) (t_fu 6 (by omega))
  rw [e] at h
  exact h
/-- what a judgement can be -/
theorem bnd_r {I A : Nat → Nat → Int32} {B v nr d : Nat} : ∀ (k i : Nat) (a : Int32), i + k ≤ 6 → ((bnd I A B v nr d k i a).1 = 0 ∧ (bnd I A B v nr d k i a).2.1 = -9) ∨ ((bnd I A B v nr d k i a).1 = 3 ∧ ∃ x, x < 6 ∧ (bnd I A B v nr d k i a).2.1 = nI x)
  | 0, _, _, _ => Or.inl ⟨rfl, rfl⟩
  | k + 1, i, a, h => by
    unfold bnd
    by_cases hc : lbd I A B v nr d i = -1000000
    · rw [if_pos hc]; exact Or.inr ⟨rfl, i, by omega, rfl⟩
    · rw [if_neg hc]; exact bnd_r k (i + 1) _ (by omega)
theorem lk_r {I A : Nat → Nat → Int32} {B v nv nr d : Nat} {mt : Int32} (hnv : nv ≤ 6) (hnr : nr ≤ 8) (hd : d ≤ 6) : ((lk I A B v nv nr d mt).1 = 0 ∧ (lk I A B v nv nr d mt).2.1 = -9) ∨ ((∃ x, 1 ≤ x ∧ x < 4 ∧ (lk I A B v nv nr d mt).1 = nI x) ∧ ∃ x, x < 100 ∧ (lk I A B v nv nr d mt).2.1 = nI x) := by
  unfold lk
  by_cases h0 : fbk I A B v nr = -9
  · rw [if_pos h0]
    by_cases h1 : mt = 0 ∨ d = 0 ∨ ftw I A B v nr (d - 1) = -9
    · rw [if_pos h1]
      rcases bnd_r (I := I) (A := A) (B := B) (v := v) (nr := nr) (d := d) nv 0 0 (by omega) with q | ⟨q1, x, q2, q3⟩
      · exact Or.inl q
      · exact Or.inr ⟨⟨3, by omega, by omega, q1⟩, x, by omega, q3⟩
    · rw [if_neg h1]
      refine Or.inr ⟨⟨2, by omega, by omega, rfl⟩, ?_⟩
      rcases fst1_o (p := ptw I A B v nr (d - 1)) (d - 1) 0 with q | ⟨x, q1, q2, q3, _⟩
      · exact absurd (Or.inr (Or.inr q)) h1
      · exact ⟨x, by omega, q3⟩
  · rw [if_neg h0]
    refine Or.inr ⟨⟨1, by omega, by omega, rfl⟩, ?_⟩
    rcases fst1_o (p := pbr I A B v) nr 0 with q | ⟨x, q1, q2, q3, _⟩
    · exact absurd q h0
    · exact ⟨x, by omega, q3⟩
