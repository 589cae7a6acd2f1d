/-! part 51.r06 -/
set_option maxHeartbeats 4000000 in
set_option maxRecDepth 100000 in
theorem e_X7_node (l : Launch) (D : va_G) (K : Nat → ClassId) (ad : Nat → Nat) (hap0 : apart ad (fun _ => True)) (a1 : Int32) (a2 : Int32) (a3 : Int32) (I : Nat → Nat → Int32) (G : Nat → Nat → Nat) (A : Nat → Nat → Int32) (L : Nat → Nat → Int64) (r0 : Int32) (I0 : Nat → Nat → Int32) (A0 : Nat → Nat → Int32) (h : f_X7_node I A a1 a2 a3 = some (r0, I0, A0)) : Ci l D K ad yX7_node wsX7_node 5 143 [.ref (ad 318), .int a1, .int a2, .int a3] (I, G, A, L) (fun (r : Int32) (u : Mem) => r = r0 ∧ u = (I0, G, A0, L)) := by
  intro sz
  refine Met.ofW (cc := cX7_node) (maxL := 6) (ret := (some .int)) (by decide) rfl ?_
  intro p e s m args below meth c s₁ Bd hml hv0
  obtain ⟨rfl, hsz, hP, hK⟩ := hv0
  have hx := Bd.exec
  have hb := Bd.bytes
  have hr := Bd.returns
  have hts := atoms_spec (ws := wsX7_node) Bd.pre
  have hown : s.vm.findClass RX7 = some m.cls := findClass_of_methodNamed Bd.named
  have hlocks := Bd.notSynchronized
  have hi7 : ∀ w ∈ u_ws RX7 TX7 79, w ∈ wsX7_node := fun w h => List.mem_cons_of_mem _ (List.mem_append_right _ h)
  subst hsz
  have hap := vF_ap hap0 s.heap.size
  have hS : va_S (vF ad s.heap.size) s.heap s.heap [] := va_S.rf
  have hP : va_P D vwCl (VW K ad I G A L) s.heap := hP
  have hl := lv_entry ([.ref (ad 318), .int a1, .int a2, .int a3]) (n := 6) (Nat.le_of_ble_eq_true rfl)
  rw [lg_entry_eq]
  generalize (lg_sl ([.ref (ad 318), .int a1, .int a2, .int a3]) ++ List.replicate (6 - (lg_sl ([.ref (ad 318), .int a1, .int a2, .int a3])).length) Slot.unset).toArray = ls at hl ⊢
  have hl : lv_has ls 6 [(0, .ref (ad 318)), (1, .int a1), (2, .int a2), (3, .int a3)] := hl
  rw [f_X7_node] at h
  refine lv_aload_n hx hb dX7_node_0 rfl (lv_at hl 0 rfl) ?_
  refine lv_iconst (v := 0) hx hb dX7_node_1 (by decide) ?_
  refine vpI (v := 0) (ty := .int) hx hb hts hi7 tyX7 tyX7_ok nmX7 hown hK hP hap hS (318) (by decide) (show kd 318 = 7 by decide) (C := RX7) (T := TX7) (N := 79) rfl 0 (by decide) (by decide) (by decide) (by decide) (hts (.fieldLink RX7 201 "CrateHelpersModel" "thrown" "I") (by decide +kernel)) (fun _ h9 => h9) rfl (by decide +kernel) rfl rfl dX7_node_2 (fun H locs hP hS => ?_)
  obtain ⟨I1, eI1, h⟩ := bd_e h
  rw [← eI1] at hP
  have hP : va_P D vwCl (VW K ad I1 G A L) H := hP
  refine lv_iload_n hx hb dX7_node_5 rfl (lv_at hl 1 rfl) ?_
  refine lv_iconst (v := 0) hx hb dX7_node_6 (by decide) ?_
  refine lv_iconst (v := 4) hx hb dX7_node_7 (by decide) ?_
  obtain ⟨r2, hc3, h⟩ := Option.bind_eq_some_iff.mp h
  refine ecS (As := [.int a1, .int 0, .int 4]) (rest := []) ⟨hx, hb, hml, hown, hts⟩ (e_X7_in l D K ad hap0 a1 0 4 I1 G A L r2 hc3) (va_cwS 3 hts gX7_node_X7_in rfl rfl rfl (by decide +kernel) ⟨Nat.le_of_ble_eq_true rfl, Nat.le_of_ble_eq_true rfl⟩) hK hP hS rfl hl.1 (Nat.le_of_ble_eq_true rfl) (Nat.le_of_ble_eq_true rfl) (Nat.le_of_ble_eq_true rfl) dX7_node_8 (fun H locs hP hS => ?_) rfl
  have hP : va_P D vwCl (VW K ad I1 G A L) H := hP
  refine lv_if_ne (tgt := 16) hx hb dX7_node_11 (by decide) (fun c_4 => ?_) (fun c_4 => ?_)
  · have h := iN c_4 h
    refine lv_aload_n hx hb dX7_node_16 rfl (lv_at hl 0 rfl) ?_
    refine vgI hx hb hts hi7 hown hK hP (318) (by decide) (show kd 318 = 7 by decide) (C := RX7) (T := TX7) (N := 79) rfl 57 (by decide) (by decide) (by decide) (by decide) (hts (.fieldLink RX7 147 "CrateHelpersModel" "asked" "I") (by decide +kernel)) (fun _ h9 => h9) dX7_node_17 ?_
    refine lv_bipush (v := (-9)) hx hb dX7_node_20 (by decide) ?_
    refine lv_icmp_eq (tgt := 41) hx hb dX7_node_22 (by decide) (fun c_5 => ?_) (fun c_5 => ?_)
    · have h := ip c_5 h
      refine lv_bipush (v := (-2)) hx hb dX7_node_41 (by decide) ?_
      exact W.iret (v := (-2)) hx hb hr (fun t9 ht9 hW9 => ⟨⟨(-2), (I1, G, A, L), rfl, by cases h; exact ⟨rfl, rfl⟩, by rw [ht9]; exact hP, va_K.moved hW9.alike hK⟩, hS.F ht9⟩) hS.2.2 dX7_node_43
    · have h := iN c_5 h
      refine lv_aload_n hx hb dX7_node_25 rfl (lv_at hl 0 rfl) ?_
      refine vgC hx hb hts hi7 hown hK hP (318) (by decide) (show kd 318 = 7 by decide) (C := RX7) (T := TX7) (N := 79) rfl 13 (by decide) (by decide) (by decide) (by decide) (329) rfl (hts (.fieldLink RX7 40 "CrateHelpersModel" "changed" "[I") (by decide +kernel)) (fun _ h9 => h9) dX7_node_26 ?_
      refine lv_aload_n hx hb dX7_node_29 rfl (lv_at hl 0 rfl) ?_
      refine vgI hx hb hts hi7 hown hK hP (318) (by decide) (show kd 318 = 7 by decide) (C := RX7) (T := TX7) (N := 79) rfl 57 (by decide) (by decide) (by decide) (by decide) (hts (.fieldLink RX7 147 "CrateHelpersModel" "asked" "I") (by decide +kernel)) (fun _ h9 => h9) dX7_node_30 ?_
      obtain ⟨hn6, h⟩ := gk h
      refine xiald hx hb hK hP (329) (by decide) (show kd 329 = 8 by decide) (by rw [show ln 329 = 5 by decide]; exact hn6) dX7_node_33 ?_
      refine lv_aload_n hx hb dX7_node_34 rfl (lv_at hl 0 rfl) ?_
      refine vgI hx hb hts hi7 hown hK hP (318) (by decide) (show kd 318 = 7 by decide) (C := RX7) (T := TX7) (N := 79) rfl 58 (by decide) (by decide) (by decide) (by decide) (hts (.fieldLink RX7 339 "CrateHelpersModel" "askedChange" "I") (by decide +kernel)) (fun _ h9 => h9) dX7_node_35 ?_
      refine lv_icmp_eq (tgt := 44) hx hb dX7_node_38 (by decide) (fun c_7 => ?_) (fun c_7 => ?_)
      · have h := ip c_7 h
        refine lv_aload_n hx hb dX7_node_44 rfl (lv_at hl 0 rfl) ?_
        refine vgI hx hb hts hi7 hown hK hP (318) (by decide) (show kd 318 = 7 by decide) (C := RX7) (T := TX7) (N := 79) rfl 57 (by decide) (by decide) (by decide) (by decide) (hts (.fieldLink RX7 147 "CrateHelpersModel" "asked" "I") (by decide +kernel)) (fun _ h9 => h9) dX7_node_45 ?_
        refine lv_istore (lv' := [(4, .int (I1 318 57)), (0, .ref (ad 318)), (1, .int a1), (2, .int a2), (3, .int a3)]) hx hb dX7_node_48 hl (by decide) rfl (fun ls hl => ?_)
        refine lv_iconst (v := 0) hx hb dX7_node_50 (by decide) ?_
        refine lv_istore (lv' := [(5, .int 0), (4, .int (I1 318 57)), (0, .ref (ad 318)), (1, .int a1), (2, .int a2), (3, .int a3)]) hx hb dX7_node_51 hl (by decide) rfl (fun ls hl => ?_)
        obtain ⟨k12, ek12, h⟩ := bd_e h
        have kk12 : ∀ (v13 : Int32) (A14 : Nat → Nat → Int32), k12 v13 A14 = some (r0, I0, A0) → ∀ (H : Heap) (locs : List Loc), va_P D vwCl (VW K ad I1 G A14 L) H → va_S (vF ad s.heap.size) s.heap H locs → ∀ (ls : Array Slot), lv_has ls 6 [(0, .ref (ad 318)), (1, .int a1), (2, .int a2), (3, .int a3), (4, .int v13)] → W p l e ({ frames := 5, cells := 0, slots := 0, locals := 143 }) s m ([.ref (ad 318), .int a1, .int a2, .int a3] : List Value).toArray below meth c H locs 0 0 (MQ below (va_Qi (fun (r : Int32) (u : Mem) => r = r0 ∧ u = (I0, G, A0, L)) (vB D K ad) (vF ad s.heap.size)) ([.ref (ad 318), .int a1, .int a2, .int a3] : List Value).toArray s 0 0 (vF ad s.heap.size)) (F0 m 94 ls []) := by
          intro v13 A14 h H locs hP hS ls hl
          subst ek12
          refine lv_iload_n hx hb dX7_node_94 rfl (lv_at hl 1 rfl) ?_
          refine lv_if_ne (tgt := 128) hx hb dX7_node_95 (by decide) (fun c_15 => ?_) (fun c_15 => ?_)
          · have h := iN c_15 h
            refine lv_iload_n hx hb dX7_node_128 rfl (lv_at hl 1 rfl) ?_
            refine lv_iconst (v := 1) hx hb dX7_node_129 (by decide) ?_
            refine lv_icmp_ne (tgt := 173) hx hb dX7_node_130 (by decide) (fun c_16 => ?_) (fun c_16 => ?_)
            · have h := iN c_16 h
              refine lv_aload_n hx hb dX7_node_173 rfl (lv_at hl 0 rfl) ?_
              refine lv_iload hx hb dX7_node_174 (lv_at hl 4 rfl) ?_
              refine lv_aload_n hx hb dX7_node_176 rfl (lv_at hl 0 rfl) ?_
              refine vgI hx hb hts hi7 hown hK hP (318) (by decide) (show kd 318 = 7 by decide) (C := RX7) (T := TX7) (N := 79) rfl 59 (by decide) (by decide) (by decide) (by decide) (hts (.fieldLink RX7 342 "CrateHelpersModel" "askedDepth" "I") (by decide +kernel)) (fun _ h9 => h9) dX7_node_177 ?_
              refine lv_iconst (v := 1) hx hb dX7_node_180 (by decide) ?_
              obtain ⟨⟨r17, I18, A19⟩, hc20, h⟩ := Option.bind_eq_some_iff.mp h
              refine ecV (As := [.int v13, .int (I1 318 59), .int 1]) (rest := []) ⟨hx, hb, hml, hown, hts⟩ (e_X7_whatIs l D K ad hap0 v13 (I1 318 59) 1 I1 G A14 L r17 I18 A19 hc20) (cwV 3 hts gX7_node_X7_whatIs rfl rfl rfl (by decide +kernel) ⟨Nat.le_of_ble_eq_true rfl, Nat.le_of_ble_eq_true rfl⟩) hK hP hS (by decide) (show kd 318 = 7 by decide) (by decide) rfl rfl rfl hl.1 (Nat.le_of_ble_eq_true rfl) (Nat.le_of_ble_eq_true rfl) (Nat.le_of_ble_eq_true rfl) dX7_node_181 (fun H locs hP hS => ?_) rfl
              have hP : va_P D vwCl (VW K ad I18 G A19 L) H := hP
              refine lv_istore (lv' := [(5, .int r17), (0, .ref (ad 318)), (1, .int a1), (2, .int a2), (3, .int a3), (4, .int v13)]) hx hb dX7_node_184 hl (by decide) rfl (fun ls hl => ?_)
              refine lv_iload_n hx hb dX7_node_186 rfl (lv_at hl 2 rfl) ?_
              refine lv_iconst (v := 2) hx hb dX7_node_187 (by decide) ?_
              refine lv_icmp_ne (tgt := 196) hx hb dX7_node_188 (by decide) (fun c_21 => ?_) (fun c_21 => ?_)
              · have h := iN c_21 h
                refine lv_iload_n hx hb dX7_node_196 rfl (lv_at hl 2 rfl) ?_
                refine lv_iconst (v := 3) hx hb dX7_node_197 (by decide) ?_
                refine lv_icmp_ne (tgt := 218) hx hb dX7_node_198 (by decide) (fun c_22 => ?_) (fun c_22 => ?_)
                · have h := iN c_22 h
                  refine lv_iload hx hb dX7_node_218 (lv_at hl 0 rfl) ?_
                  refine lv_if_ne (tgt := 228) hx hb dX7_node_220 (by decide) (fun c_23 => ?_) (fun c_23 => ?_)
                  · have h := iN c_23 h
                    refine lv_aload_n hx hb dX7_node_228 rfl (lv_at hl 1 rfl) ?_
                    refine vgI hx hb hts hi7 hown hK hP (318) (by decide) (show kd 318 = 7 by decide) (C := RX7) (T := TX7) (N := 79) rfl 64 (by decide) (by decide) (by decide) (by decide) (hts (.fieldLink RX7 272 "CrateHelpersModel" "why" "I") (by decide +kernel)) (fun _ h9 => h9) dX7_node_229 ?_
                    exact W.iret (v := (I18 318 64)) hx hb hr (fun t9 ht9 hW9 => ⟨⟨(I18 318 64), (I18, G, A19, L), rfl, by cases h; exact ⟨rfl, rfl⟩, by rw [ht9]; exact hP, va_K.moved hW9.alike hK⟩, hS.F ht9⟩) hS.2.2 dX7_node_232
                  · have h := ip c_23 h
                    refine lv_bipush (v := (-9)) hx hb dX7_node_223 (by decide) ?_
                    refine lv_goto (tgt := 232) hx hb dX7_node_225 (by decide) ?_
                    exact W.iret (v := (-9)) hx hb hr (fun t9 ht9 hW9 => ⟨⟨(-9), (I18, G, A19, L), rfl, by cases h; exact ⟨rfl, rfl⟩, by rw [ht9]; exact hP, va_K.moved hW9.alike hK⟩, hS.F ht9⟩) hS.2.2 dX7_node_232
                · have h := ip c_22 h
                  refine lv_iload hx hb dX7_node_201 (lv_at hl 0 rfl) ?_
                  refine lv_if_ne (tgt := 213) hx hb dX7_node_203 (by decide) (fun c_24 => ?_) (fun c_24 => ?_)
                  · have h := iN c_24 h
                    refine lv_ldc (v := (-1000000)) hx hb hown (hts (.constant RX7 224 (-1000000)) (by decide +kernel)) dX7_node_213 ?_
                    refine lv_goto (tgt := 232) hx hb dX7_node_215 (by decide) ?_
                    exact W.iret (v := (-1000000)) hx hb hr (fun t9 ht9 hW9 => ⟨⟨(-1000000), (I18, G, A19, L), rfl, by cases h; exact ⟨rfl, rfl⟩, by rw [ht9]; exact hP, va_K.moved hW9.alike hK⟩, hS.F ht9⟩) hS.2.2 dX7_node_232
                  · have h := ip c_24 h
                    refine lv_aload_n hx hb dX7_node_206 rfl (lv_at hl 1 rfl) ?_
                    refine vgI hx hb hts hi7 hown hK hP (318) (by decide) (show kd 318 = 7 by decide) (C := RX7) (T := TX7) (N := 79) rfl 65 (by decide) (by decide) (by decide) (by decide) (hts (.fieldLink RX7 278 "CrateHelpersModel" "boundNow" "I") (by decide +kernel)) (fun _ h9 => h9) dX7_node_207 ?_
                    refine lv_goto (tgt := 232) hx hb dX7_node_210 (by decide) ?_
                    exact W.iret (v := (I18 318 65)) hx hb hr (fun t9 ht9 hW9 => ⟨⟨(I18 318 65), (I18, G, A19, L), rfl, by cases h; exact ⟨rfl, rfl⟩, by rw [ht9]; exact hP, va_K.moved hW9.alike hK⟩, hS.F ht9⟩) hS.2.2 dX7_node_232
              · have h := ip c_21 h
                refine lv_iload hx hb dX7_node_191 (lv_at hl 0 rfl) ?_
                refine lv_goto (tgt := 232) hx hb dX7_node_193 (by decide) ?_
                exact W.iret (v := r17) hx hb hr (fun t9 ht9 hW9 => ⟨⟨r17, (I18, G, A19, L), rfl, by cases h; exact ⟨rfl, rfl⟩, by rw [ht9]; exact hP, va_K.moved hW9.alike hK⟩, hS.F ht9⟩) hS.2.2 dX7_node_232
            · have h := ip c_16 h
              refine lv_aload_n hx hb dX7_node_133 rfl (lv_at hl 0 rfl) ?_
              refine lv_iload hx hb dX7_node_134 (lv_at hl 4 rfl) ?_
              refine lv_iload_n hx hb dX7_node_136 rfl (lv_at hl 2 rfl) ?_
              refine lv_iload_n hx hb dX7_node_137 rfl (lv_at hl 3 rfl) ?_
              obtain ⟨r25, hc26, h⟩ := Option.bind_eq_some_iff.mp h
              refine ecV (As := [.int v13, .int a2, .int a3]) (rest := []) ⟨hx, hb, hml, hown, hts⟩ (e_X7_isValue l D K ad hap0 v13 a2 a3 I1 G A14 L r25 hc26) (cwV 3 hts gX7_node_X7_isValue rfl rfl rfl (by decide +kernel) ⟨Nat.le_of_ble_eq_true rfl, Nat.le_of_ble_eq_true rfl⟩) hK hP hS (by decide) (show kd 318 = 7 by decide) (by decide) rfl rfl rfl hl.1 (Nat.le_of_ble_eq_true rfl) (Nat.le_of_ble_eq_true rfl) (Nat.le_of_ble_eq_true rfl) dX7_node_138 (fun H locs hP hS => ?_) rfl
              have hP : va_P D vwCl (VW K ad I1 G A14 L) H := hP
              refine lv_if_ne (tgt := 148) hx hb dX7_node_141 (by decide) (fun c_27 => ?_) (fun c_27 => ?_)
              · have h := iN c_27 h
                refine lv_iload_n hx hb dX7_node_148 rfl (lv_at hl 2 rfl) ?_
                refine lv_aload_n hx hb dX7_node_149 rfl (lv_at hl 0 rfl) ?_
                refine vgI hx hb hts hi7 hown hK hP (318) (by decide) (show kd 318 = 7 by decide) (C := RX7) (T := TX7) (N := 79) rfl 59 (by decide) (by decide) (by decide) (by decide) (hts (.fieldLink RX7 342 "CrateHelpersModel" "askedDepth" "I") (by decide +kernel)) (fun _ h9 => h9) dX7_node_150 ?_
                refine lv_icmp_lt (tgt := 171) hx hb dX7_node_153 (by decide) (fun c_28 => ?_) (fun c_28 => ?_)
                · have h := ip c_28 h
                  refine lv_iconst (v := 0) hx hb dX7_node_171 (by decide) ?_
                  exact W.iret (v := 0) hx hb hr (fun t9 ht9 hW9 => ⟨⟨0, (I1, G, A14, L), rfl, by cases h; exact ⟨rfl, rfl⟩, by rw [ht9]; exact hP, va_K.moved hW9.alike hK⟩, hS.F ht9⟩) hS.2.2 dX7_node_172
                · have h := iN c_28 h
                  refine lv_aload_n hx hb dX7_node_156 rfl (lv_at hl 0 rfl) ?_
                  refine lv_iload hx hb dX7_node_157 (lv_at hl 4 rfl) ?_
                  refine lv_iload_n hx hb dX7_node_159 rfl (lv_at hl 2 rfl) ?_
                  refine lv_iload_n hx hb dX7_node_160 rfl (lv_at hl 3 rfl) ?_
                  obtain ⟨⟨r29, A30⟩, hc31, h⟩ := Option.bind_eq_some_iff.mp h
                  refine ecV (As := [.int v13, .int a2, .int a3]) (rest := []) ⟨hx, hb, hml, hown, hts⟩ (e_X7_isOut l D K ad hap0 v13 a2 a3 I1 G A14 L r29 A30 hc31) (cwV 3 hts gX7_node_X7_isOut rfl rfl rfl (by decide +kernel) ⟨Nat.le_of_ble_eq_true rfl, Nat.le_of_ble_eq_true rfl⟩) hK hP hS (by decide) (show kd 318 = 7 by decide) (by decide) rfl rfl rfl hl.1 (Nat.le_of_ble_eq_true rfl) (Nat.le_of_ble_eq_true rfl) (Nat.le_of_ble_eq_true rfl) dX7_node_161 (fun H locs hP hS => ?_) rfl
                  have hP : va_P D vwCl (VW K ad I1 G A30 L) H := hP
                  refine lv_if_eq (tgt := 171) hx hb dX7_node_164 (by decide) (fun c_32 => ?_) (fun c_32 => ?_)
                  · have h := ip c_32 h
                    refine lv_iconst (v := 0) hx hb dX7_node_171 (by decide) ?_
                    exact W.iret (v := 0) hx hb hr (fun t9 ht9 hW9 => ⟨⟨0, (I1, G, A30, L), rfl, by cases h; exact ⟨rfl, rfl⟩, by rw [ht9]; exact hP, va_K.moved hW9.alike hK⟩, hS.F ht9⟩) hS.2.2 dX7_node_172
                  · have h := iN c_32 h
                    refine lv_iconst (v := 1) hx hb dX7_node_167 (by decide) ?_
                    refine lv_goto (tgt := 172) hx hb dX7_node_168 (by decide) ?_
                    exact W.iret (v := 1) hx hb hr (fun t9 ht9 hW9 => ⟨⟨1, (I1, G, A30, L), rfl, by cases h; exact ⟨rfl, rfl⟩, by rw [ht9]; exact hP, va_K.moved hW9.alike hK⟩, hS.F ht9⟩) hS.2.2 dX7_node_172
              · have h := ip c_27 h
                refine lv_iconst (v := (-1)) hx hb dX7_node_144 (by decide) ?_
                refine lv_goto (tgt := 172) hx hb dX7_node_145 (by decide) ?_
                exact W.iret (v := (-1)) hx hb hr (fun t9 ht9 hW9 => ⟨⟨(-1), (I1, G, A14, L), rfl, by cases h; exact ⟨rfl, rfl⟩, by rw [ht9]; exact hP, va_K.moved hW9.alike hK⟩, hS.F ht9⟩) hS.2.2 dX7_node_172
          · have h := ip c_15 h
            refine lv_aload_n hx hb dX7_node_98 rfl (lv_at hl 0 rfl) ?_
            refine lv_iload hx hb dX7_node_99 (lv_at hl 4 rfl) ?_
            refine lv_iload_n hx hb dX7_node_101 rfl (lv_at hl 2 rfl) ?_
            obtain ⟨r33, hc34, h⟩ := Option.bind_eq_some_iff.mp h
            refine ecV (As := [.int v13, .int a2]) (rest := []) ⟨hx, hb, hml, hown, hts⟩ (e_X7_isRule l D K ad hap0 v13 a2 I1 G A14 L r33 hc34) (cwV 2 hts gX7_node_X7_isRule rfl rfl rfl (by decide +kernel) ⟨Nat.le_of_ble_eq_true rfl, Nat.le_of_ble_eq_true rfl⟩) hK hP hS (by decide) (show kd 318 = 7 by decide) (by decide) rfl rfl rfl hl.1 (Nat.le_of_ble_eq_true rfl) (Nat.le_of_ble_eq_true rfl) (Nat.le_of_ble_eq_true rfl) dX7_node_102 (fun H locs hP hS => ?_) rfl
            have hP : va_P D vwCl (VW K ad I1 G A14 L) H := hP
            refine lv_if_ne (tgt := 112) hx hb dX7_node_105 (by decide) (fun c_35 => ?_) (fun c_35 => ?_)
            · have h := iN c_35 h
              refine lv_aload_n hx hb dX7_node_112 rfl (lv_at hl 0 rfl) ?_
              refine lv_iload hx hb dX7_node_113 (lv_at hl 4 rfl) ?_
              refine lv_iload_n hx hb dX7_node_115 rfl (lv_at hl 2 rfl) ?_
              obtain ⟨r36, hc37, h⟩ := Option.bind_eq_some_iff.mp h
              refine ecV (As := [.int v13, .int a2]) (rest := []) ⟨hx, hb, hml, hown, hts⟩ (e_X7_isBroken l D K ad hap0 v13 a2 I1 G A14 L r36 hc37) (cwV 2 hts gX7_node_X7_isBroken rfl rfl rfl (by decide +kernel) ⟨Nat.le_of_ble_eq_true rfl, Nat.le_of_ble_eq_true rfl⟩) hK hP hS (by decide) (show kd 318 = 7 by decide) (by decide) rfl rfl rfl hl.1 (Nat.le_of_ble_eq_true rfl) (Nat.le_of_ble_eq_true rfl) (Nat.le_of_ble_eq_true rfl) dX7_node_116 (fun H locs hP hS => ?_) rfl
              have hP : va_P D vwCl (VW K ad I1 G A14 L) H := hP
              refine lv_if_eq (tgt := 126) hx hb dX7_node_119 (by decide) (fun c_38 => ?_) (fun c_38 => ?_)
              · have h := ip c_38 h
                refine lv_iconst (v := 0) hx hb dX7_node_126 (by decide) ?_
                exact W.iret (v := 0) hx hb hr (fun t9 ht9 hW9 => ⟨⟨0, (I1, G, A14, L), rfl, by cases h; exact ⟨rfl, rfl⟩, by rw [ht9]; exact hP, va_K.moved hW9.alike hK⟩, hS.F ht9⟩) hS.2.2 dX7_node_127
              · have h := iN c_38 h
                refine lv_iconst (v := 1) hx hb dX7_node_122 (by decide) ?_
                refine lv_goto (tgt := 127) hx hb dX7_node_123 (by decide) ?_
                exact W.iret (v := 1) hx hb hr (fun t9 ht9 hW9 => ⟨⟨1, (I1, G, A14, L), rfl, by cases h; exact ⟨rfl, rfl⟩, by rw [ht9]; exact hP, va_K.moved hW9.alike hK⟩, hS.F ht9⟩) hS.2.2 dX7_node_127
            · have h := ip c_35 h
              refine lv_iconst (v := (-1)) hx hb dX7_node_108 (by decide) ?_
              refine lv_goto (tgt := 127) hx hb dX7_node_109 (by decide) ?_
              exact W.iret (v := (-1)) hx hb hr (fun t9 ht9 hW9 => ⟨⟨(-1), (I1, G, A14, L), rfl, by cases h; exact ⟨rfl, rfl⟩, by rw [ht9]; exact hP, va_K.moved hW9.alike hK⟩, hS.F ht9⟩) hS.2.2 dX7_node_127
        have lp8 : ∀ (n : Nat) (v9 : Int32) (v10 : Int32) (A11 : Nat → Nat → Int32), f_X7_node_L53 a1 a2 a3 I1 k12 n v9 v10 A11 = some (r0, I0, A0) → ∀ (H : Heap) (locs : List Loc), va_P D vwCl (VW K ad I1 G A11 L) H → va_S (vF ad s.heap.size) s.heap H locs → ∀ (ls : Array Slot), lv_has ls 6 [(5, .int v9), (4, .int v10), (0, .ref (ad 318)), (1, .int a1), (2, .int a2), (3, .int a3)] → W p l e ({ frames := 5, cells := 0, slots := 0, locals := 143 }) s m ([.ref (ad 318), .int a1, .int a2, .int a3] : List Value).toArray below meth c H locs 0 0 (MQ below (va_Qi (fun (r : Int32) (u : Mem) => r = r0 ∧ u = (I0, G, A0, L)) (vB D K ad) (vF ad s.heap.size)) ([.ref (ad 318), .int a1, .int a2, .int a3] : List Value).toArray s 0 0 (vF ad s.heap.size)) (F0 m 53 ls []) := by
          intro n
          induction n with
          | zero => intro v9 v10 A11 h; exact absurd h (by rw [f_X7_node_L53]; exact nofun)
          | succ n ih8 =>
            intro v9 v10 A11 h H locs hP hS ls hl
            rw [f_X7_node_L53] at h
            refine lv_iload hx hb dX7_node_53 (lv_at hl 0 rfl) ?_
            refine lv_bipush (v := 6) hx hb dX7_node_55 (by decide) ?_
            refine lv_icmp_ge (tgt := 94) hx hb dX7_node_57 (by decide) (fun c_39 => ?_) (fun c_39 => ?_)
            · have h := iN (Int32.not_lt.mpr c_39) h
              exact kk12 v10 A11 h _ _ hP hS ls (lv_sub hl [2, 3, 4, 5, 1] rfl)
            · have h := ip (Int32.not_le.mp c_39) h
              refine lv_aload_n hx hb dX7_node_60 rfl (lv_at hl 2 rfl) ?_
              refine vgC hx hb hts hi7 hown hK hP (318) (by decide) (show kd 318 = 7 by decide) (C := RX7) (T := TX7) (N := 79) rfl 63 (by decide) (by decide) (by decide) (by decide) (364) rfl (hts (.fieldLink RX7 159 "CrateHelpersModel" "now" "[I") (by decide +kernel)) (fun _ h9 => h9) dX7_node_61 ?_
              refine lv_iload hx hb dX7_node_64 (lv_at hl 0 rfl) ?_
              refine lv_iload hx hb dX7_node_66 (lv_at hl 0 rfl) ?_
              refine lv_aload_n hx hb dX7_node_68 rfl (lv_at hl 2 rfl) ?_
              refine vgI hx hb hts hi7 hown hK hP (318) (by decide) (show kd 318 = 7 by decide) (C := RX7) (T := TX7) (N := 79) rfl 59 (by decide) (by decide) (by decide) (by decide) (hts (.fieldLink RX7 342 "CrateHelpersModel" "askedDepth" "I") (by decide +kernel)) (fun _ h9 => h9) dX7_node_69 ?_
              refine lv_icmp_ge (tgt := 85) hx hb dX7_node_72 (by decide) (fun c_40 => ?_) (fun c_40 => ?_)
              · have h := iN (Int32.not_lt.mpr c_40) h
                refine lv_bipush (v := (-9)) hx hb dX7_node_85 (by decide) ?_
                obtain ⟨hn41, h⟩ := gk h
                refine xiast hx hb hK hP hap hS (364) (by decide) (show kd 364 = 8 by decide) (by rw [show ln 364 = 6 by decide]; exact hn41) dX7_node_87 (fun H locs hP hS => ?_)
                obtain ⟨A42, eA42, h⟩ := bd_e h
                rw [← eA42] at hP
                have hP : va_P D vwCl (VW K ad I1 G A42 L) H := hP
                refine lv_iinc (v := (v9 + 1)) (lv' := [(5, .int (v9 + 1)), (4, .int v10), (0, .ref (ad 318)), (1, .int a1), (2, .int a2), (3, .int a3)]) hx hb dX7_node_88 hl (k := 0) rfl rfl (by decide) rfl (fun ls hl => ?_)
                refine lv_goto (tgt := 53) hx hb dX7_node_91 (by decide) ?_
                exact ih8 (v9 + 1) v10 A42 h _ _ hP hS ls (lv_sub hl [0, 1, 2, 3, 4, 5] rfl)
              · have h := ip (Int32.not_le.mp c_40) h
                refine lv_aload_n hx hb dX7_node_75 rfl (lv_at hl 2 rfl) ?_
                refine vgC hx hb hts hi7 hown hK hP (318) (by decide) (show kd 318 = 7 by decide) (C := RX7) (T := TX7) (N := 79) rfl 60 (by decide) (by decide) (by decide) (by decide) (362) rfl (hts (.fieldLink RX7 150 "CrateHelpersModel" "askedRow" "[I") (by decide +kernel)) (fun _ h9 => h9) dX7_node_76 ?_
                refine lv_iload hx hb dX7_node_79 (lv_at hl 0 rfl) ?_
                obtain ⟨hn43, h⟩ := gk h
                refine xiald hx hb hK hP (362) (by decide) (show kd 362 = 8 by decide) (by rw [show ln 362 = 6 by decide]; exact hn43) dX7_node_81 ?_
                refine lv_goto (tgt := 87) hx hb dX7_node_82 (by decide) ?_
                refine xiast hx hb hK hP hap hS (364) (by decide) (show kd 364 = 8 by decide) (by rw [show ln 364 = 6 by decide]; exact hn43) dX7_node_87 (fun H locs hP hS => ?_)
                obtain ⟨A44, eA44, h⟩ := bd_e h
                rw [← eA44] at hP
                have hP : va_P D vwCl (VW K ad I1 G A44 L) H := hP
                refine lv_iinc (v := (v9 + 1)) (lv' := [(5, .int (v9 + 1)), (4, .int v10), (0, .ref (ad 318)), (1, .int a1), (2, .int a2), (3, .int a3)]) hx hb dX7_node_88 hl (k := 0) rfl rfl (by decide) rfl (fun ls hl => ?_)
                refine lv_goto (tgt := 53) hx hb dX7_node_91 (by decide) ?_
                exact ih8 (v9 + 1) v10 A44 h _ _ hP hS ls (lv_sub hl [0, 1, 2, 3, 4, 5] rfl)
        exact lp8 FU 0 (I1 318 57) A h _ _ hP hS ls (lv_sub hl [0, 1, 2, 3, 4, 5] rfl)
      · have h := iN c_7 h
        refine lv_bipush (v := (-2)) hx hb dX7_node_41 (by decide) ?_
        exact W.iret (v := (-2)) hx hb hr (fun t9 ht9 hW9 => ⟨⟨(-2), (I1, G, A, L), rfl, by cases h; exact ⟨rfl, rfl⟩, by rw [ht9]; exact hP, va_K.moved hW9.alike hK⟩, hS.F ht9⟩) hS.2.2 dX7_node_43
  · have h := ip c_4 h
    refine lv_iconst (v := (-1)) hx hb dX7_node_14 (by decide) ?_
    exact W.iret (v := (-1)) hx hb hr (fun t9 ht9 hW9 => ⟨⟨(-1), (I1, G, A, L), rfl, by cases h; exact ⟨rfl, rfl⟩, by rw [ht9]; exact hP, va_K.moved hW9.alike hK⟩, hS.F ht9⟩) hS.2.2 dX7_node_15
set_option maxHeartbeats 4000000 in
set_option maxRecDepth 100000 in
theorem e_X7_number (l : Launch) (D : va_G) (K : Nat → ClassId) (ad : Nat → Nat) (hap0 : apart ad (fun _ => True)) (a1 : Int32) (a2 : Int32) (a3 : Int32) (I : Nat → Nat → Int32) (G : Nat → Nat → Nat) (A : Nat → Nat → Int32) (L : Nat → Nat → Int64) (r0 : Int32) (I0 : Nat → Nat → Int32) (A0 : Nat → Nat → Int32) (h : f_X7_number I A a1 a2 a3 = some (r0, I0, A0)) : Ci l D K ad yX7_number wsX7_number 3 74 [.ref (ad 318), .int a1, .int a2, .int a3] (I, G, A, L) (fun (r : Int32) (u : Mem) => r = r0 ∧ u = (I0, G, A0, L)) := by
  intro sz
  refine Met.ofW (cc := cX7_number) (maxL := 5) (ret := (some .int)) (by decide) rfl ?_
  intro p e s m args below meth c s₁ Bd hml hv0
  obtain ⟨rfl, hsz, hP, hK⟩ := hv0
  have hx := Bd.exec
  have hb := Bd.bytes
  have hr := Bd.returns
  have hts := atoms_spec (ws := wsX7_number) Bd.pre
  have hown : s.vm.findClass RX7 = some m.cls := findClass_of_methodNamed Bd.named
  have hlocks := Bd.notSynchronized
  have hi7 : ∀ w ∈ u_ws RX7 TX7 79, w ∈ wsX7_number := fun w h => List.mem_cons_of_mem _ (List.mem_append_right _ h)
  subst hsz
  have hap := vF_ap hap0 s.heap.size
  have hS : va_S (vF ad s.heap.size) s.heap s.heap [] := va_S.rf
  have hP : va_P D vwCl (VW K ad I G A L) s.heap := hP
  have hl := lv_entry ([.ref (ad 318), .int a1, .int a2, .int a3]) (n := 5) (Nat.le_of_ble_eq_true rfl)
  rw [lg_entry_eq]
  generalize (lg_sl ([.ref (ad 318), .int a1, .int a2, .int a3]) ++ List.replicate (5 - (lg_sl ([.ref (ad 318), .int a1, .int a2, .int a3])).length) Slot.unset).toArray = ls at hl ⊢
  have hl : lv_has ls 5 [(0, .ref (ad 318)), (1, .int a1), (2, .int a2), (3, .int a3)] := hl
  rw [f_X7_number] at h
  refine lv_aload_n hx hb dX7_number_0 rfl (lv_at hl 0 rfl) ?_
  refine lv_iconst (v := 0) hx hb dX7_number_1 (by decide) ?_
  refine vpI (v := 0) (ty := .int) hx hb hts hi7 tyX7 tyX7_ok nmX7 hown hK hP hap hS (318) (by decide) (show kd 318 = 7 by decide) (C := RX7) (T := TX7) (N := 79) rfl 0 (by decide) (by decide) (by decide) (by decide) (hts (.fieldLink RX7 201 "CrateHelpersModel" "thrown" "I") (by decide +kernel)) (fun _ h9 => h9) rfl (by decide +kernel) rfl rfl dX7_number_2 (fun H locs hP hS => ?_)
  obtain ⟨I1, eI1, h⟩ := bd_e h
  rw [← eI1] at hP
  have hP : va_P D vwCl (VW K ad I1 G A L) H := hP
  refine lv_aload_n hx hb dX7_number_5 rfl (lv_at hl 0 rfl) ?_
  refine lv_iconst (v := 0) hx hb dX7_number_6 (by decide) ?_
  refine vpI (v := 0) (ty := .int) hx hb hts hi7 tyX7 tyX7_ok nmX7 hown hK hP hap hS (318) (by decide) (show kd 318 = 7 by decide) (C := RX7) (T := TX7) (N := 79) rfl 1 (by decide) (by decide) (by decide) (by decide) (hts (.fieldLink RX7 221 "CrateHelpersModel" "status" "I") (by decide +kernel)) (fun _ h9 => h9) rfl (by decide +kernel) rfl rfl dX7_number_7 (fun H locs hP hS => ?_)
  obtain ⟨I2, eI2, h⟩ := bd_e h
  rw [← eI2] at hP
  have hP : va_P D vwCl (VW K ad I2 G A L) H := hP
  refine lv_aload_n hx hb dX7_number_10 rfl (lv_at hl 0 rfl) ?_
  refine lv_iload_n hx hb dX7_number_11 rfl (lv_at hl 1 rfl) ?_
  refine lv_iload_n hx hb dX7_number_12 rfl (lv_at hl 2 rfl) ?_
  obtain ⟨r3, hc4, h⟩ := Option.bind_eq_some_iff.mp h
  refine ecV (As := [.int a1, .int a2]) (rest := []) ⟨hx, hb, hml, hown, hts⟩ (e_X7_isRule l D K ad hap0 a1 a2 I2 G A L r3 hc4) (cwV 2 hts gX7_number_X7_isRule rfl rfl rfl (by decide +kernel) ⟨Nat.le_of_ble_eq_true rfl, Nat.le_of_ble_eq_true rfl⟩) hK hP hS (by decide) (show kd 318 = 7 by decide) (by decide) rfl rfl rfl hl.1 (Nat.le_of_ble_eq_true rfl) (Nat.le_of_ble_eq_true rfl) (Nat.le_of_ble_eq_true rfl) dX7_number_13 (fun H locs hP hS => ?_) rfl
  have hP : va_P D vwCl (VW K ad I2 G A L) H := hP
  refine lv_if_eq (tgt := 32) hx hb dX7_number_16 (by decide) (fun c_5 => ?_) (fun c_5 => ?_)
  · have h := ip c_5 h
    refine lv_aload_n hx hb dX7_number_32 rfl (lv_at hl 0 rfl) ?_
    refine lv_iconst (v := (-1)) hx hb dX7_number_33 (by decide) ?_
    obtain ⟨⟨r6, I7⟩, hc8, h⟩ := Option.bind_eq_some_iff.mp h
    refine ecV (As := [.int (-1)]) (rest := []) ⟨hx, hb, hml, hown, hts⟩ (e_X7_no l D K ad hap0 (-1) I2 G A L r6 I7 hc8) (cwV 1 hts gX7_number_X7_no rfl rfl rfl (by decide +kernel) ⟨Nat.le_of_ble_eq_true rfl, Nat.le_of_ble_eq_true rfl⟩) hK hP hS (by decide) (show kd 318 = 7 by decide) (by decide) rfl rfl rfl hl.1 (Nat.le_of_ble_eq_true rfl) (Nat.le_of_ble_eq_true rfl) (Nat.le_of_ble_eq_true rfl) dX7_number_34 (fun H locs hP hS => ?_) rfl
    have hP : va_P D vwCl (VW K ad I7 G A L) H := hP
    exact W.iret (v := r6) hx hb hr (fun t9 ht9 hW9 => ⟨⟨r6, (I7, G, A, L), rfl, by cases h; exact ⟨rfl, rfl⟩, by rw [ht9]; exact hP, va_K.moved hW9.alike hK⟩, hS.F ht9⟩) hS.2.2 dX7_number_37
  · have h := iN c_5 h
    refine lv_iload_n hx hb dX7_number_19 rfl (lv_at hl 3 rfl) ?_
    refine lv_sipush (v := (-1000)) hx hb dX7_number_20 (by decide) ?_
    refine lv_sipush (v := 1000) hx hb dX7_number_23 (by decide) ?_
    obtain ⟨r9, hc10, h⟩ := Option.bind_eq_some_iff.mp h
    refine ecS (As := [.int a3, .int (-1000), .int 1000]) (rest := []) ⟨hx, hb, hml, hown, hts⟩ (e_X7_in l D K ad hap0 a3 (-1000) 1000 I2 G A L r9 hc10) (va_cwS 3 hts gX7_number_X7_in rfl rfl rfl (by decide +kernel) ⟨Nat.le_of_ble_eq_true rfl, Nat.le_of_ble_eq_true rfl⟩) hK hP hS rfl hl.1 (Nat.le_of_ble_eq_true rfl) (Nat.le_of_ble_eq_true rfl) (Nat.le_of_ble_eq_true rfl) dX7_number_26 (fun H locs hP hS => ?_) rfl
    have hP : va_P D vwCl (VW K ad I2 G A L) H := hP
    refine lv_if_ne (tgt := 38) hx hb dX7_number_29 (by decide) (fun c_11 => ?_) (fun c_11 => ?_)
    · have h := iN c_11 h
      refine lv_aload_n hx hb dX7_number_38 rfl (lv_at hl 0 rfl) ?_
      refine vgI hx hb hts hi7 hown hK hP (318) (by decide) (show kd 318 = 7 by decide) (C := RX7) (T := TX7) (N := 79) rfl 23 (by decide) (by decide) (by decide) (by decide) (hts (.fieldLink RX7 62 "CrateHelpersModel" "under" "I") (by decide +kernel)) (fun _ h9 => h9) dX7_number_39 ?_
      refine lv_bipush (v := (-9)) hx hb dX7_number_42 (by decide) ?_
      refine lv_icmp_eq (tgt := 54) hx hb dX7_number_44 (by decide) (fun c_12 => ?_) (fun c_12 => ?_)
      · have h := ip c_12 h
        refine lv_aload_n hx hb dX7_number_54 rfl (lv_at hl 0 rfl) ?_
        refine vgC hx hb hts hi7 hown hK hP (318) (by decide) (show kd 318 = 7 by decide) (C := RX7) (T := TX7) (N := 79) rfl 9 (by decide) (by decide) (by decide) (by decide) (325) rfl (hts (.fieldLink RX7 28 "CrateHelpersModel" "ruleNumber" "[I") (by decide +kernel)) (fun _ h9 => h9) dX7_number_55 ?_
        refine lv_bipush (v := 8) hx hb dX7_number_58 (by decide) ?_
        refine lv_iload_n hx hb dX7_number_60 rfl (lv_at hl 1 rfl) ?_
        refine lv_imul hx hb dX7_number_61 ?_
        refine lv_iload_n hx hb dX7_number_62 rfl (lv_at hl 2 rfl) ?_
        refine lv_iadd hx hb dX7_number_63 ?_
        obtain ⟨hn13, h⟩ := gk h
        refine xiald hx hb hK hP (325) (by decide) (show kd 325 = 8 by decide) (by rw [show ln 325 = 40 by decide]; exact hn13) dX7_number_64 ?_
        refine lv_istore (lv' := [(4, .int (A 325 (((8 * a1) + a2).toNatClampNeg))), (0, .ref (ad 318)), (1, .int a1), (2, .int a2), (3, .int a3)]) hx hb dX7_number_65 hl (by decide) rfl (fun ls hl => ?_)
        refine lv_aload_n hx hb dX7_number_67 rfl (lv_at hl 1 rfl) ?_
        refine vgC hx hb hts hi7 hown hK hP (318) (by decide) (show kd 318 = 7 by decide) (C := RX7) (T := TX7) (N := 79) rfl 9 (by decide) (by decide) (by decide) (by decide) (325) rfl (hts (.fieldLink RX7 28 "CrateHelpersModel" "ruleNumber" "[I") (by decide +kernel)) (fun _ h9 => h9) dX7_number_68 ?_
        refine lv_bipush (v := 8) hx hb dX7_number_71 (by decide) ?_
        refine lv_iload_n hx hb dX7_number_73 rfl (lv_at hl 2 rfl) ?_
        refine lv_imul hx hb dX7_number_74 ?_
        refine lv_iload_n hx hb dX7_number_75 rfl (lv_at hl 3 rfl) ?_
        refine lv_iadd hx hb dX7_number_76 ?_
        refine lv_iload_n hx hb dX7_number_77 rfl (lv_at hl 4 rfl) ?_
        refine xiast hx hb hK hP hap hS (325) (by decide) (show kd 325 = 8 by decide) (by rw [show ln 325 = 40 by decide]; exact hn13) dX7_number_78 (fun H locs hP hS => ?_)
        obtain ⟨A14, eA14, h⟩ := bd_e h
        rw [← eA14] at hP
        have hP : va_P D vwCl (VW K ad I2 G A14 L) H := hP
        refine lv_aload_n hx hb dX7_number_79 rfl (lv_at hl 1 rfl) ?_
        refine lv_iload_n hx hb dX7_number_80 rfl (lv_at hl 2 rfl) ?_
        obtain ⟨⟨I15, A16⟩, hc17, h⟩ := Option.bind_eq_some_iff.mp h
        refine ecVv (As := [.int a1]) (rest := []) ⟨hx, hb, hml, hown, hts⟩ (e_X7_changes l D K ad hap0 a1 I2 G A14 L I15 A16 hc17) (cwV 1 hts gX7_number_X7_changes rfl rfl rfl (by decide +kernel) ⟨Nat.le_of_ble_eq_true rfl, Nat.le_of_ble_eq_true rfl⟩) hK hP hS (by decide) (show kd 318 = 7 by decide) (by decide) rfl rfl rfl hl.1 (Nat.le_of_ble_eq_true rfl) (Nat.le_of_ble_eq_true rfl) (Nat.le_of_ble_eq_true rfl) dX7_number_81 (fun H locs hP hS => ?_) rfl
        have hP : va_P D vwCl (VW K ad I15 G A16 L) H := hP
        refine lv_iload hx hb dX7_number_84 (lv_at hl 0 rfl) ?_
        exact W.iret (v := (A 325 (((8 * a1) + a2).toNatClampNeg))) hx hb hr (fun t9 ht9 hW9 => ⟨⟨(A 325 (((8 * a1) + a2).toNatClampNeg)), (I15, G, A16, L), rfl, by cases h; exact ⟨rfl, rfl⟩, by rw [ht9]; exact hP, va_K.moved hW9.alike hK⟩, hS.F ht9⟩) hS.2.2 dX7_number_86
      · have h := iN c_12 h
        refine lv_aload_n hx hb dX7_number_47 rfl (lv_at hl 0 rfl) ?_
        refine lv_bipush (v := (-2)) hx hb dX7_number_48 (by decide) ?_
        obtain ⟨⟨r18, I19⟩, hc20, h⟩ := Option.bind_eq_some_iff.mp h
        refine ecV (As := [.int (-2)]) (rest := []) ⟨hx, hb, hml, hown, hts⟩ (e_X7_no l D K ad hap0 (-2) I2 G A L r18 I19 hc20) (cwV 1 hts gX7_number_X7_no rfl rfl rfl (by decide +kernel) ⟨Nat.le_of_ble_eq_true rfl, Nat.le_of_ble_eq_true rfl⟩) hK hP hS (by decide) (show kd 318 = 7 by decide) (by decide) rfl rfl rfl hl.1 (Nat.le_of_ble_eq_true rfl) (Nat.le_of_ble_eq_true rfl) (Nat.le_of_ble_eq_true rfl) dX7_number_50 (fun H locs hP hS => ?_) rfl
        have hP : va_P D vwCl (VW K ad I19 G A L) H := hP
        exact W.iret (v := r18) hx hb hr (fun t9 ht9 hW9 => ⟨⟨r18, (I19, G, A, L), rfl, by cases h; exact ⟨rfl, rfl⟩, by rw [ht9]; exact hP, va_K.moved hW9.alike hK⟩, hS.F ht9⟩) hS.2.2 dX7_number_53
    · have h := ip c_11 h
      refine lv_aload_n hx hb dX7_number_32 rfl (lv_at hl 0 rfl) ?_
      refine lv_iconst (v := (-1)) hx hb dX7_number_33 (by decide) ?_
      obtain ⟨⟨r21, I22⟩, hc23, h⟩ := Option.bind_eq_some_iff.mp h
      refine ecV (As := [.int (-1)]) (rest := []) ⟨hx, hb, hml, hown, hts⟩ (e_X7_no l D K ad hap0 (-1) I2 G A L r21 I22 hc23) (cwV 1 hts gX7_number_X7_no rfl rfl rfl (by decide +kernel) ⟨Nat.le_of_ble_eq_true rfl, Nat.le_of_ble_eq_true rfl⟩) hK hP hS (by decide) (show kd 318 = 7 by decide) (by decide) rfl rfl rfl hl.1 (Nat.le_of_ble_eq_true rfl) (Nat.le_of_ble_eq_true rfl) (Nat.le_of_ble_eq_true rfl) dX7_number_34 (fun H locs hP hS => ?_) rfl
      have hP : va_P D vwCl (VW K ad I22 G A L) H := hP
      exact W.iret (v := r21) hx hb hr (fun t9 ht9 hW9 => ⟨⟨r21, (I22, G, A, L), rfl, by cases h; exact ⟨rfl, rfl⟩, by rw [ht9]; exact hP, va_K.moved hW9.alike hK⟩, hS.F ht9⟩) hS.2.2 dX7_number_37
set_option maxHeartbeats 4000000 in
set_option maxRecDepth 100000 in
theorem e_X7_rowOf (l : Launch) (D : va_G) (K : Nat → ClassId) (ad : Nat → Nat) (hap0 : apart ad (fun _ => True)) (a1 : Int32) (I : Nat → Nat → Int32) (G : Nat → Nat → Nat) (A : Nat → Nat → Int32) (L : Nat → Nat → Int64) (A0 : Nat → Nat → Int32) (h : f_X7_rowOf A a1 = some A0) : Cv l D K ad yX7_rowOf wsX7_rowOf 0 0 [.ref (ad 318), .int a1] (I, G, A, L) (fun (u : Mem) => u = (I, G, A0, L)) := by
  intro sz
  refine Met.ofW (cc := cX7_rowOf) (maxL := 3) (ret := none) (by decide) rfl ?_
  intro p e s m args below meth c s₁ Bd hml hv0
  obtain ⟨rfl, hsz, hP, hK⟩ := hv0
  have hx := Bd.exec
  have hb := Bd.bytes
  have hr := Bd.returns
  have hts := atoms_spec (ws := wsX7_rowOf) Bd.pre
  have hown : s.vm.findClass RX7 = some m.cls := findClass_of_methodNamed Bd.named
  have hlocks := Bd.notSynchronized
  have hi7 : ∀ w ∈ u_ws RX7 TX7 79, w ∈ wsX7_rowOf := fun w h => List.mem_cons_of_mem _ (List.mem_append_right _ h)
  subst hsz
  have hap := vF_ap hap0 s.heap.size
  have hS : va_S (vF ad s.heap.size) s.heap s.heap [] := va_S.rf
  have hP : va_P D vwCl (VW K ad I G A L) s.heap := hP
  have hl := lv_entry ([.ref (ad 318), .int a1]) (n := 3) (Nat.le_of_ble_eq_true rfl)
  rw [lg_entry_eq]
  generalize (lg_sl ([.ref (ad 318), .int a1]) ++ List.replicate (3 - (lg_sl ([.ref (ad 318), .int a1])).length) Slot.unset).toArray = ls at hl ⊢
  have hl : lv_has ls 3 [(0, .ref (ad 318)), (1, .int a1)] := hl
  rw [f_X7_rowOf] at h
  refine lv_iconst (v := 0) hx hb dX7_rowOf_0 (by decide) ?_
  refine lv_istore_n (lv' := [(2, .int 0), (0, .ref (ad 318)), (1, .int a1)]) hx hb dX7_rowOf_1 rfl hl (by decide) rfl (fun ls hl => ?_)
  obtain ⟨k4, ek4, h⟩ := bd_e h
  have kk4 : ∀ (A5 : Nat → Nat → Int32), k4 A5 = some A0 → ∀ (H : Heap) (locs : List Loc), va_P D vwCl (VW K ad I G A5 L) H → va_S (vF ad s.heap.size) s.heap H locs → ∀ (ls : Array Slot), lv_has ls 3 [] → W p l e ({ frames := 0, cells := 0, slots := 0, locals := 0 }) s m ([.ref (ad 318), .int a1] : List Value).toArray below meth c H locs 0 0 (MQ below (va_Qv (fun (u : Mem) => u = (I, G, A0, L)) (vB D K ad) (vF ad s.heap.size)) ([.ref (ad 318), .int a1] : List Value).toArray s 0 0 (vF ad s.heap.size)) (F0 m 31 ls []) := by
    intro A5 h H locs hP hS ls hl
    subst ek4
    exact W.vret hx hb hr (fun t9 ht9 hW9 => ⟨⟨(I, G, A5, L), rfl, by cases h; rfl, by rw [ht9]; exact hP, va_K.moved hW9.alike hK⟩, hS.F ht9⟩) hS.2.2 dX7_rowOf_31
  have lp1 : ∀ (n : Nat) (v2 : Int32) (A3 : Nat → Nat → Int32), f_X7_rowOf_L2 a1 k4 n v2 A3 = some A0 → ∀ (H : Heap) (locs : List Loc), va_P D vwCl (VW K ad I G A3 L) H → va_S (vF ad s.heap.size) s.heap H locs → ∀ (ls : Array Slot), lv_has ls 3 [(2, .int v2), (0, .ref (ad 318)), (1, .int a1)] → W p l e ({ frames := 0, cells := 0, slots := 0, locals := 0 }) s m ([.ref (ad 318), .int a1] : List Value).toArray below meth c H locs 0 0 (MQ below (va_Qv (fun (u : Mem) => u = (I, G, A0, L)) (vB D K ad) (vF ad s.heap.size)) ([.ref (ad 318), .int a1] : List Value).toArray s 0 0 (vF ad s.heap.size)) (F0 m 2 ls []) := by
    intro n
    induction n with
    | zero => intro v2 A3 h; exact absurd h (by rw [f_X7_rowOf_L2]; exact nofun)
    | succ n ih1 =>
      intro v2 A3 h H locs hP hS ls hl
      rw [f_X7_rowOf_L2] at h
      refine lv_iload_n hx hb dX7_rowOf_2 rfl (lv_at hl 0 rfl) ?_
      refine lv_bipush (v := 6) hx hb dX7_rowOf_3 (by decide) ?_
      refine lv_icmp_ge (tgt := 31) hx hb dX7_rowOf_5 (by decide) (fun c_6 => ?_) (fun c_6 => ?_)
      · have h := iN (Int32.not_lt.mpr c_6) h
        exact kk4 A3 h _ _ hP hS ls (lv_sub hl [] rfl)
      · have h := ip (Int32.not_le.mp c_6) h
        refine lv_aload_n hx hb dX7_rowOf_8 rfl (lv_at hl 1 rfl) ?_
        refine vgC hx hb hts hi7 hown hK hP (318) (by decide) (show kd 318 = 7 by decide) (C := RX7) (T := TX7) (N := 79) rfl 63 (by decide) (by decide) (by decide) (by decide) (364) rfl (hts (.fieldLink RX7 159 "CrateHelpersModel" "now" "[I") (by decide +kernel)) (fun _ h9 => h9) dX7_rowOf_9 ?_
        refine lv_iload_n hx hb dX7_rowOf_12 rfl (lv_at hl 0 rfl) ?_
        refine lv_aload_n hx hb dX7_rowOf_13 rfl (lv_at hl 1 rfl) ?_
        refine vgC hx hb hts hi7 hown hK hP (318) (by decide) (show kd 318 = 7 by decide) (C := RX7) (T := TX7) (N := 79) rfl 33 (by decide) (by decide) (by decide) (by decide) (339) rfl (hts (.fieldLink RX7 77 "CrateHelpersModel" "row" "[I") (by decide +kernel)) (fun _ h9 => h9) dX7_rowOf_14 ?_
        refine lv_bipush (v := 6) hx hb dX7_rowOf_17 (by decide) ?_
        refine lv_iload_n hx hb dX7_rowOf_19 rfl (lv_at hl 2 rfl) ?_
        refine lv_imul hx hb dX7_rowOf_20 ?_
        refine lv_iload_n hx hb dX7_rowOf_21 rfl (lv_at hl 0 rfl) ?_
        refine lv_iadd hx hb dX7_rowOf_22 ?_
        obtain ⟨hn7, h⟩ := gk h
        refine xiald hx hb hK hP (339) (by decide) (show kd 339 = 8 by decide) (by rw [show ln 339 = 12000 by decide]; exact hn7) dX7_rowOf_23 ?_
        obtain ⟨hn8, h⟩ := gk h
        refine xiast hx hb hK hP hap hS (364) (by decide) (show kd 364 = 8 by decide) (by rw [show ln 364 = 6 by decide]; exact hn8) dX7_rowOf_24 (fun H locs hP hS => ?_)
        obtain ⟨A9, eA9, h⟩ := bd_e h
        rw [← eA9] at hP
        have hP : va_P D vwCl (VW K ad I G A9 L) H := hP
        refine lv_iinc (v := (v2 + 1)) (lv' := [(2, .int (v2 + 1)), (0, .ref (ad 318)), (1, .int a1)]) hx hb dX7_rowOf_25 hl (k := 0) rfl rfl (by decide) rfl (fun ls hl => ?_)
        refine lv_goto (tgt := 2) hx hb dX7_rowOf_28 (by decide) ?_
        exact ih1 (v2 + 1) A9 h _ _ hP hS ls (lv_sub hl [0, 1, 2] rfl)
  exact lp1 FU 0 A h _ _ hP hS ls (lv_sub hl [0, 1, 2] rfl)
set_option maxHeartbeats 4000000 in
set_option maxRecDepth 100000 in
theorem e_X7_opens (l : Launch) (D : va_G) (K : Nat → ClassId) (ad : Nat → Nat) (hap0 : apart ad (fun _ => True)) (a1 : Int32) (a2 : Int32) (a3 : Int32) (I : Nat → Nat → Int32) (G : Nat → Nat → Nat) (A : Nat → Nat → Int32) (L : Nat → Nat → Int64) (I0 : Nat → Nat → Int32) (A0 : Nat → Nat → Int32) (h : f_X7_opens I A a1 a2 a3 = some (I0, A0)) : Cv l D K ad yX7_opens wsX7_opens 5 143 [.ref (ad 318), .int a1, .int a2, .int a3] (I, G, A, L) (fun (u : Mem) => u = (I0, G, A0, L)) := by
  intro sz
  refine Met.ofW (cc := cX7_opens) (maxL := 7) (ret := none) (by decide) rfl ?_
  intro p e s m args below meth c s₁ Bd hml hv0
  obtain ⟨rfl, hsz, hP, hK⟩ := hv0
  have hx := Bd.exec
  have hb := Bd.bytes
  have hr := Bd.returns
  have hts := atoms_spec (ws := wsX7_opens) Bd.pre
  have hown : s.vm.findClass RX7 = some m.cls := findClass_of_methodNamed Bd.named
  have hlocks := Bd.notSynchronized
  have hi7 : ∀ w ∈ u_ws RX7 TX7 79, w ∈ wsX7_opens := fun w h => List.mem_cons_of_mem _ (List.mem_append_right _ h)
  subst hsz
  have hap := vF_ap hap0 s.heap.size
  have hS : va_S (vF ad s.heap.size) s.heap s.heap [] := va_S.rf
  have hP : va_P D vwCl (VW K ad I G A L) s.heap := hP
  have hl := lv_entry ([.ref (ad 318), .int a1, .int a2, .int a3]) (n := 7) (Nat.le_of_ble_eq_true rfl)
  rw [lg_entry_eq]
  generalize (lg_sl ([.ref (ad 318), .int a1, .int a2, .int a3]) ++ List.replicate (7 - (lg_sl ([.ref (ad 318), .int a1, .int a2, .int a3])).length) Slot.unset).toArray = ls at hl ⊢
  have hl : lv_has ls 7 [(0, .ref (ad 318)), (1, .int a1), (2, .int a2), (3, .int a3)] := hl
  rw [f_X7_opens] at h
  refine lv_aload_n hx hb dX7_opens_0 rfl (lv_at hl 0 rfl) ?_
  refine vgC hx hb hts hi7 hown hK hP (318) (by decide) (show kd 318 = 7 by decide) (C := RX7) (T := TX7) (N := 79) rfl 38 (by decide) (by decide) (by decide) (by decide) (344) rfl (hts (.fieldLink RX7 92 "CrateHelpersModel" "isDone" "[Z") (by decide +kernel)) (fun _ h9 => h9) dX7_opens_1 ?_
  refine lv_iload_n hx hb dX7_opens_4 rfl (lv_at hl 2 rfl) ?_
  refine lv_iconst (v := 1) hx hb dX7_opens_5 (by decide) ?_
  obtain ⟨hn1, h⟩ := gk h
  refine xzast hx hb hK hP hap hS (344) (by decide) (show kd 344 = 11 by decide) (by rw [show ln 344 = 2000 by decide]; exact hn1) dX7_opens_6 (fun H locs hP hS => ?_)
  obtain ⟨A2, eA2, h⟩ := bd_e h
  rw [← eA2] at hP
  have hP : va_P D vwCl (VW K ad I G A2 L) H := hP
  refine lv_aload_n hx hb dX7_opens_7 rfl (lv_at hl 0 rfl) ?_
  refine lv_dup hx hb dX7_opens_8 rfl ?_
  refine vgI hx hb hts hi7 hown hK hP (318) (by decide) (show kd 318 = 7 by decide) (C := RX7) (T := TX7) (N := 79) rfl 30 (by decide) (by decide) (by decide) (by decide) (hts (.fieldLink RX7 287 "CrateHelpersModel" "done" "I") (by decide +kernel)) (fun _ h9 => h9) dX7_opens_9 ?_
  refine lv_iconst (v := 1) hx hb dX7_opens_12 (by decide) ?_
  refine lv_iadd hx hb dX7_opens_13 ?_
  refine vpI (v := ((I 318 30) + 1)) (ty := .int) hx hb hts hi7 tyX7 tyX7_ok nmX7 hown hK hP hap hS (318) (by decide) (show kd 318 = 7 by decide) (C := RX7) (T := TX7) (N := 79) rfl 30 (by decide) (by decide) (by decide) (by decide) (hts (.fieldLink RX7 287 "CrateHelpersModel" "done" "I") (by decide +kernel)) (fun _ h9 => h9) rfl (by decide +kernel) rfl rfl dX7_opens_14 (fun H locs hP hS => ?_)
  obtain ⟨I3, eI3, h⟩ := bd_e h
  rw [← eI3] at hP
  have hP : va_P D vwCl (VW K ad I3 G A2 L) H := hP
  refine lv_aload_n hx hb dX7_opens_17 rfl (lv_at hl 0 rfl) ?_
  refine vgC hx hb hts hi7 hown hK hP (318) (by decide) (show kd 318 = 7 by decide) (C := RX7) (T := TX7) (N := 79) rfl 32 (by decide) (by decide) (by decide) (by decide) (338) rfl (hts (.fieldLink RX7 74 "CrateHelpersModel" "depth" "[I") (by decide +kernel)) (fun _ h9 => h9) dX7_opens_18 ?_
  refine lv_iload_n hx hb dX7_opens_21 rfl (lv_at hl 2 rfl) ?_
  refine xiald hx hb hK hP (338) (by decide) (show kd 338 = 8 by decide) (by rw [show ln 338 = 2000 by decide]; exact hn1) dX7_opens_22 ?_
  refine lv_istore (lv' := [(4, .int (A2 338 a2.toNatClampNeg)), (0, .ref (ad 318)), (1, .int a1), (2, .int a2), (3, .int a3)]) hx hb dX7_opens_23 hl (by decide) rfl (fun ls hl => ?_)
  refine lv_iload hx hb dX7_opens_25 (lv_at hl 0 rfl) ?_
  refine lv_aload_n hx hb dX7_opens_27 rfl (lv_at hl 1 rfl) ?_
  refine vgC hx hb hts hi7 hown hK hP (318) (by decide) (show kd 318 = 7 by decide) (C := RX7) (T := TX7) (N := 79) rfl 3 (by decide) (by decide) (by decide) (by decide) (319) rfl (hts (.fieldLink RX7 7 "CrateHelpersModel" "variables" "[I") (by decide +kernel)) (fun _ h9 => h9) dX7_opens_28 ?_
  refine lv_iload_n hx hb dX7_opens_31 rfl (lv_at hl 2 rfl) ?_
  obtain ⟨hn4, h⟩ := gk h
  refine xiald hx hb hK hP (319) (by decide) (show kd 319 = 8 by decide) (by rw [show ln 319 = 5 by decide]; exact hn4) dX7_opens_32 ?_
  refine lv_icmp_ne (tgt := 37) hx hb dX7_opens_33 (by decide) (fun c_5 => ?_) (fun c_5 => ?_)
  · have h := iN c_5 h
    refine lv_iconst (v := 0) hx hb dX7_opens_37 (by decide) ?_
    refine lv_istore (lv' := [(5, .int 0), (4, .int (A2 338 a2.toNatClampNeg)), (0, .ref (ad 318)), (1, .int a1), (2, .int a2), (3, .int a3)]) hx hb dX7_opens_38 hl (by decide) rfl (fun ls hl => ?_)
    obtain ⟨k11, ek11, h⟩ := bd_e h
    have kk11 : ∀ (I12 : Nat → Nat → Int32) (A13 : Nat → Nat → Int32), k11 I12 A13 = some (I0, A0) → ∀ (H : Heap) (locs : List Loc), va_P D vwCl (VW K ad I12 G A13 L) H → va_S (vF ad s.heap.size) s.heap H locs → ∀ (ls : Array Slot), lv_has ls 7 [] → W p l e ({ frames := 5, cells := 0, slots := 0, locals := 143 }) s m ([.ref (ad 318), .int a1, .int a2, .int a3] : List Value).toArray below meth c H locs 0 0 (MQ below (va_Qv (fun (u : Mem) => u = (I0, G, A0, L)) (vB D K ad) (vF ad s.heap.size)) ([.ref (ad 318), .int a1, .int a2, .int a3] : List Value).toArray s 0 0 (vF ad s.heap.size)) (F0 m 153 ls []) := by
      intro I12 A13 h H locs hP hS ls hl
      subst ek11
      exact W.vret hx hb hr (fun t9 ht9 hW9 => ⟨⟨(I12, G, A13, L), rfl, by cases h; rfl, by rw [ht9]; exact hP, va_K.moved hW9.alike hK⟩, hS.F ht9⟩) hS.2.2 dX7_opens_153
    have lp6 : ∀ (n : Nat) (v7 : Int32) (v8 : Int32) (I9 : Nat → Nat → Int32) (A10 : Nat → Nat → Int32), f_X7_opens_L40 a1 a2 a3 k11 n v7 v8 I9 A10 = some (I0, A0) → ∀ (H : Heap) (locs : List Loc), va_P D vwCl (VW K ad I9 G A10 L) H → va_S (vF ad s.heap.size) s.heap H locs → ∀ (ls : Array Slot), lv_has ls 7 [(5, .int v7), (4, .int v8), (0, .ref (ad 318)), (1, .int a1), (2, .int a2), (3, .int a3)] → W p l e ({ frames := 5, cells := 0, slots := 0, locals := 143 }) s m ([.ref (ad 318), .int a1, .int a2, .int a3] : List Value).toArray below meth c H locs 0 0 (MQ below (va_Qv (fun (u : Mem) => u = (I0, G, A0, L)) (vB D K ad) (vF ad s.heap.size)) ([.ref (ad 318), .int a1, .int a2, .int a3] : List Value).toArray s 0 0 (vF ad s.heap.size)) (F0 m 40 ls []) := by
      intro n
      induction n with
      | zero => intro v7 v8 I9 A10 h; exact absurd h (by rw [f_X7_opens_L40]; exact nofun)
      | succ n ih6 =>
        intro v7 v8 I9 A10 h H locs hP hS ls hl
        rw [f_X7_opens_L40] at h
        refine lv_iload hx hb dX7_opens_40 (lv_at hl 0 rfl) ?_
        refine lv_aload_n hx hb dX7_opens_42 rfl (lv_at hl 2 rfl) ?_
        refine vgC hx hb hts hi7 hown hK hP (318) (by decide) (show kd 318 = 7 by decide) (C := RX7) (T := TX7) (N := 79) rfl 5 (by decide) (by decide) (by decide) (by decide) (321) rfl (hts (.fieldLink RX7 16 "CrateHelpersModel" "values" "[I") (by decide +kernel)) (fun _ h9 => h9) dX7_opens_43 ?_
        refine lv_bipush (v := 6) hx hb dX7_opens_46 (by decide) ?_
        refine lv_iload_n hx hb dX7_opens_48 rfl (lv_at hl 3 rfl) ?_
        refine lv_imul hx hb dX7_opens_49 ?_
        refine lv_iload hx hb dX7_opens_50 (lv_at hl 1 rfl) ?_
        refine lv_iadd hx hb dX7_opens_52 ?_
        obtain ⟨hn14, h⟩ := gk h
        refine xiald hx hb hK hP (321) (by decide) (show kd 321 = 8 by decide) (by rw [show ln 321 = 30 by decide]; exact hn14) dX7_opens_53 ?_
        refine lv_icmp_ge (tgt := 153) hx hb dX7_opens_54 (by decide) (fun c_15 => ?_) (fun c_15 => ?_)
        · have h := iN (Int32.not_lt.mpr c_15) h
          exact kk11 I9 A10 h _ _ hP hS ls (lv_sub hl [] rfl)
        · have h := ip (Int32.not_le.mp c_15) h
          refine lv_aload_n hx hb dX7_opens_57 rfl (lv_at hl 2 rfl) ?_
          refine lv_iload_n hx hb dX7_opens_58 rfl (lv_at hl 4 rfl) ?_
          obtain ⟨A16, hc17, h⟩ := Option.bind_eq_some_iff.mp h
          refine ecVv (As := [.int a2]) (rest := []) ⟨hx, hb, hml, hown, hts⟩ (e_X7_rowOf l D K ad hap0 a2 I9 G A10 L A16 hc17) (cwV 1 hts gX7_opens_X7_rowOf rfl rfl rfl (by decide +kernel) ⟨Nat.le_of_ble_eq_true rfl, Nat.le_of_ble_eq_true rfl⟩) hK hP hS (by decide) (show kd 318 = 7 by decide) (by decide) rfl rfl rfl hl.1 (Nat.le_of_ble_eq_true rfl) (Nat.le_of_ble_eq_true rfl) (Nat.le_of_ble_eq_true rfl) dX7_opens_59 (fun H locs hP hS => ?_) rfl
          have hP : va_P D vwCl (VW K ad I9 G A16 L) H := hP
          refine lv_aload_n hx hb dX7_opens_62 rfl (lv_at hl 2 rfl) ?_
          refine vgC hx hb hts hi7 hown hK hP (318) (by decide) (show kd 318 = 7 by decide) (C := RX7) (T := TX7) (N := 79) rfl 63 (by decide) (by decide) (by decide) (by decide) (364) rfl (hts (.fieldLink RX7 159 "CrateHelpersModel" "now" "[I") (by decide +kernel)) (fun _ h9 => h9) dX7_opens_63 ?_
          refine lv_iload hx hb dX7_opens_66 (lv_at hl 1 rfl) ?_
          refine lv_iload hx hb dX7_opens_68 (lv_at hl 0 rfl) ?_
          obtain ⟨hn18, h⟩ := gk h
          refine xiast hx hb hK hP hap hS (364) (by decide) (show kd 364 = 8 by decide) (by rw [show ln 364 = 6 by decide]; exact hn18) dX7_opens_70 (fun H locs hP hS => ?_)
          obtain ⟨A19, eA19, h⟩ := bd_e h
          rw [← eA19] at hP
          have hP : va_P D vwCl (VW K ad I9 G A19 L) H := hP
          refine lv_aload_n hx hb dX7_opens_71 rfl (lv_at hl 2 rfl) ?_
          refine lv_iload_n hx hb dX7_opens_72 rfl (lv_at hl 3 rfl) ?_
          refine lv_iload hx hb dX7_opens_73 (lv_at hl 1 rfl) ?_
          refine lv_iconst (v := 1) hx hb dX7_opens_75 (by decide) ?_
          refine lv_iadd hx hb dX7_opens_76 ?_
          refine lv_iload_n hx hb dX7_opens_77 rfl (lv_at hl 5 rfl) ?_
          obtain ⟨⟨r20, I21, A22⟩, hc23, h⟩ := Option.bind_eq_some_iff.mp h
          refine ecV (As := [.int a1, .int (v8 + 1), .int a3]) (rest := []) ⟨hx, hb, hml, hown, hts⟩ (e_X7_whatIs l D K ad hap0 a1 (v8 + 1) a3 I9 G A19 L r20 I21 A22 hc23) (cwV 3 hts gX7_opens_X7_whatIs rfl rfl rfl (by decide +kernel) ⟨Nat.le_of_ble_eq_true rfl, Nat.le_of_ble_eq_true rfl⟩) hK hP hS (by decide) (show kd 318 = 7 by decide) (by decide) rfl rfl rfl hl.1 (Nat.le_of_ble_eq_true rfl) (Nat.le_of_ble_eq_true rfl) (Nat.le_of_ble_eq_true rfl) dX7_opens_78 (fun H locs hP hS => ?_) rfl
          have hP : va_P D vwCl (VW K ad I21 G A22 L) H := hP
          refine lv_istore (lv' := [(6, .int r20), (5, .int v7), (4, .int v8), (0, .ref (ad 318)), (1, .int a1), (2, .int a2), (3, .int a3)]) hx hb dX7_opens_81 hl (by decide) rfl (fun ls hl => ?_)
          refine lv_aload_n hx hb dX7_opens_83 rfl (lv_at hl 3 rfl) ?_
          refine vgC hx hb hts hi7 hown hK hP (318) (by decide) (show kd 318 = 7 by decide) (C := RX7) (T := TX7) (N := 79) rfl 41 (by decide) (by decide) (by decide) (by decide) (347) rfl (hts (.fieldLink RX7 102 "CrateHelpersModel" "closing" "[I") (by decide +kernel)) (fun _ h9 => h9) dX7_opens_84 ?_
          refine lv_bipush (v := 6) hx hb dX7_opens_87 (by decide) ?_
          refine lv_iload_n hx hb dX7_opens_89 rfl (lv_at hl 5 rfl) ?_
          refine lv_imul hx hb dX7_opens_90 ?_
          refine lv_iload hx hb dX7_opens_91 (lv_at hl 1 rfl) ?_
          refine lv_iadd hx hb dX7_opens_93 ?_
          refine lv_iload hx hb dX7_opens_94 (lv_at hl 0 rfl) ?_
          obtain ⟨hn24, h⟩ := gk h
          refine xiast hx hb hK hP hap hS (347) (by decide) (show kd 347 = 8 by decide) (by rw [show ln 347 = 12000 by decide]; exact hn24) dX7_opens_96 (fun H locs hP hS => ?_)
          obtain ⟨A25, eA25, h⟩ := bd_e h
          rw [← eA25] at hP
          have hP : va_P D vwCl (VW K ad I21 G A25 L) H := hP
          refine lv_aload_n hx hb dX7_opens_97 rfl (lv_at hl 3 rfl) ?_
          refine vgC hx hb hts hi7 hown hK hP (318) (by decide) (show kd 318 = 7 by decide) (C := RX7) (T := TX7) (N := 79) rfl 42 (by decide) (by decide) (by decide) (by decide) (348) rfl (hts (.fieldLink RX7 105 "CrateHelpersModel" "reason" "[I") (by decide +kernel)) (fun _ h9 => h9) dX7_opens_98 ?_
          refine lv_bipush (v := 6) hx hb dX7_opens_101 (by decide) ?_
          refine lv_iload_n hx hb dX7_opens_103 rfl (lv_at hl 5 rfl) ?_
          refine lv_imul hx hb dX7_opens_104 ?_
          refine lv_iload hx hb dX7_opens_105 (lv_at hl 1 rfl) ?_
          refine lv_iadd hx hb dX7_opens_107 ?_
          refine lv_iload hx hb dX7_opens_108 (lv_at hl 0 rfl) ?_
          obtain ⟨j27, ej27, h⟩ := bd_e h
          have kj27 : ∀ (z26 : Int32), j27 z26 = some (I0, A0) → ∀ (H : Heap) (locs : List Loc), va_P D vwCl (VW K ad I21 G A25 L) H → va_S (vF ad s.heap.size) s.heap H locs → ∀ (ls : Array Slot), lv_has ls 7 [(6, .int r20), (5, .int v7), (4, .int v8), (0, .ref (ad 318)), (1, .int a1), (2, .int a2), (3, .int a3)] → W p l e ({ frames := 5, cells := 0, slots := 0, locals := 143 }) s m ([.ref (ad 318), .int a1, .int a2, .int a3] : List Value).toArray below meth c H locs 0 0 (MQ below (va_Qv (fun (u : Mem) => u = (I0, G, A0, L)) (vB D K ad) (vF ad s.heap.size)) ([.ref (ad 318), .int a1, .int a2, .int a3] : List Value).toArray s 0 0 (vF ad s.heap.size)) (F0 m 122 ls [.int z26, .int ((6 * a2) + v7), .ref (ad 348)]) := by
            intro z26 h H locs hP hS ls hl
            subst ej27
            refine xiast hx hb hK hP hap hS (348) (by decide) (show kd 348 = 8 by decide) (by rw [show ln 348 = 12000 by decide]; exact hn24) dX7_opens_122 (fun H locs hP hS => ?_)
            obtain ⟨A28, eA28, h⟩ := bd_e h
            rw [← eA28] at hP
            have hP : va_P D vwCl (VW K ad I21 G A28 L) H := hP
            refine lv_iload hx hb dX7_opens_123 (lv_at hl 0 rfl) ?_
            refine lv_if_ne (tgt := 147) hx hb dX7_opens_125 (by decide) (fun c_29 => ?_) (fun c_29 => ?_)
            · have h := iN c_29 h
              refine lv_iinc (v := (v7 + 1)) (lv' := [(5, .int (v7 + 1)), (6, .int r20), (4, .int v8), (0, .ref (ad 318)), (1, .int a1), (2, .int a2), (3, .int a3)]) hx hb dX7_opens_147 hl (k := 1) rfl rfl (by decide) rfl (fun ls hl => ?_)
              refine lv_goto (tgt := 40) hx hb dX7_opens_150 (by decide) ?_
              exact ih6 (v7 + 1) v8 I21 A28 h _ _ hP hS ls (lv_sub hl [0, 2, 3, 4, 5, 6] rfl)
            · have h := ip c_29 h
              refine lv_aload_n hx hb dX7_opens_128 rfl (lv_at hl 3 rfl) ?_
              refine lv_iload hx hb dX7_opens_129 (lv_at hl 2 rfl) ?_
              refine lv_iconst (v := 1) hx hb dX7_opens_131 (by decide) ?_
              refine lv_iadd hx hb dX7_opens_132 ?_
              refine lv_iload_n hx hb dX7_opens_133 rfl (lv_at hl 5 rfl) ?_
              obtain ⟨⟨I30, A31⟩, hc32, h⟩ := Option.bind_eq_some_iff.mp h
              refine ecVv (As := [.int (v8 + 1), .int a2]) (rest := []) ⟨hx, hb, hml, hown, hts⟩ (e_X7_addNode l D K ad hap0 (v8 + 1) a2 I21 G A28 L I30 A31 hc32) (cwV 2 hts gX7_opens_X7_addNode rfl rfl rfl (by decide +kernel) ⟨Nat.le_of_ble_eq_true rfl, Nat.le_of_ble_eq_true rfl⟩) hK hP hS (by decide) (show kd 318 = 7 by decide) (by decide) rfl rfl rfl hl.1 (Nat.le_of_ble_eq_true rfl) (Nat.le_of_ble_eq_true rfl) (Nat.le_of_ble_eq_true rfl) dX7_opens_134 (fun H locs hP hS => ?_) rfl
              have hP : va_P D vwCl (VW K ad I30 G A31 L) H := hP
              refine lv_aload_n hx hb dX7_opens_137 rfl (lv_at hl 3 rfl) ?_
              refine vgC hx hb hts hi7 hown hK hP (318) (by decide) (show kd 318 = 7 by decide) (C := RX7) (T := TX7) (N := 79) rfl 43 (by decide) (by decide) (by decide) (by decide) (349) rfl (hts (.fieldLink RX7 108 "CrateHelpersModel" "openBelow" "[I") (by decide +kernel)) (fun _ h9 => h9) dX7_opens_138 ?_
              refine lv_iload_n hx hb dX7_opens_141 rfl (lv_at hl 5 rfl) ?_
              refine lv_dup2_11 hx hb dX7_opens_142 rfl rfl ?_
              refine xiald hx hb hK hP (349) (by decide) (show kd 349 = 8 by decide) (by rw [show ln 349 = 2000 by decide]; exact hn1) dX7_opens_143 ?_
              refine lv_iconst (v := 1) hx hb dX7_opens_144 (by decide) ?_
              refine lv_iadd hx hb dX7_opens_145 ?_
              refine xiast hx hb hK hP hap hS (349) (by decide) (show kd 349 = 8 by decide) (by rw [show ln 349 = 2000 by decide]; exact hn1) dX7_opens_146 (fun H locs hP hS => ?_)
              obtain ⟨A33, eA33, h⟩ := bd_e h
              rw [← eA33] at hP
              have hP : va_P D vwCl (VW K ad I30 G A33 L) H := hP
              refine lv_iinc (v := (v7 + 1)) (lv' := [(5, .int (v7 + 1)), (6, .int r20), (4, .int v8), (0, .ref (ad 318)), (1, .int a1), (2, .int a2), (3, .int a3)]) hx hb dX7_opens_147 hl (k := 1) rfl rfl (by decide) rfl (fun ls hl => ?_)
              refine lv_goto (tgt := 40) hx hb dX7_opens_150 (by decide) ?_
              exact ih6 (v7 + 1) v8 I30 A33 h _ _ hP hS ls (lv_sub hl [0, 2, 3, 4, 5, 6] rfl)
          refine lv_if_ne (tgt := 118) hx hb dX7_opens_110 (by decide) (fun c_34 => ?_) (fun c_34 => ?_)
          · have h := iN c_34 h
            refine lv_aload_n hx hb dX7_opens_118 rfl (lv_at hl 3 rfl) ?_
            refine vgI hx hb hts hi7 hown hK hP (318) (by decide) (show kd 318 = 7 by decide) (C := RX7) (T := TX7) (N := 79) rfl 64 (by decide) (by decide) (by decide) (by decide) (hts (.fieldLink RX7 272 "CrateHelpersModel" "why" "I") (by decide +kernel)) (fun _ h9 => h9) dX7_opens_119 ?_
            exact kj27 (I21 318 64) h _ _ hP hS ls (lv_sub hl [0, 1, 2, 3, 4, 5, 6] rfl)
          · have h := ip c_34 h
            refine lv_bipush (v := (-9)) hx hb dX7_opens_113 (by decide) ?_
            refine lv_goto (tgt := 122) hx hb dX7_opens_115 (by decide) ?_
            exact kj27 (-9) h _ _ hP hS ls (lv_sub hl [0, 1, 2, 3, 4, 5, 6] rfl)
    exact lp6 FU 0 (A2 338 a2.toNatClampNeg) I3 A2 h _ _ hP hS ls (lv_sub hl [0, 1, 2, 3, 4, 5] rfl)
  · have h := ip c_5 h
    exact W.vret hx hb hr (fun t9 ht9 hW9 => ⟨⟨(I3, G, A2, L), rfl, by cases h; rfl, by rw [ht9]; exact hP, va_K.moved hW9.alike hK⟩, hS.F ht9⟩) hS.2.2 dX7_opens_36
set_option maxHeartbeats 4000000 in
set_option maxRecDepth 100000 in
theorem e_X7_part (l : Launch) (D : va_G) (K : Nat → ClassId) (ad : Nat → Nat) (hap0 : apart ad (fun _ => True)) (a1 : Int32) (a2 : Int32) (a3 : Int32) (a4 : Int32) (I : Nat → Nat → Int32) (G : Nat → Nat → Nat) (A : Nat → Nat → Int32) (L : Nat → Nat → Int64) (r0 : Int32) (I0 : Nat → Nat → Int32) (A0 : Nat → Nat → Int32) (h : f_X7_part I A a1 a2 a3 a4 = some (r0, I0, A0)) : Ci l D K ad yX7_part wsX7_part 3 74 [.ref (ad 318), .int a1, .int a2, .int a3, .int a4] (I, G, A, L) (fun (r : Int32) (u : Mem) => r = r0 ∧ u = (I0, G, A0, L)) := by
  intro sz
  refine Met.ofW (cc := cX7_part) (maxL := 6) (ret := (some .int)) (by decide) rfl ?_
  intro p e s m args below meth c s₁ Bd hml hv0
  obtain ⟨rfl, hsz, hP, hK⟩ := hv0
  have hx := Bd.exec
  have hb := Bd.bytes
  have hr := Bd.returns
  have hts := atoms_spec (ws := wsX7_part) Bd.pre
  have hown : s.vm.findClass RX7 = some m.cls := findClass_of_methodNamed Bd.named
  have hlocks := Bd.notSynchronized
  have hi7 : ∀ w ∈ u_ws RX7 TX7 79, w ∈ wsX7_part := fun w h => List.mem_cons_of_mem _ (List.mem_append_right _ h)
  subst hsz
  have hap := vF_ap hap0 s.heap.size
  have hS : va_S (vF ad s.heap.size) s.heap s.heap [] := va_S.rf
  have hP : va_P D vwCl (VW K ad I G A L) s.heap := hP
  have hl := lv_entry ([.ref (ad 318), .int a1, .int a2, .int a3, .int a4]) (n := 6) (Nat.le_of_ble_eq_true rfl)
  rw [lg_entry_eq]
  generalize (lg_sl ([.ref (ad 318), .int a1, .int a2, .int a3, .int a4]) ++ List.replicate (6 - (lg_sl ([.ref (ad 318), .int a1, .int a2, .int a3, .int a4])).length) Slot.unset).toArray = ls at hl ⊢
  have hl : lv_has ls 6 [(0, .ref (ad 318)), (1, .int a1), (2, .int a2), (3, .int a3), (4, .int a4)] := hl
  rw [f_X7_part] at h
  refine lv_aload_n hx hb dX7_part_0 rfl (lv_at hl 0 rfl) ?_
  refine lv_iconst (v := 0) hx hb dX7_part_1 (by decide) ?_
  refine vpI (v := 0) (ty := .int) hx hb hts hi7 tyX7 tyX7_ok nmX7 hown hK hP hap hS (318) (by decide) (show kd 318 = 7 by decide) (C := RX7) (T := TX7) (N := 79) rfl 0 (by decide) (by decide) (by decide) (by decide) (hts (.fieldLink RX7 201 "CrateHelpersModel" "thrown" "I") (by decide +kernel)) (fun _ h9 => h9) rfl (by decide +kernel) rfl rfl dX7_part_2 (fun H locs hP hS => ?_)
  obtain ⟨I1, eI1, h⟩ := bd_e h
  rw [← eI1] at hP
  have hP : va_P D vwCl (VW K ad I1 G A L) H := hP
  refine lv_aload_n hx hb dX7_part_5 rfl (lv_at hl 0 rfl) ?_
  refine lv_iload_n hx hb dX7_part_6 rfl (lv_at hl 1 rfl) ?_
  refine lv_iload_n hx hb dX7_part_7 rfl (lv_at hl 2 rfl) ?_
  obtain ⟨r2, hc3, h⟩ := Option.bind_eq_some_iff.mp h
  refine ecV (As := [.int a1, .int a2]) (rest := []) ⟨hx, hb, hml, hown, hts⟩ (e_X7_isRule l D K ad hap0 a1 a2 I1 G A L r2 hc3) (cwV 2 hts gX7_part_X7_isRule rfl rfl rfl (by decide +kernel) ⟨Nat.le_of_ble_eq_true rfl, Nat.le_of_ble_eq_true rfl⟩) hK hP hS (by decide) (show kd 318 = 7 by decide) (by decide) rfl rfl rfl hl.1 (Nat.le_of_ble_eq_true rfl) (Nat.le_of_ble_eq_true rfl) (Nat.le_of_ble_eq_true rfl) dX7_part_8 (fun H locs hP hS => ?_) rfl
  have hP : va_P D vwCl (VW K ad I1 G A L) H := hP
  refine lv_if_eq (tgt := 42) hx hb dX7_part_11 (by decide) (fun c_4 => ?_) (fun c_4 => ?_)
  · have h := ip c_4 h
    refine lv_iconst (v := (-1)) hx hb dX7_part_42 (by decide) ?_
    exact W.iret (v := (-1)) hx hb hr (fun t9 ht9 hW9 => ⟨⟨(-1), (I1, G, A, L), rfl, by cases h; exact ⟨rfl, rfl⟩, by rw [ht9]; exact hP, va_K.moved hW9.alike hK⟩, hS.F ht9⟩) hS.2.2 dX7_part_43
  · have h := iN c_4 h
    refine lv_iload_n hx hb dX7_part_14 rfl (lv_at hl 3 rfl) ?_
    refine lv_iconst (v := 0) hx hb dX7_part_15 (by decide) ?_
    refine lv_aload_n hx hb dX7_part_16 rfl (lv_at hl 0 rfl) ?_
    refine vgC hx hb hts hi7 hown hK hP (318) (by decide) (show kd 318 = 7 by decide) (C := RX7) (T := TX7) (N := 79) rfl 3 (by decide) (by decide) (by decide) (by decide) (319) rfl (hts (.fieldLink RX7 7 "CrateHelpersModel" "variables" "[I") (by decide +kernel)) (fun _ h9 => h9) dX7_part_17 ?_
    refine lv_iload_n hx hb dX7_part_20 rfl (lv_at hl 1 rfl) ?_
    obtain ⟨hn5, h⟩ := gk h
    refine xiald hx hb hK hP (319) (by decide) (show kd 319 = 8 by decide) (by rw [show ln 319 = 5 by decide]; exact hn5) dX7_part_21 ?_
    refine lv_iconst (v := 1) hx hb dX7_part_22 (by decide) ?_
    refine lv_isub hx hb dX7_part_23 ?_
    obtain ⟨r6, hc7, h⟩ := Option.bind_eq_some_iff.mp h
    refine ecS (As := [.int a3, .int 0, .int ((A 319 a1.toNatClampNeg) - 1)]) (rest := []) ⟨hx, hb, hml, hown, hts⟩ (e_X7_in l D K ad hap0 a3 0 ((A 319 a1.toNatClampNeg) - 1) I1 G A L r6 hc7) (va_cwS 3 hts gX7_part_X7_in rfl rfl rfl (by decide +kernel) ⟨Nat.le_of_ble_eq_true rfl, Nat.le_of_ble_eq_true rfl⟩) hK hP hS rfl hl.1 (Nat.le_of_ble_eq_true rfl) (Nat.le_of_ble_eq_true rfl) (Nat.le_of_ble_eq_true rfl) dX7_part_24 (fun H locs hP hS => ?_) rfl
    have hP : va_P D vwCl (VW K ad I1 G A L) H := hP
    refine lv_if_eq (tgt := 42) hx hb dX7_part_27 (by decide) (fun c_8 => ?_) (fun c_8 => ?_)
    · have h := ip c_8 h
      refine lv_iconst (v := (-1)) hx hb dX7_part_42 (by decide) ?_
      exact W.iret (v := (-1)) hx hb hr (fun t9 ht9 hW9 => ⟨⟨(-1), (I1, G, A, L), rfl, by cases h; exact ⟨rfl, rfl⟩, by rw [ht9]; exact hP, va_K.moved hW9.alike hK⟩, hS.F ht9⟩) hS.2.2 dX7_part_43
    · have h := iN c_8 h
      refine lv_iload hx hb dX7_part_30 (lv_at hl 4 rfl) ?_
      refine lv_bipush (v := (-50)) hx hb dX7_part_32 (by decide) ?_
      refine lv_bipush (v := 50) hx hb dX7_part_34 (by decide) ?_
      obtain ⟨r9, hc10, h⟩ := Option.bind_eq_some_iff.mp h
      refine ecS (As := [.int a4, .int (-50), .int 50]) (rest := []) ⟨hx, hb, hml, hown, hts⟩ (e_X7_in l D K ad hap0 a4 (-50) 50 I1 G A L r9 hc10) (va_cwS 3 hts gX7_part_X7_in rfl rfl rfl (by decide +kernel) ⟨Nat.le_of_ble_eq_true rfl, Nat.le_of_ble_eq_true rfl⟩) hK hP hS rfl hl.1 (Nat.le_of_ble_eq_true rfl) (Nat.le_of_ble_eq_true rfl) (Nat.le_of_ble_eq_true rfl) dX7_part_36 (fun H locs hP hS => ?_) rfl
      have hP : va_P D vwCl (VW K ad I1 G A L) H := hP
      refine lv_if_ne (tgt := 44) hx hb dX7_part_39 (by decide) (fun c_11 => ?_) (fun c_11 => ?_)
      · have h := iN c_11 h
        refine lv_aload_n hx hb dX7_part_44 rfl (lv_at hl 0 rfl) ?_
        refine vgI hx hb hts hi7 hown hK hP (318) (by decide) (show kd 318 = 7 by decide) (C := RX7) (T := TX7) (N := 79) rfl 23 (by decide) (by decide) (by decide) (by decide) (hts (.fieldLink RX7 62 "CrateHelpersModel" "under" "I") (by decide +kernel)) (fun _ h9 => h9) dX7_part_45 ?_
        refine lv_bipush (v := (-9)) hx hb dX7_part_48 (by decide) ?_
        refine lv_icmp_ne (tgt := 65) hx hb dX7_part_50 (by decide) (fun c_12 => ?_) (fun c_12 => ?_)
        · have h := iN c_12 h
          refine lv_bipush (v := (-2)) hx hb dX7_part_65 (by decide) ?_
          exact W.iret (v := (-2)) hx hb hr (fun t9 ht9 hW9 => ⟨⟨(-2), (I1, G, A, L), rfl, by cases h; exact ⟨rfl, rfl⟩, by rw [ht9]; exact hP, va_K.moved hW9.alike hK⟩, hS.F ht9⟩) hS.2.2 dX7_part_67
        · have h := ip c_12 h
          refine lv_aload_n hx hb dX7_part_53 rfl (lv_at hl 0 rfl) ?_
          refine lv_iload_n hx hb dX7_part_54 rfl (lv_at hl 1 rfl) ?_
          refine lv_iload_n hx hb dX7_part_55 rfl (lv_at hl 2 rfl) ?_
          refine lv_iload_n hx hb dX7_part_56 rfl (lv_at hl 3 rfl) ?_
          obtain ⟨r13, hc14, h⟩ := Option.bind_eq_some_iff.mp h
          refine ecV (As := [.int a1, .int a2, .int a3]) (rest := []) ⟨hx, hb, hml, hown, hts⟩ (e_X7_partAt l D K ad hap0 a1 a2 a3 I1 G A L r13 hc14) (cwV 3 hts gX7_part_X7_partAt rfl rfl rfl (by decide +kernel) ⟨Nat.le_of_ble_eq_true rfl, Nat.le_of_ble_eq_true rfl⟩) hK hP hS (by decide) (show kd 318 = 7 by decide) (by decide) rfl rfl rfl hl.1 (Nat.le_of_ble_eq_true rfl) (Nat.le_of_ble_eq_true rfl) (Nat.le_of_ble_eq_true rfl) dX7_part_57 (fun H locs hP hS => ?_) rfl
          have hP : va_P D vwCl (VW K ad I1 G A L) H := hP
          refine lv_bipush (v := (-9)) hx hb dX7_part_60 (by decide) ?_
          refine lv_icmp_eq (tgt := 68) hx hb dX7_part_62 (by decide) (fun c_15 => ?_) (fun c_15 => ?_)
          · have h := ip c_15 h
            refine lv_bipush (v := 8) hx hb dX7_part_68 (by decide) ?_
            refine lv_iload_n hx hb dX7_part_70 rfl (lv_at hl 1 rfl) ?_
            refine lv_imul hx hb dX7_part_71 ?_
            refine lv_iload_n hx hb dX7_part_72 rfl (lv_at hl 2 rfl) ?_
            refine lv_iadd hx hb dX7_part_73 ?_
            refine lv_istore (lv' := [(5, .int ((8 * a1) + a2)), (0, .ref (ad 318)), (1, .int a1), (2, .int a2), (3, .int a3), (4, .int a4)]) hx hb dX7_part_74 hl (by decide) rfl (fun ls hl => ?_)
            refine lv_aload_n hx hb dX7_part_76 rfl (lv_at hl 1 rfl) ?_
            refine vgC hx hb hts hi7 hown hK hP (318) (by decide) (show kd 318 = 7 by decide) (C := RX7) (T := TX7) (N := 79) rfl 11 (by decide) (by decide) (by decide) (by decide) (327) rfl (hts (.fieldLink RX7 34 "CrateHelpersModel" "partOf" "[I") (by decide +kernel)) (fun _ h9 => h9) dX7_part_77 ?_
            refine lv_bipush (v := 6) hx hb dX7_part_80 (by decide) ?_
            refine lv_iload hx hb dX7_part_82 (lv_at hl 0 rfl) ?_
            refine lv_imul hx hb dX7_part_84 ?_
            refine lv_aload_n hx hb dX7_part_85 rfl (lv_at hl 1 rfl) ?_
            refine vgC hx hb hts hi7 hown hK hP (318) (by decide) (show kd 318 = 7 by decide) (C := RX7) (T := TX7) (N := 79) rfl 10 (by decide) (by decide) (by decide) (by decide) (326) rfl (hts (.fieldLink RX7 31 "CrateHelpersModel" "parts" "[I") (by decide +kernel)) (fun _ h9 => h9) dX7_part_86 ?_
            refine lv_iload hx hb dX7_part_89 (lv_at hl 0 rfl) ?_
            obtain ⟨hn16, h⟩ := gk h
            refine xiald hx hb hK hP (326) (by decide) (show kd 326 = 8 by decide) (by rw [show ln 326 = 40 by decide]; exact hn16) dX7_part_91 ?_
            refine lv_iadd hx hb dX7_part_92 ?_
            refine lv_iload_n hx hb dX7_part_93 rfl (lv_at hl 4 rfl) ?_
            obtain ⟨hn17, h⟩ := gk h
            refine xiast hx hb hK hP hap hS (327) (by decide) (show kd 327 = 8 by decide) (by rw [show ln 327 = 240 by decide]; exact hn17) dX7_part_94 (fun H locs hP hS => ?_)
            obtain ⟨A18, eA18, h⟩ := bd_e h
            rw [← eA18] at hP
            have hP : va_P D vwCl (VW K ad I1 G A18 L) H := hP
            refine lv_aload_n hx hb dX7_part_95 rfl (lv_at hl 1 rfl) ?_
            refine vgC hx hb hts hi7 hown hK hP (318) (by decide) (show kd 318 = 7 by decide) (C := RX7) (T := TX7) (N := 79) rfl 12 (by decide) (by decide) (by decide) (by decide) (328) rfl (hts (.fieldLink RX7 37 "CrateHelpersModel" "weight" "[I") (by decide +kernel)) (fun _ h9 => h9) dX7_part_96 ?_
            refine lv_bipush (v := 6) hx hb dX7_part_99 (by decide) ?_
            refine lv_iload hx hb dX7_part_101 (lv_at hl 0 rfl) ?_
            refine lv_imul hx hb dX7_part_103 ?_
            refine lv_aload_n hx hb dX7_part_104 rfl (lv_at hl 1 rfl) ?_
            refine vgC hx hb hts hi7 hown hK hP (318) (by decide) (show kd 318 = 7 by decide) (C := RX7) (T := TX7) (N := 79) rfl 10 (by decide) (by decide) (by decide) (by decide) (326) rfl (hts (.fieldLink RX7 31 "CrateHelpersModel" "parts" "[I") (by decide +kernel)) (fun _ h9 => h9) dX7_part_105 ?_
            refine lv_iload hx hb dX7_part_108 (lv_at hl 0 rfl) ?_
            refine xiald hx hb hK hP (326) (by decide) (show kd 326 = 8 by decide) (by rw [show ln 326 = 40 by decide]; exact hn16) dX7_part_110 ?_
            refine lv_iadd hx hb dX7_part_111 ?_
            refine lv_iload hx hb dX7_part_112 (lv_at hl 5 rfl) ?_
            obtain ⟨hn19, h⟩ := gk h
            refine xiast hx hb hK hP hap hS (328) (by decide) (show kd 328 = 8 by decide) (by rw [show ln 328 = 240 by decide]; exact hn19) dX7_part_114 (fun H locs hP hS => ?_)
            obtain ⟨A20, eA20, h⟩ := bd_e h
            rw [← eA20] at hP
            have hP : va_P D vwCl (VW K ad I1 G A20 L) H := hP
            refine lv_aload_n hx hb dX7_part_115 rfl (lv_at hl 1 rfl) ?_
            refine vgC hx hb hts hi7 hown hK hP (318) (by decide) (show kd 318 = 7 by decide) (C := RX7) (T := TX7) (N := 79) rfl 10 (by decide) (by decide) (by decide) (by decide) (326) rfl (hts (.fieldLink RX7 31 "CrateHelpersModel" "parts" "[I") (by decide +kernel)) (fun _ h9 => h9) dX7_part_116 ?_
            refine lv_iload hx hb dX7_part_119 (lv_at hl 0 rfl) ?_
            refine lv_dup2_11 hx hb dX7_part_121 rfl rfl ?_
            refine xiald hx hb hK hP (326) (by decide) (show kd 326 = 8 by decide) (by rw [show ln 326 = 40 by decide]; exact hn16) dX7_part_122 ?_
            refine lv_iconst (v := 1) hx hb dX7_part_123 (by decide) ?_
            refine lv_iadd hx hb dX7_part_124 ?_
            refine xiast hx hb hK hP hap hS (326) (by decide) (show kd 326 = 8 by decide) (by rw [show ln 326 = 40 by decide]; exact hn16) dX7_part_125 (fun H locs hP hS => ?_)
            obtain ⟨A21, eA21, h⟩ := bd_e h
            rw [← eA21] at hP
            have hP : va_P D vwCl (VW K ad I1 G A21 L) H := hP
            refine lv_aload_n hx hb dX7_part_126 rfl (lv_at hl 1 rfl) ?_
            refine lv_iload_n hx hb dX7_part_127 rfl (lv_at hl 2 rfl) ?_
            obtain ⟨⟨I22, A23⟩, hc24, h⟩ := Option.bind_eq_some_iff.mp h
            refine ecVv (As := [.int a1]) (rest := []) ⟨hx, hb, hml, hown, hts⟩ (e_X7_changes l D K ad hap0 a1 I1 G A21 L I22 A23 hc24) (cwV 1 hts gX7_part_X7_changes rfl rfl rfl (by decide +kernel) ⟨Nat.le_of_ble_eq_true rfl, Nat.le_of_ble_eq_true rfl⟩) hK hP hS (by decide) (show kd 318 = 7 by decide) (by decide) rfl rfl rfl hl.1 (Nat.le_of_ble_eq_true rfl) (Nat.le_of_ble_eq_true rfl) (Nat.le_of_ble_eq_true rfl) dX7_part_128 (fun H locs hP hS => ?_) rfl
            have hP : va_P D vwCl (VW K ad I22 G A23 L) H := hP
            refine lv_aload_n hx hb dX7_part_131 rfl (lv_at hl 1 rfl) ?_
            refine vgC hx hb hts hi7 hown hK hP (318) (by decide) (show kd 318 = 7 by decide) (C := RX7) (T := TX7) (N := 79) rfl 10 (by decide) (by decide) (by decide) (by decide) (326) rfl (hts (.fieldLink RX7 31 "CrateHelpersModel" "parts" "[I") (by decide +kernel)) (fun _ h9 => h9) dX7_part_132 ?_
            refine lv_iload hx hb dX7_part_135 (lv_at hl 0 rfl) ?_
            refine xiald hx hb hK hP (326) (by decide) (show kd 326 = 8 by decide) (by rw [show ln 326 = 40 by decide]; exact hn16) dX7_part_137 ?_
            exact W.iret (v := (A23 326 (((8 * a1) + a2).toNatClampNeg))) hx hb hr (fun t9 ht9 hW9 => ⟨⟨(A23 326 (((8 * a1) + a2).toNatClampNeg)), (I22, G, A23, L), rfl, by cases h; exact ⟨rfl, rfl⟩, by rw [ht9]; exact hP, va_K.moved hW9.alike hK⟩, hS.F ht9⟩) hS.2.2 dX7_part_138
          · have h := iN c_15 h
            refine lv_bipush (v := (-2)) hx hb dX7_part_65 (by decide) ?_
            exact W.iret (v := (-2)) hx hb hr (fun t9 ht9 hW9 => ⟨⟨(-2), (I1, G, A, L), rfl, by cases h; exact ⟨rfl, rfl⟩, by rw [ht9]; exact hP, va_K.moved hW9.alike hK⟩, hS.F ht9⟩) hS.2.2 dX7_part_67
      · have h := ip c_11 h
        refine lv_iconst (v := (-1)) hx hb dX7_part_42 (by decide) ?_
        exact W.iret (v := (-1)) hx hb hr (fun t9 ht9 hW9 => ⟨⟨(-1), (I1, G, A, L), rfl, by cases h; exact ⟨rfl, rfl⟩, by rw [ht9]; exact hP, va_K.moved hW9.alike hK⟩, hS.F ht9⟩) hS.2.2 dX7_part_43
set_option maxHeartbeats 4000000 in
set_option maxRecDepth 100000 in
theorem e_X7_plain (l : Launch) (D : va_G) (K : Nat → ClassId) (ad : Nat → Nat) (hap0 : apart ad (fun _ => True)) (I : Nat → Nat → Int32) (G : Nat → Nat → Nat) (A : Nat → Nat → Int32) (L : Nat → Nat → Int64) (r0 : Int32) (I0 : Nat → Nat → Int32) (h : f_X7_plain I = some (r0, I0)) : Ci l D K ad yX7_plain wsX7_plain 0 0 [.ref (ad 318)] (I, G, A, L) (fun (r : Int32) (u : Mem) => r = r0 ∧ u = (I0, G, A, L)) := by
  intro sz
  refine Met.ofW (cc := cX7_plain) (maxL := 2) (ret := (some .int)) (by decide) rfl ?_
  intro p e s m args below meth c s₁ Bd hml hv0
  obtain ⟨rfl, hsz, hP, hK⟩ := hv0
  have hx := Bd.exec
  have hb := Bd.bytes
  have hr := Bd.returns
  have hts := atoms_spec (ws := wsX7_plain) Bd.pre
  have hown : s.vm.findClass RX7 = some m.cls := findClass_of_methodNamed Bd.named
  have hlocks := Bd.notSynchronized
  have hi7 : ∀ w ∈ u_ws RX7 TX7 79, w ∈ wsX7_plain := fun w h => List.mem_cons_of_mem _ (List.mem_append_right _ h)
  subst hsz
  have hap := vF_ap hap0 s.heap.size
  have hS : va_S (vF ad s.heap.size) s.heap s.heap [] := va_S.rf
  have hP : va_P D vwCl (VW K ad I G A L) s.heap := hP
  have hl := lv_entry ([.ref (ad 318)]) (n := 2) (Nat.le_of_ble_eq_true rfl)
  rw [lg_entry_eq]
  generalize (lg_sl ([.ref (ad 318)]) ++ List.replicate (2 - (lg_sl ([.ref (ad 318)])).length) Slot.unset).toArray = ls at hl ⊢
  have hl : lv_has ls 2 [(0, .ref (ad 318))] := hl
  rw [f_X7_plain] at h
  refine lv_aload_n hx hb dX7_plain_0 rfl (lv_at hl 0 rfl) ?_
  refine lv_iconst (v := 0) hx hb dX7_plain_1 (by decide) ?_
  refine vpI (v := 0) (ty := .int) hx hb hts hi7 tyX7 tyX7_ok nmX7 hown hK hP hap hS (318) (by decide) (show kd 318 = 7 by decide) (C := RX7) (T := TX7) (N := 79) rfl 0 (by decide) (by decide) (by decide) (by decide) (hts (.fieldLink RX7 201 "CrateHelpersModel" "thrown" "I") (by decide +kernel)) (fun _ h9 => h9) rfl (by decide +kernel) rfl rfl dX7_plain_2 (fun H locs hP hS => ?_)
  obtain ⟨I1, eI1, h⟩ := bd_e h
  rw [← eI1] at hP
  have hP : va_P D vwCl (VW K ad I1 G A L) H := hP
  refine lv_aload_n hx hb dX7_plain_5 rfl (lv_at hl 0 rfl) ?_
  refine vgI hx hb hts hi7 hown hK hP (318) (by decide) (show kd 318 = 7 by decide) (C := RX7) (T := TX7) (N := 79) rfl 23 (by decide) (by decide) (by decide) (by decide) (hts (.fieldLink RX7 62 "CrateHelpersModel" "under" "I") (by decide +kernel)) (fun _ h9 => h9) dX7_plain_6 ?_
  refine lv_bipush (v := (-9)) hx hb dX7_plain_9 (by decide) ?_
  refine lv_icmp_eq (tgt := 17) hx hb dX7_plain_11 (by decide) (fun c_2 => ?_) (fun c_2 => ?_)
  · have h := ip c_2 h
    refine lv_aload_n hx hb dX7_plain_17 rfl (lv_at hl 0 rfl) ?_
    refine vgI hx hb hts hi7 hown hK hP (318) (by decide) (show kd 318 = 7 by decide) (C := RX7) (T := TX7) (N := 79) rfl 18 (by decide) (by decide) (by decide) (by decide) (hts (.fieldLink RX7 243 "CrateHelpersModel" "scheduled" "I") (by decide +kernel)) (fun _ h9 => h9) dX7_plain_18 ?_
    refine lv_istore_n (lv' := [(1, .int (I1 318 18)), (0, .ref (ad 318))]) hx hb dX7_plain_21 rfl hl (by decide) rfl (fun ls hl => ?_)
    refine lv_aload_n hx hb dX7_plain_22 rfl (lv_at hl 1 rfl) ?_
    refine lv_iconst (v := 0) hx hb dX7_plain_23 (by decide) ?_
    refine vpI (v := 0) (ty := .int) hx hb hts hi7 tyX7 tyX7_ok nmX7 hown hK hP hap hS (318) (by decide) (show kd 318 = 7 by decide) (C := RX7) (T := TX7) (N := 79) rfl 18 (by decide) (by decide) (by decide) (by decide) (hts (.fieldLink RX7 243 "CrateHelpersModel" "scheduled" "I") (by decide +kernel)) (fun _ h9 => h9) rfl (by decide +kernel) rfl rfl dX7_plain_24 (fun H locs hP hS => ?_)
    obtain ⟨I3, eI3, h⟩ := bd_e h
    rw [← eI3] at hP
    have hP : va_P D vwCl (VW K ad I3 G A L) H := hP
    refine lv_iload_n hx hb dX7_plain_27 rfl (lv_at hl 0 rfl) ?_
    exact W.iret (v := (I1 318 18)) hx hb hr (fun t9 ht9 hW9 => ⟨⟨(I1 318 18), (I3, G, A, L), rfl, by cases h; exact ⟨rfl, rfl⟩, by rw [ht9]; exact hP, va_K.moved hW9.alike hK⟩, hS.F ht9⟩) hS.2.2 dX7_plain_28
  · have h := iN c_2 h
    refine lv_bipush (v := (-2)) hx hb dX7_plain_14 (by decide) ?_
    exact W.iret (v := (-2)) hx hb hr (fun t9 ht9 hW9 => ⟨⟨(-2), (I1, G, A, L), rfl, by cases h; exact ⟨rfl, rfl⟩, by rw [ht9]; exact hP, va_K.moved hW9.alike hK⟩, hS.F ht9⟩) hS.2.2 dX7_plain_16
set_option maxHeartbeats 4000000 in
set_option maxRecDepth 100000 in
theorem e_X7_problem (l : Launch) (D : va_G) (K : Nat → ClassId) (ad : Nat → Nat) (hap0 : apart ad (fun _ => True)) (I : Nat → Nat → Int32) (G : Nat → Nat → Nat) (A : Nat → Nat → Int32) (L : Nat → Nat → Int64) (r0 : Int32) (I0 : Nat → Nat → Int32) (h : f_X7_problem I = some (r0, I0)) : Ci l D K ad yX7_problem wsX7_problem 0 0 [.ref (ad 318)] (I, G, A, L) (fun (r : Int32) (u : Mem) => r = r0 ∧ u = (I0, G, A, L)) := by
  intro sz
  refine Met.ofW (cc := cX7_problem) (maxL := 1) (ret := (some .int)) (by decide) rfl ?_
  intro p e s m args below meth c s₁ Bd hml hv0
  obtain ⟨rfl, hsz, hP, hK⟩ := hv0
  have hx := Bd.exec
  have hb := Bd.bytes
  have hr := Bd.returns
  have hts := atoms_spec (ws := wsX7_problem) Bd.pre
  have hown : s.vm.findClass RX7 = some m.cls := findClass_of_methodNamed Bd.named
  have hlocks := Bd.notSynchronized
  have hi7 : ∀ w ∈ u_ws RX7 TX7 79, w ∈ wsX7_problem := fun w h => List.mem_cons_of_mem _ (List.mem_append_right _ h)
  subst hsz
  have hap := vF_ap hap0 s.heap.size
  have hS : va_S (vF ad s.heap.size) s.heap s.heap [] := va_S.rf
  have hP : va_P D vwCl (VW K ad I G A L) s.heap := hP
  have hl := lv_entry ([.ref (ad 318)]) (n := 1) (Nat.le_of_ble_eq_true rfl)
  rw [lg_entry_eq]
  generalize (lg_sl ([.ref (ad 318)]) ++ List.replicate (1 - (lg_sl ([.ref (ad 318)])).length) Slot.unset).toArray = ls at hl ⊢
  have hl : lv_has ls 1 [(0, .ref (ad 318))] := hl
  rw [f_X7_problem] at h
  refine lv_aload_n hx hb dX7_problem_0 rfl (lv_at hl 0 rfl) ?_
  refine lv_iconst (v := 0) hx hb dX7_problem_1 (by decide) ?_
  refine vpI (v := 0) (ty := .int) hx hb hts hi7 tyX7 tyX7_ok nmX7 hown hK hP hap hS (318) (by decide) (show kd 318 = 7 by decide) (C := RX7) (T := TX7) (N := 79) rfl 0 (by decide) (by decide) (by decide) (by decide) (hts (.fieldLink RX7 201 "CrateHelpersModel" "thrown" "I") (by decide +kernel)) (fun _ h9 => h9) rfl (by decide +kernel) rfl rfl dX7_problem_2 (fun H locs hP hS => ?_)
  obtain ⟨I1, eI1, h⟩ := bd_e h
  rw [← eI1] at hP
  have hP : va_P D vwCl (VW K ad I1 G A L) H := hP
  refine lv_aload_n hx hb dX7_problem_5 rfl (lv_at hl 0 rfl) ?_
  refine vgI hx hb hts hi7 hown hK hP (318) (by decide) (show kd 318 = 7 by decide) (C := RX7) (T := TX7) (N := 79) rfl 23 (by decide) (by decide) (by decide) (by decide) (hts (.fieldLink RX7 62 "CrateHelpersModel" "under" "I") (by decide +kernel)) (fun _ h9 => h9) dX7_problem_6 ?_
  refine lv_bipush (v := (-9)) hx hb dX7_problem_9 (by decide) ?_
  refine lv_icmp_eq (tgt := 17) hx hb dX7_problem_11 (by decide) (fun c_2 => ?_) (fun c_2 => ?_)
  · have h := ip c_2 h
    refine lv_aload_n hx hb dX7_problem_17 rfl (lv_at hl 0 rfl) ?_
    refine vgI hx hb hts hi7 hown hK hP (318) (by decide) (show kd 318 = 7 by decide) (C := RX7) (T := TX7) (N := 79) rfl 2 (by decide) (by decide) (by decide) (by decide) (hts (.fieldLink RX7 204 "CrateHelpersModel" "problems" "I") (by decide +kernel)) (fun _ h9 => h9) dX7_problem_18 ?_
    refine lv_iconst (v := 5) hx hb dX7_problem_21 (by decide) ?_
    refine lv_icmp_ne (tgt := 28) hx hb dX7_problem_22 (by decide) (fun c_3 => ?_) (fun c_3 => ?_)
    · have h := iN c_3 h
      refine lv_aload_n hx hb dX7_problem_28 rfl (lv_at hl 0 rfl) ?_
      refine lv_dup hx hb dX7_problem_29 rfl ?_
      refine vgI hx hb hts hi7 hown hK hP (318) (by decide) (show kd 318 = 7 by decide) (C := RX7) (T := TX7) (N := 79) rfl 2 (by decide) (by decide) (by decide) (by decide) (hts (.fieldLink RX7 204 "CrateHelpersModel" "problems" "I") (by decide +kernel)) (fun _ h9 => h9) dX7_problem_30 ?_
      refine lv_iconst (v := 1) hx hb dX7_problem_33 (by decide) ?_
      refine lv_iadd hx hb dX7_problem_34 ?_
      refine vpI (v := ((I1 318 2) + 1)) (ty := .int) hx hb hts hi7 tyX7 tyX7_ok nmX7 hown hK hP hap hS (318) (by decide) (show kd 318 = 7 by decide) (C := RX7) (T := TX7) (N := 79) rfl 2 (by decide) (by decide) (by decide) (by decide) (hts (.fieldLink RX7 204 "CrateHelpersModel" "problems" "I") (by decide +kernel)) (fun _ h9 => h9) rfl (by decide +kernel) rfl rfl dX7_problem_35 (fun H locs hP hS => ?_)
      obtain ⟨I4, eI4, h⟩ := bd_e h
      rw [← eI4] at hP
      have hP : va_P D vwCl (VW K ad I4 G A L) H := hP
      refine lv_aload_n hx hb dX7_problem_38 rfl (lv_at hl 0 rfl) ?_
      refine vgI hx hb hts hi7 hown hK hP (318) (by decide) (show kd 318 = 7 by decide) (C := RX7) (T := TX7) (N := 79) rfl 2 (by decide) (by decide) (by decide) (by decide) (hts (.fieldLink RX7 204 "CrateHelpersModel" "problems" "I") (by decide +kernel)) (fun _ h9 => h9) dX7_problem_39 ?_
      refine lv_iconst (v := 1) hx hb dX7_problem_42 (by decide) ?_
      refine lv_isub hx hb dX7_problem_43 ?_
      exact W.iret (v := ((I4 318 2) - 1)) hx hb hr (fun t9 ht9 hW9 => ⟨⟨((I4 318 2) - 1), (I4, G, A, L), rfl, by cases h; exact ⟨rfl, rfl⟩, by rw [ht9]; exact hP, va_K.moved hW9.alike hK⟩, hS.F ht9⟩) hS.2.2 dX7_problem_44
    · have h := ip c_3 h
      refine lv_bipush (v := (-3)) hx hb dX7_problem_25 (by decide) ?_
      exact W.iret (v := (-3)) hx hb hr (fun t9 ht9 hW9 => ⟨⟨(-3), (I1, G, A, L), rfl, by cases h; exact ⟨rfl, rfl⟩, by rw [ht9]; exact hP, va_K.moved hW9.alike hK⟩, hS.F ht9⟩) hS.2.2 dX7_problem_27
  · have h := iN c_2 h
    refine lv_bipush (v := (-2)) hx hb dX7_problem_14 (by decide) ?_
    exact W.iret (v := (-2)) hx hb hr (fun t9 ht9 hW9 => ⟨⟨(-2), (I1, G, A, L), rfl, by cases h; exact ⟨rfl, rfl⟩, by rw [ht9]; exact hP, va_K.moved hW9.alike hK⟩, hS.F ht9⟩) hS.2.2 dX7_problem_16

/-! part 51.r07 -/
set_option maxHeartbeats 4000000 in
set_option maxRecDepth 100000 in
theorem e_X7_row (l : Launch) (D : va_G) (K : Nat → ClassId) (ad : Nat → Nat) (hap0 : apart ad (fun _ => True)) (a1 : Int32) (I : Nat → Nat → Int32) (G : Nat → Nat → Nat) (A : Nat → Nat → Int32) (L : Nat → Nat → Int64) (r0 : Int32) (I0 : Nat → Nat → Int32) (h : f_X7_row I A a1 = some (r0, I0)) : Ci l D K ad yX7_row wsX7_row 1 25 [.ref (ad 318), .int a1] (I, G, A, L) (fun (r : Int32) (u : Mem) => r = r0 ∧ u = (I0, G, A, L)) := by
  intro sz
  refine Met.ofW (cc := cX7_row) (maxL := 2) (ret := (some .int)) (by decide) rfl ?_
  intro p e s m args below meth c s₁ Bd hml hv0
  obtain ⟨rfl, hsz, hP, hK⟩ := hv0
  have hx := Bd.exec
  have hb := Bd.bytes
  have hr := Bd.returns
  have hts := atoms_spec (ws := wsX7_row) Bd.pre
  have hown : s.vm.findClass RX7 = some m.cls := findClass_of_methodNamed Bd.named
  have hlocks := Bd.notSynchronized
  have hi7 : ∀ w ∈ u_ws RX7 TX7 79, w ∈ wsX7_row := fun w h => List.mem_cons_of_mem _ (List.mem_append_right _ h)
  subst hsz
  have hap := vF_ap hap0 s.heap.size
  have hS : va_S (vF ad s.heap.size) s.heap s.heap [] := va_S.rf
  have hP : va_P D vwCl (VW K ad I G A L) s.heap := hP
  have hl := lv_entry ([.ref (ad 318), .int a1]) (n := 2) (Nat.le_of_ble_eq_true rfl)
  rw [lg_entry_eq]
  generalize (lg_sl ([.ref (ad 318), .int a1]) ++ List.replicate (2 - (lg_sl ([.ref (ad 318), .int a1])).length) Slot.unset).toArray = ls at hl ⊢
  have hl : lv_has ls 2 [(0, .ref (ad 318)), (1, .int a1)] := hl
  rw [f_X7_row] at h
  refine lv_aload_n hx hb dX7_row_0 rfl (lv_at hl 0 rfl) ?_
  refine lv_iconst (v := 0) hx hb dX7_row_1 (by decide) ?_
  refine vpI (v := 0) (ty := .int) hx hb hts hi7 tyX7 tyX7_ok nmX7 hown hK hP hap hS (318) (by decide) (show kd 318 = 7 by decide) (C := RX7) (T := TX7) (N := 79) rfl 0 (by decide) (by decide) (by decide) (by decide) (hts (.fieldLink RX7 201 "CrateHelpersModel" "thrown" "I") (by decide +kernel)) (fun _ h9 => h9) rfl (by decide +kernel) rfl rfl dX7_row_2 (fun H locs hP hS => ?_)
  obtain ⟨I1, eI1, h⟩ := bd_e h
  rw [← eI1] at hP
  have hP : va_P D vwCl (VW K ad I1 G A L) H := hP
  refine lv_aload_n hx hb dX7_row_5 rfl (lv_at hl 0 rfl) ?_
  refine vgI hx hb hts hi7 hown hK hP (318) (by decide) (show kd 318 = 7 by decide) (C := RX7) (T := TX7) (N := 79) rfl 61 (by decide) (by decide) (by decide) (by decide) (hts (.fieldLink RX7 153 "CrateHelpersModel" "secondMany" "I") (by decide +kernel)) (fun _ h9 => h9) dX7_row_6 ?_
  refine lv_bipush (v := (-9)) hx hb dX7_row_9 (by decide) ?_
  refine lv_icmp_eq (tgt := 37) hx hb dX7_row_11 (by decide) (fun c_2 => ?_) (fun c_2 => ?_)
  · have h := ip c_2 h
    refine lv_bipush (v := (-9)) hx hb dX7_row_37 (by decide) ?_
    exact W.iret (v := (-9)) hx hb hr (fun t9 ht9 hW9 => ⟨⟨(-9), (I1, G, A, L), rfl, by cases h; exact ⟨rfl, rfl⟩, by rw [ht9]; exact hP, va_K.moved hW9.alike hK⟩, hS.F ht9⟩) hS.2.2 dX7_row_39
  · have h := iN c_2 h
    refine lv_iload_n hx hb dX7_row_14 rfl (lv_at hl 1 rfl) ?_
    refine lv_iconst (v := 0) hx hb dX7_row_15 (by decide) ?_
    refine lv_aload_n hx hb dX7_row_16 rfl (lv_at hl 0 rfl) ?_
    refine vgI hx hb hts hi7 hown hK hP (318) (by decide) (show kd 318 = 7 by decide) (C := RX7) (T := TX7) (N := 79) rfl 61 (by decide) (by decide) (by decide) (by decide) (hts (.fieldLink RX7 153 "CrateHelpersModel" "secondMany" "I") (by decide +kernel)) (fun _ h9 => h9) dX7_row_17 ?_
    refine lv_iconst (v := 1) hx hb dX7_row_20 (by decide) ?_
    refine lv_isub hx hb dX7_row_21 ?_
    obtain ⟨r3, hc4, h⟩ := Option.bind_eq_some_iff.mp h
    refine ecS (As := [.int a1, .int 0, .int ((I1 318 61) - 1)]) (rest := []) ⟨hx, hb, hml, hown, hts⟩ (e_X7_in l D K ad hap0 a1 0 ((I1 318 61) - 1) I1 G A L r3 hc4) (va_cwS 3 hts gX7_row_X7_in rfl rfl rfl (by decide +kernel) ⟨Nat.le_of_ble_eq_true rfl, Nat.le_of_ble_eq_true rfl⟩) hK hP hS rfl hl.1 (Nat.le_of_ble_eq_true rfl) (Nat.le_of_ble_eq_true rfl) (Nat.le_of_ble_eq_true rfl) dX7_row_22 (fun H locs hP hS => ?_) rfl
    have hP : va_P D vwCl (VW K ad I1 G A L) H := hP
    refine lv_if_eq (tgt := 37) hx hb dX7_row_25 (by decide) (fun c_5 => ?_) (fun c_5 => ?_)
    · have h := ip c_5 h
      refine lv_bipush (v := (-9)) hx hb dX7_row_37 (by decide) ?_
      exact W.iret (v := (-9)) hx hb hr (fun t9 ht9 hW9 => ⟨⟨(-9), (I1, G, A, L), rfl, by cases h; exact ⟨rfl, rfl⟩, by rw [ht9]; exact hP, va_K.moved hW9.alike hK⟩, hS.F ht9⟩) hS.2.2 dX7_row_39
    · have h := iN c_5 h
      refine lv_aload_n hx hb dX7_row_28 rfl (lv_at hl 0 rfl) ?_
      refine vgC hx hb hts hi7 hown hK hP (318) (by decide) (show kd 318 = 7 by decide) (C := RX7) (T := TX7) (N := 79) rfl 62 (by decide) (by decide) (by decide) (by decide) (363) rfl (hts (.fieldLink RX7 156 "CrateHelpersModel" "secondRow" "[I") (by decide +kernel)) (fun _ h9 => h9) dX7_row_29 ?_
      refine lv_iload_n hx hb dX7_row_32 rfl (lv_at hl 1 rfl) ?_
      obtain ⟨hn6, h⟩ := gk h
      refine xiald hx hb hK hP (363) (by decide) (show kd 363 = 8 by decide) (by rw [show ln 363 = 6 by decide]; exact hn6) dX7_row_33 ?_
      refine lv_goto (tgt := 39) hx hb dX7_row_34 (by decide) ?_
      exact W.iret (v := (A 363 a1.toNatClampNeg)) hx hb hr (fun t9 ht9 hW9 => ⟨⟨(A 363 a1.toNatClampNeg), (I1, G, A, L), rfl, by cases h; exact ⟨rfl, rfl⟩, by rw [ht9]; exact hP, va_K.moved hW9.alike hK⟩, hS.F ht9⟩) hS.2.2 dX7_row_39
set_option maxHeartbeats 4000000 in
set_option maxRecDepth 100000 in
theorem e_X7_rule (l : Launch) (D : va_G) (K : Nat → ClassId) (ad : Nat → Nat) (hap0 : apart ad (fun _ => True)) (a1 : Int32) (a2 : Int32) (a3 : Int32) (I : Nat → Nat → Int32) (G : Nat → Nat → Nat) (A : Nat → Nat → Int32) (L : Nat → Nat → Int64) (r0 : Int32) (I0 : Nat → Nat → Int32) (A0 : Nat → Nat → Int32) (h : f_X7_rule I A a1 a2 a3 = some (r0, I0, A0)) : Ci l D K ad yX7_rule wsX7_rule 2 49 [.ref (ad 318), .int a1, .int a2, .int a3] (I, G, A, L) (fun (r : Int32) (u : Mem) => r = r0 ∧ u = (I0, G, A0, L)) := by
  intro sz
  refine Met.ofW (cc := cX7_rule) (maxL := 5) (ret := (some .int)) (by decide) rfl ?_
  intro p e s m args below meth c s₁ Bd hml hv0
  obtain ⟨rfl, hsz, hP, hK⟩ := hv0
  have hx := Bd.exec
  have hb := Bd.bytes
  have hr := Bd.returns
  have hts := atoms_spec (ws := wsX7_rule) Bd.pre
  have hown : s.vm.findClass RX7 = some m.cls := findClass_of_methodNamed Bd.named
  have hlocks := Bd.notSynchronized
  have hi7 : ∀ w ∈ u_ws RX7 TX7 79, w ∈ wsX7_rule := fun w h => List.mem_cons_of_mem _ (List.mem_append_right _ h)
  subst hsz
  have hap := vF_ap hap0 s.heap.size
  have hS : va_S (vF ad s.heap.size) s.heap s.heap [] := va_S.rf
  have hP : va_P D vwCl (VW K ad I G A L) s.heap := hP
  have hl := lv_entry ([.ref (ad 318), .int a1, .int a2, .int a3]) (n := 5) (Nat.le_of_ble_eq_true rfl)
  rw [lg_entry_eq]
  generalize (lg_sl ([.ref (ad 318), .int a1, .int a2, .int a3]) ++ List.replicate (5 - (lg_sl ([.ref (ad 318), .int a1, .int a2, .int a3])).length) Slot.unset).toArray = ls at hl ⊢
  have hl : lv_has ls 5 [(0, .ref (ad 318)), (1, .int a1), (2, .int a2), (3, .int a3)] := hl
  rw [f_X7_rule] at h
  refine lv_aload_n hx hb dX7_rule_0 rfl (lv_at hl 0 rfl) ?_
  refine lv_iconst (v := 0) hx hb dX7_rule_1 (by decide) ?_
  refine vpI (v := 0) (ty := .int) hx hb hts hi7 tyX7 tyX7_ok nmX7 hown hK hP hap hS (318) (by decide) (show kd 318 = 7 by decide) (C := RX7) (T := TX7) (N := 79) rfl 0 (by decide) (by decide) (by decide) (by decide) (hts (.fieldLink RX7 201 "CrateHelpersModel" "thrown" "I") (by decide +kernel)) (fun _ h9 => h9) rfl (by decide +kernel) rfl rfl dX7_rule_2 (fun H locs hP hS => ?_)
  obtain ⟨I1, eI1, h⟩ := bd_e h
  rw [← eI1] at hP
  have hP : va_P D vwCl (VW K ad I1 G A L) H := hP
  refine lv_aload_n hx hb dX7_rule_5 rfl (lv_at hl 0 rfl) ?_
  refine lv_iload_n hx hb dX7_rule_6 rfl (lv_at hl 1 rfl) ?_
  obtain ⟨r2, hc3, h⟩ := Option.bind_eq_some_iff.mp h
  refine ecV (As := [.int a1]) (rest := []) ⟨hx, hb, hml, hown, hts⟩ (e_X7_isProblem l D K ad hap0 a1 I1 G A L r2 hc3) (cwV 1 hts gX7_rule_X7_isProblem rfl rfl rfl (by decide +kernel) ⟨Nat.le_of_ble_eq_true rfl, Nat.le_of_ble_eq_true rfl⟩) hK hP hS (by decide) (show kd 318 = 7 by decide) (by decide) rfl rfl rfl hl.1 (Nat.le_of_ble_eq_true rfl) (Nat.le_of_ble_eq_true rfl) (Nat.le_of_ble_eq_true rfl) dX7_rule_7 (fun H locs hP hS => ?_) rfl
  have hP : va_P D vwCl (VW K ad I1 G A L) H := hP
  refine lv_if_eq (tgt := 36) hx hb dX7_rule_10 (by decide) (fun c_4 => ?_) (fun c_4 => ?_)
  · have h := ip c_4 h
    refine lv_iconst (v := (-1)) hx hb dX7_rule_36 (by decide) ?_
    exact W.iret (v := (-1)) hx hb hr (fun t9 ht9 hW9 => ⟨⟨(-1), (I1, G, A, L), rfl, by cases h; exact ⟨rfl, rfl⟩, by rw [ht9]; exact hP, va_K.moved hW9.alike hK⟩, hS.F ht9⟩) hS.2.2 dX7_rule_37
  · have h := iN c_4 h
    refine lv_iload_n hx hb dX7_rule_13 rfl (lv_at hl 2 rfl) ?_
    refine lv_iconst (v := 0) hx hb dX7_rule_14 (by decide) ?_
    refine lv_bipush (v := 7) hx hb dX7_rule_15 (by decide) ?_
    obtain ⟨r5, hc6, h⟩ := Option.bind_eq_some_iff.mp h
    refine ecS (As := [.int a2, .int 0, .int 7]) (rest := []) ⟨hx, hb, hml, hown, hts⟩ (e_X7_in l D K ad hap0 a2 0 7 I1 G A L r5 hc6) (va_cwS 3 hts gX7_rule_X7_in rfl rfl rfl (by decide +kernel) ⟨Nat.le_of_ble_eq_true rfl, Nat.le_of_ble_eq_true rfl⟩) hK hP hS rfl hl.1 (Nat.le_of_ble_eq_true rfl) (Nat.le_of_ble_eq_true rfl) (Nat.le_of_ble_eq_true rfl) dX7_rule_17 (fun H locs hP hS => ?_) rfl
    have hP : va_P D vwCl (VW K ad I1 G A L) H := hP
    refine lv_if_eq (tgt := 36) hx hb dX7_rule_20 (by decide) (fun c_7 => ?_) (fun c_7 => ?_)
    · have h := ip c_7 h
      refine lv_iconst (v := (-1)) hx hb dX7_rule_36 (by decide) ?_
      exact W.iret (v := (-1)) hx hb hr (fun t9 ht9 hW9 => ⟨⟨(-1), (I1, G, A, L), rfl, by cases h; exact ⟨rfl, rfl⟩, by rw [ht9]; exact hP, va_K.moved hW9.alike hK⟩, hS.F ht9⟩) hS.2.2 dX7_rule_37
    · have h := iN c_7 h
      refine lv_iload_n hx hb dX7_rule_23 rfl (lv_at hl 3 rfl) ?_
      refine lv_sipush (v := (-1000)) hx hb dX7_rule_24 (by decide) ?_
      refine lv_sipush (v := 1000) hx hb dX7_rule_27 (by decide) ?_
      obtain ⟨r8, hc9, h⟩ := Option.bind_eq_some_iff.mp h
      refine ecS (As := [.int a3, .int (-1000), .int 1000]) (rest := []) ⟨hx, hb, hml, hown, hts⟩ (e_X7_in l D K ad hap0 a3 (-1000) 1000 I1 G A L r8 hc9) (va_cwS 3 hts gX7_rule_X7_in rfl rfl rfl (by decide +kernel) ⟨Nat.le_of_ble_eq_true rfl, Nat.le_of_ble_eq_true rfl⟩) hK hP hS rfl hl.1 (Nat.le_of_ble_eq_true rfl) (Nat.le_of_ble_eq_true rfl) (Nat.le_of_ble_eq_true rfl) dX7_rule_30 (fun H locs hP hS => ?_) rfl
      have hP : va_P D vwCl (VW K ad I1 G A L) H := hP
      refine lv_if_ne (tgt := 38) hx hb dX7_rule_33 (by decide) (fun c_10 => ?_) (fun c_10 => ?_)
      · have h := iN c_10 h
        refine lv_aload_n hx hb dX7_rule_38 rfl (lv_at hl 0 rfl) ?_
        refine vgI hx hb hts hi7 hown hK hP (318) (by decide) (show kd 318 = 7 by decide) (C := RX7) (T := TX7) (N := 79) rfl 23 (by decide) (by decide) (by decide) (by decide) (hts (.fieldLink RX7 62 "CrateHelpersModel" "under" "I") (by decide +kernel)) (fun _ h9 => h9) dX7_rule_39 ?_
        refine lv_bipush (v := (-9)) hx hb dX7_rule_42 (by decide) ?_
        refine lv_icmp_eq (tgt := 50) hx hb dX7_rule_44 (by decide) (fun c_11 => ?_) (fun c_11 => ?_)
        · have h := ip c_11 h
          refine lv_aload_n hx hb dX7_rule_50 rfl (lv_at hl 0 rfl) ?_
          refine vgC hx hb hts hi7 hown hK hP (318) (by decide) (show kd 318 = 7 by decide) (C := RX7) (T := TX7) (N := 79) rfl 4 (by decide) (by decide) (by decide) (by decide) (320) rfl (hts (.fieldLink RX7 13 "CrateHelpersModel" "rules" "[I") (by decide +kernel)) (fun _ h9 => h9) dX7_rule_51 ?_
          refine lv_iload_n hx hb dX7_rule_54 rfl (lv_at hl 1 rfl) ?_
          obtain ⟨hn12, h⟩ := gk h
          refine xiald hx hb hK hP (320) (by decide) (show kd 320 = 8 by decide) (by rw [show ln 320 = 5 by decide]; exact hn12) dX7_rule_55 ?_
          refine lv_bipush (v := 8) hx hb dX7_rule_56 (by decide) ?_
          refine lv_icmp_ne (tgt := 64) hx hb dX7_rule_58 (by decide) (fun c_13 => ?_) (fun c_13 => ?_)
          · have h := iN c_13 h
            refine lv_aload_n hx hb dX7_rule_64 rfl (lv_at hl 0 rfl) ?_
            refine vgC hx hb hts hi7 hown hK hP (318) (by decide) (show kd 318 = 7 by decide) (C := RX7) (T := TX7) (N := 79) rfl 4 (by decide) (by decide) (by decide) (by decide) (320) rfl (hts (.fieldLink RX7 13 "CrateHelpersModel" "rules" "[I") (by decide +kernel)) (fun _ h9 => h9) dX7_rule_65 ?_
            refine lv_iload_n hx hb dX7_rule_68 rfl (lv_at hl 1 rfl) ?_
            refine xiald hx hb hK hP (320) (by decide) (show kd 320 = 8 by decide) (by rw [show ln 320 = 5 by decide]; exact hn12) dX7_rule_69 ?_
            refine lv_istore (lv' := [(4, .int (A 320 a1.toNatClampNeg)), (0, .ref (ad 318)), (1, .int a1), (2, .int a2), (3, .int a3)]) hx hb dX7_rule_70 hl (by decide) rfl (fun ls hl => ?_)
            refine lv_aload_n hx hb dX7_rule_72 rfl (lv_at hl 1 rfl) ?_
            refine vgC hx hb hts hi7 hown hK hP (318) (by decide) (show kd 318 = 7 by decide) (C := RX7) (T := TX7) (N := 79) rfl 8 (by decide) (by decide) (by decide) (by decide) (324) rfl (hts (.fieldLink RX7 25 "CrateHelpersModel" "ruleKind" "[I") (by decide +kernel)) (fun _ h9 => h9) dX7_rule_73 ?_
            refine lv_bipush (v := 8) hx hb dX7_rule_76 (by decide) ?_
            refine lv_iload_n hx hb dX7_rule_78 rfl (lv_at hl 2 rfl) ?_
            refine lv_imul hx hb dX7_rule_79 ?_
            refine lv_iload hx hb dX7_rule_80 (lv_at hl 0 rfl) ?_
            refine lv_iadd hx hb dX7_rule_82 ?_
            refine lv_iload_n hx hb dX7_rule_83 rfl (lv_at hl 3 rfl) ?_
            obtain ⟨hn14, h⟩ := gk h
            refine xiast hx hb hK hP hap hS (324) (by decide) (show kd 324 = 8 by decide) (by rw [show ln 324 = 40 by decide]; exact hn14) dX7_rule_84 (fun H locs hP hS => ?_)
            obtain ⟨A15, eA15, h⟩ := bd_e h
            rw [← eA15] at hP
            have hP : va_P D vwCl (VW K ad I1 G A15 L) H := hP
            refine lv_aload_n hx hb dX7_rule_85 rfl (lv_at hl 1 rfl) ?_
            refine vgC hx hb hts hi7 hown hK hP (318) (by decide) (show kd 318 = 7 by decide) (C := RX7) (T := TX7) (N := 79) rfl 9 (by decide) (by decide) (by decide) (by decide) (325) rfl (hts (.fieldLink RX7 28 "CrateHelpersModel" "ruleNumber" "[I") (by decide +kernel)) (fun _ h9 => h9) dX7_rule_86 ?_
            refine lv_bipush (v := 8) hx hb dX7_rule_89 (by decide) ?_
            refine lv_iload_n hx hb dX7_rule_91 rfl (lv_at hl 2 rfl) ?_
            refine lv_imul hx hb dX7_rule_92 ?_
            refine lv_iload hx hb dX7_rule_93 (lv_at hl 0 rfl) ?_
            refine lv_iadd hx hb dX7_rule_95 ?_
            refine lv_iload_n hx hb dX7_rule_96 rfl (lv_at hl 4 rfl) ?_
            refine xiast hx hb hK hP hap hS (325) (by decide) (show kd 325 = 8 by decide) (by rw [show ln 325 = 40 by decide]; exact hn14) dX7_rule_97 (fun H locs hP hS => ?_)
            obtain ⟨A16, eA16, h⟩ := bd_e h
            rw [← eA16] at hP
            have hP : va_P D vwCl (VW K ad I1 G A16 L) H := hP
            refine lv_aload_n hx hb dX7_rule_98 rfl (lv_at hl 1 rfl) ?_
            refine vgC hx hb hts hi7 hown hK hP (318) (by decide) (show kd 318 = 7 by decide) (C := RX7) (T := TX7) (N := 79) rfl 4 (by decide) (by decide) (by decide) (by decide) (320) rfl (hts (.fieldLink RX7 13 "CrateHelpersModel" "rules" "[I") (by decide +kernel)) (fun _ h9 => h9) dX7_rule_99 ?_
            refine lv_iload_n hx hb dX7_rule_102 rfl (lv_at hl 2 rfl) ?_
            refine lv_dup2_11 hx hb dX7_rule_103 rfl rfl ?_
            refine xiald hx hb hK hP (320) (by decide) (show kd 320 = 8 by decide) (by rw [show ln 320 = 5 by decide]; exact hn12) dX7_rule_104 ?_
            refine lv_iconst (v := 1) hx hb dX7_rule_105 (by decide) ?_
            refine lv_iadd hx hb dX7_rule_106 ?_
            refine xiast hx hb hK hP hap hS (320) (by decide) (show kd 320 = 8 by decide) (by rw [show ln 320 = 5 by decide]; exact hn12) dX7_rule_107 (fun H locs hP hS => ?_)
            obtain ⟨A17, eA17, h⟩ := bd_e h
            rw [← eA17] at hP
            have hP : va_P D vwCl (VW K ad I1 G A17 L) H := hP
            refine lv_aload_n hx hb dX7_rule_108 rfl (lv_at hl 1 rfl) ?_
            refine lv_iload_n hx hb dX7_rule_109 rfl (lv_at hl 2 rfl) ?_
            obtain ⟨⟨I18, A19⟩, hc20, h⟩ := Option.bind_eq_some_iff.mp h
            refine ecVv (As := [.int a1]) (rest := []) ⟨hx, hb, hml, hown, hts⟩ (e_X7_changes l D K ad hap0 a1 I1 G A17 L I18 A19 hc20) (cwV 1 hts gX7_rule_X7_changes rfl rfl rfl (by decide +kernel) ⟨Nat.le_of_ble_eq_true rfl, Nat.le_of_ble_eq_true rfl⟩) hK hP hS (by decide) (show kd 318 = 7 by decide) (by decide) rfl rfl rfl hl.1 (Nat.le_of_ble_eq_true rfl) (Nat.le_of_ble_eq_true rfl) (Nat.le_of_ble_eq_true rfl) dX7_rule_110 (fun H locs hP hS => ?_) rfl
            have hP : va_P D vwCl (VW K ad I18 G A19 L) H := hP
            refine lv_iload hx hb dX7_rule_113 (lv_at hl 0 rfl) ?_
            exact W.iret (v := (A 320 a1.toNatClampNeg)) hx hb hr (fun t9 ht9 hW9 => ⟨⟨(A 320 a1.toNatClampNeg), (I18, G, A19, L), rfl, by cases h; exact ⟨rfl, rfl⟩, by rw [ht9]; exact hP, va_K.moved hW9.alike hK⟩, hS.F ht9⟩) hS.2.2 dX7_rule_115
          · have h := ip c_13 h
            refine lv_bipush (v := (-3)) hx hb dX7_rule_61 (by decide) ?_
            exact W.iret (v := (-3)) hx hb hr (fun t9 ht9 hW9 => ⟨⟨(-3), (I1, G, A, L), rfl, by cases h; exact ⟨rfl, rfl⟩, by rw [ht9]; exact hP, va_K.moved hW9.alike hK⟩, hS.F ht9⟩) hS.2.2 dX7_rule_63
        · have h := iN c_11 h
          refine lv_bipush (v := (-2)) hx hb dX7_rule_47 (by decide) ?_
          exact W.iret (v := (-2)) hx hb hr (fun t9 ht9 hW9 => ⟨⟨(-2), (I1, G, A, L), rfl, by cases h; exact ⟨rfl, rfl⟩, by rw [ht9]; exact hP, va_K.moved hW9.alike hK⟩, hS.F ht9⟩) hS.2.2 dX7_rule_49
      · have h := ip c_10 h
        refine lv_iconst (v := (-1)) hx hb dX7_rule_36 (by decide) ?_
        exact W.iret (v := (-1)) hx hb hr (fun t9 ht9 hW9 => ⟨⟨(-1), (I1, G, A, L), rfl, by cases h; exact ⟨rfl, rfl⟩, by rw [ht9]; exact hP, va_K.moved hW9.alike hK⟩, hS.F ht9⟩) hS.2.2 dX7_rule_37
set_option maxHeartbeats 4000000 in
set_option maxRecDepth 100000 in
theorem e_X7_same (l : Launch) (D : va_G) (K : Nat → ClassId) (ad : Nat → Nat) (hap0 : apart ad (fun _ => True)) (a1 : Int32) (a2 : Int32) (I : Nat → Nat → Int32) (G : Nat → Nat → Nat) (A : Nat → Nat → Int32) (L : Nat → Nat → Int64) (r0 : Int32) (I0 : Nat → Nat → Int32) (h : f_X7_same I a1 a2 = some (r0, I0)) : Ci l D K ad yX7_same wsX7_same 2 49 [.ref (ad 318), .int a1, .int a2] (I, G, A, L) (fun (r : Int32) (u : Mem) => r = r0 ∧ u = (I0, G, A, L)) := by
  intro sz
  refine Met.ofW (cc := cX7_same) (maxL := 3) (ret := (some .int)) (by decide) rfl ?_
  intro p e s m args below meth c s₁ Bd hml hv0
  obtain ⟨rfl, hsz, hP, hK⟩ := hv0
  have hx := Bd.exec
  have hb := Bd.bytes
  have hr := Bd.returns
  have hts := atoms_spec (ws := wsX7_same) Bd.pre
  have hown : s.vm.findClass RX7 = some m.cls := findClass_of_methodNamed Bd.named
  have hlocks := Bd.notSynchronized
  have hi7 : ∀ w ∈ u_ws RX7 TX7 79, w ∈ wsX7_same := fun w h => List.mem_cons_of_mem _ (List.mem_append_right _ h)
  subst hsz
  have hap := vF_ap hap0 s.heap.size
  have hS : va_S (vF ad s.heap.size) s.heap s.heap [] := va_S.rf
  have hP : va_P D vwCl (VW K ad I G A L) s.heap := hP
  have hl := lv_entry ([.ref (ad 318), .int a1, .int a2]) (n := 3) (Nat.le_of_ble_eq_true rfl)
  rw [lg_entry_eq]
  generalize (lg_sl ([.ref (ad 318), .int a1, .int a2]) ++ List.replicate (3 - (lg_sl ([.ref (ad 318), .int a1, .int a2])).length) Slot.unset).toArray = ls at hl ⊢
  have hl : lv_has ls 3 [(0, .ref (ad 318)), (1, .int a1), (2, .int a2)] := hl
  rw [f_X7_same] at h
  refine lv_aload_n hx hb dX7_same_0 rfl (lv_at hl 0 rfl) ?_
  refine lv_iconst (v := 0) hx hb dX7_same_1 (by decide) ?_
  refine vpI (v := 0) (ty := .int) hx hb hts hi7 tyX7 tyX7_ok nmX7 hown hK hP hap hS (318) (by decide) (show kd 318 = 7 by decide) (C := RX7) (T := TX7) (N := 79) rfl 0 (by decide) (by decide) (by decide) (by decide) (hts (.fieldLink RX7 201 "CrateHelpersModel" "thrown" "I") (by decide +kernel)) (fun _ h9 => h9) rfl (by decide +kernel) rfl rfl dX7_same_2 (fun H locs hP hS => ?_)
  obtain ⟨I1, eI1, h⟩ := bd_e h
  rw [← eI1] at hP
  have hP : va_P D vwCl (VW K ad I1 G A L) H := hP
  refine lv_aload_n hx hb dX7_same_5 rfl (lv_at hl 0 rfl) ?_
  refine lv_iload_n hx hb dX7_same_6 rfl (lv_at hl 1 rfl) ?_
  obtain ⟨r2, hc3, h⟩ := Option.bind_eq_some_iff.mp h
  refine ecV (As := [.int a1]) (rest := []) ⟨hx, hb, hml, hown, hts⟩ (e_X7_isProblem l D K ad hap0 a1 I1 G A L r2 hc3) (cwV 1 hts gX7_same_X7_isProblem rfl rfl rfl (by decide +kernel) ⟨Nat.le_of_ble_eq_true rfl, Nat.le_of_ble_eq_true rfl⟩) hK hP hS (by decide) (show kd 318 = 7 by decide) (by decide) rfl rfl rfl hl.1 (Nat.le_of_ble_eq_true rfl) (Nat.le_of_ble_eq_true rfl) (Nat.le_of_ble_eq_true rfl) dX7_same_7 (fun H locs hP hS => ?_) rfl
  have hP : va_P D vwCl (VW K ad I1 G A L) H := hP
  refine lv_if_eq (tgt := 22) hx hb dX7_same_10 (by decide) (fun c_4 => ?_) (fun c_4 => ?_)
  · have h := ip c_4 h
    refine lv_iconst (v := (-1)) hx hb dX7_same_22 (by decide) ?_
    exact W.iret (v := (-1)) hx hb hr (fun t9 ht9 hW9 => ⟨⟨(-1), (I1, G, A, L), rfl, by cases h; exact ⟨rfl, rfl⟩, by rw [ht9]; exact hP, va_K.moved hW9.alike hK⟩, hS.F ht9⟩) hS.2.2 dX7_same_23
  · have h := iN c_4 h
    refine lv_iload_n hx hb dX7_same_13 rfl (lv_at hl 2 rfl) ?_
    refine lv_iconst (v := 1) hx hb dX7_same_14 (by decide) ?_
    refine lv_iconst (v := 5) hx hb dX7_same_15 (by decide) ?_
    obtain ⟨r5, hc6, h⟩ := Option.bind_eq_some_iff.mp h
    refine ecS (As := [.int a2, .int 1, .int 5]) (rest := []) ⟨hx, hb, hml, hown, hts⟩ (e_X7_in l D K ad hap0 a2 1 5 I1 G A L r5 hc6) (va_cwS 3 hts gX7_same_X7_in rfl rfl rfl (by decide +kernel) ⟨Nat.le_of_ble_eq_true rfl, Nat.le_of_ble_eq_true rfl⟩) hK hP hS rfl hl.1 (Nat.le_of_ble_eq_true rfl) (Nat.le_of_ble_eq_true rfl) (Nat.le_of_ble_eq_true rfl) dX7_same_16 (fun H locs hP hS => ?_) rfl
    have hP : va_P D vwCl (VW K ad I1 G A L) H := hP
    refine lv_if_ne (tgt := 24) hx hb dX7_same_19 (by decide) (fun c_7 => ?_) (fun c_7 => ?_)
    · have h := iN c_7 h
      refine lv_aload_n hx hb dX7_same_24 rfl (lv_at hl 0 rfl) ?_
      refine vgI hx hb hts hi7 hown hK hP (318) (by decide) (show kd 318 = 7 by decide) (C := RX7) (T := TX7) (N := 79) rfl 23 (by decide) (by decide) (by decide) (by decide) (hts (.fieldLink RX7 62 "CrateHelpersModel" "under" "I") (by decide +kernel)) (fun _ h9 => h9) dX7_same_25 ?_
      refine lv_bipush (v := (-9)) hx hb dX7_same_28 (by decide) ?_
      refine lv_icmp_eq (tgt := 38) hx hb dX7_same_30 (by decide) (fun c_8 => ?_) (fun c_8 => ?_)
      · have h := ip c_8 h
        refine lv_iconst (v := 1) hx hb dX7_same_38 (by decide) ?_
        exact W.iret (v := 1) hx hb hr (fun t9 ht9 hW9 => ⟨⟨1, (I1, G, A, L), rfl, by cases h; exact ⟨rfl, rfl⟩, by rw [ht9]; exact hP, va_K.moved hW9.alike hK⟩, hS.F ht9⟩) hS.2.2 dX7_same_39
      · have h := iN c_8 h
        refine lv_bipush (v := (-2)) hx hb dX7_same_33 (by decide) ?_
        refine lv_goto (tgt := 39) hx hb dX7_same_35 (by decide) ?_
        exact W.iret (v := (-2)) hx hb hr (fun t9 ht9 hW9 => ⟨⟨(-2), (I1, G, A, L), rfl, by cases h; exact ⟨rfl, rfl⟩, by rw [ht9]; exact hP, va_K.moved hW9.alike hK⟩, hS.F ht9⟩) hS.2.2 dX7_same_39
    · have h := ip c_7 h
      refine lv_iconst (v := (-1)) hx hb dX7_same_22 (by decide) ?_
      exact W.iret (v := (-1)) hx hb hr (fun t9 ht9 hW9 => ⟨⟨(-1), (I1, G, A, L), rfl, by cases h; exact ⟨rfl, rfl⟩, by rw [ht9]; exact hP, va_K.moved hW9.alike hK⟩, hS.F ht9⟩) hS.2.2 dX7_same_23
set_option maxHeartbeats 4000000 in
set_option maxRecDepth 100000 in
theorem e_X7_takes (l : Launch) (D : va_G) (K : Nat → ClassId) (ad : Nat → Nat) (hap0 : apart ad (fun _ => True)) (a1 : Int32) (I : Nat → Nat → Int32) (G : Nat → Nat → Nat) (A : Nat → Nat → Int32) (L : Nat → Nat → Int64) (I0 : Nat → Nat → Int32) (A0 : Nat → Nat → Int32) (h : f_X7_takes I A a1 = some (I0, A0)) : Cv l D K ad yX7_takes wsX7_takes 0 0 [.ref (ad 318), .int a1] (I, G, A, L) (fun (u : Mem) => u = (I0, G, A0, L)) := by
  intro sz
  refine Met.ofW (cc := cX7_takes) (maxL := 2) (ret := none) (by decide) rfl ?_
  intro p e s m args below meth c s₁ Bd hml hv0
  obtain ⟨rfl, hsz, hP, hK⟩ := hv0
  have hx := Bd.exec
  have hb := Bd.bytes
  have hr := Bd.returns
  have hts := atoms_spec (ws := wsX7_takes) Bd.pre
  have hown : s.vm.findClass RX7 = some m.cls := findClass_of_methodNamed Bd.named
  have hlocks := Bd.notSynchronized
  have hi7 : ∀ w ∈ u_ws RX7 TX7 79, w ∈ wsX7_takes := fun w h => List.mem_cons_of_mem _ (List.mem_append_right _ h)
  subst hsz
  have hap := vF_ap hap0 s.heap.size
  have hS : va_S (vF ad s.heap.size) s.heap s.heap [] := va_S.rf
  have hP : va_P D vwCl (VW K ad I G A L) s.heap := hP
  have hl := lv_entry ([.ref (ad 318), .int a1]) (n := 2) (Nat.le_of_ble_eq_true rfl)
  rw [lg_entry_eq]
  generalize (lg_sl ([.ref (ad 318), .int a1]) ++ List.replicate (2 - (lg_sl ([.ref (ad 318), .int a1])).length) Slot.unset).toArray = ls at hl ⊢
  have hl : lv_has ls 2 [(0, .ref (ad 318)), (1, .int a1)] := hl
  rw [f_X7_takes] at h
  refine lv_aload_n hx hb dX7_takes_0 rfl (lv_at hl 0 rfl) ?_
  refine vgC hx hb hts hi7 hown hK hP (318) (by decide) (show kd 318 = 7 by decide) (C := RX7) (T := TX7) (N := 79) rfl 39 (by decide) (by decide) (by decide) (by decide) (345) rfl (hts (.fieldLink RX7 96 "CrateHelpersModel" "isTaken" "[Z") (by decide +kernel)) (fun _ h9 => h9) dX7_takes_1 ?_
  refine lv_iload_n hx hb dX7_takes_4 rfl (lv_at hl 1 rfl) ?_
  refine lv_iconst (v := 1) hx hb dX7_takes_5 (by decide) ?_
  obtain ⟨hn1, h⟩ := gk h
  refine xzast hx hb hK hP hap hS (345) (by decide) (show kd 345 = 11 by decide) (by rw [show ln 345 = 2000 by decide]; exact hn1) dX7_takes_6 (fun H locs hP hS => ?_)
  obtain ⟨A2, eA2, h⟩ := bd_e h
  rw [← eA2] at hP
  have hP : va_P D vwCl (VW K ad I G A2 L) H := hP
  refine lv_aload_n hx hb dX7_takes_7 rfl (lv_at hl 0 rfl) ?_
  refine vgC hx hb hts hi7 hown hK hP (318) (by decide) (show kd 318 = 7 by decide) (C := RX7) (T := TX7) (N := 79) rfl 40 (by decide) (by decide) (by decide) (by decide) (346) rfl (hts (.fieldLink RX7 99 "CrateHelpersModel" "order" "[I") (by decide +kernel)) (fun _ h9 => h9) dX7_takes_8 ?_
  refine lv_aload_n hx hb dX7_takes_11 rfl (lv_at hl 0 rfl) ?_
  refine vgI hx hb hts hi7 hown hK hP (318) (by decide) (show kd 318 = 7 by decide) (C := RX7) (T := TX7) (N := 79) rfl 31 (by decide) (by decide) (by decide) (by decide) (hts (.fieldLink RX7 303 "CrateHelpersModel" "taken" "I") (by decide +kernel)) (fun _ h9 => h9) dX7_takes_12 ?_
  refine lv_iload_n hx hb dX7_takes_15 rfl (lv_at hl 1 rfl) ?_
  obtain ⟨hn3, h⟩ := gk h
  refine xiast hx hb hK hP hap hS (346) (by decide) (show kd 346 = 8 by decide) (by rw [show ln 346 = 250 by decide]; exact hn3) dX7_takes_16 (fun H locs hP hS => ?_)
  obtain ⟨A4, eA4, h⟩ := bd_e h
  rw [← eA4] at hP
  have hP : va_P D vwCl (VW K ad I G A4 L) H := hP
  refine lv_aload_n hx hb dX7_takes_17 rfl (lv_at hl 0 rfl) ?_
  refine lv_dup hx hb dX7_takes_18 rfl ?_
  refine vgI hx hb hts hi7 hown hK hP (318) (by decide) (show kd 318 = 7 by decide) (C := RX7) (T := TX7) (N := 79) rfl 31 (by decide) (by decide) (by decide) (by decide) (hts (.fieldLink RX7 303 "CrateHelpersModel" "taken" "I") (by decide +kernel)) (fun _ h9 => h9) dX7_takes_19 ?_
  refine lv_iconst (v := 1) hx hb dX7_takes_22 (by decide) ?_
  refine lv_iadd hx hb dX7_takes_23 ?_
  refine vpI (v := ((I 318 31) + 1)) (ty := .int) hx hb hts hi7 tyX7 tyX7_ok nmX7 hown hK hP hap hS (318) (by decide) (show kd 318 = 7 by decide) (C := RX7) (T := TX7) (N := 79) rfl 31 (by decide) (by decide) (by decide) (by decide) (hts (.fieldLink RX7 303 "CrateHelpersModel" "taken" "I") (by decide +kernel)) (fun _ h9 => h9) rfl (by decide +kernel) rfl rfl dX7_takes_24 (fun H locs hP hS => ?_)
  obtain ⟨I5, eI5, h⟩ := bd_e h
  rw [← eI5] at hP
  have hP : va_P D vwCl (VW K ad I5 G A4 L) H := hP
  exact W.vret hx hb hr (fun t9 ht9 hW9 => ⟨⟨(I5, G, A4, L), rfl, by cases h; rfl, by rw [ht9]; exact hP, va_K.moved hW9.alike hK⟩, hS.F ht9⟩) hS.2.2 dX7_takes_27
set_option maxHeartbeats 4000000 in
set_option maxRecDepth 100000 in
theorem e_X7_second (l : Launch) (D : va_G) (K : Nat → ClassId) (ad : Nat → Nat) (hap0 : apart ad (fun _ => True)) (a1 : Int32) (a2 : Int32) (I : Nat → Nat → Int32) (G : Nat → Nat → Nat) (A : Nat → Nat → Int32) (L : Nat → Nat → Int64) (r0 : Int32) (I0 : Nat → Nat → Int32) (A0 : Nat → Nat → Int32) (h : f_X7_second I A a1 a2 = some (r0, I0, A0)) : Ci l D K ad yX7_second wsX7_second 6 172 [.ref (ad 318), .int a1, .int a2] (I, G, A, L) (fun (r : Int32) (u : Mem) => r = r0 ∧ u = (I0, G, A0, L)) := by
  intro sz
  refine Met.ofW (cc := cX7_second) (maxL := 8) (ret := (some .int)) (by decide) rfl ?_
  intro p e s m args below meth c s₁ Bd hml hv0
  obtain ⟨rfl, hsz, hP, hK⟩ := hv0
  have hx := Bd.exec
  have hb := Bd.bytes
  have hr := Bd.returns
  have hts := atoms_spec (ws := wsX7_second) Bd.pre
  have hown : s.vm.findClass RX7 = some m.cls := findClass_of_methodNamed Bd.named
  have hlocks := Bd.notSynchronized
  have hi7 : ∀ w ∈ u_ws RX7 TX7 79, w ∈ wsX7_second := fun w h => List.mem_cons_of_mem _ (List.mem_append_right _ h)
  subst hsz
  have hap := vF_ap hap0 s.heap.size
  have hS : va_S (vF ad s.heap.size) s.heap s.heap [] := va_S.rf
  have hP : va_P D vwCl (VW K ad I G A L) s.heap := hP
  have hl := lv_entry ([.ref (ad 318), .int a1, .int a2]) (n := 8) (Nat.le_of_ble_eq_true rfl)
  rw [lg_entry_eq]
  generalize (lg_sl ([.ref (ad 318), .int a1, .int a2]) ++ List.replicate (8 - (lg_sl ([.ref (ad 318), .int a1, .int a2])).length) Slot.unset).toArray = ls at hl ⊢
  have hl : lv_has ls 8 [(0, .ref (ad 318)), (1, .int a1), (2, .int a2)] := hl
  rw [f_X7_second] at h
  refine lv_aload_n hx hb dX7_second_0 rfl (lv_at hl 0 rfl) ?_
  refine lv_iconst (v := 0) hx hb dX7_second_1 (by decide) ?_
  refine vpI (v := 0) (ty := .int) hx hb hts hi7 tyX7 tyX7_ok nmX7 hown hK hP hap hS (318) (by decide) (show kd 318 = 7 by decide) (C := RX7) (T := TX7) (N := 79) rfl 0 (by decide) (by decide) (by decide) (by decide) (hts (.fieldLink RX7 201 "CrateHelpersModel" "thrown" "I") (by decide +kernel)) (fun _ h9 => h9) rfl (by decide +kernel) rfl rfl dX7_second_2 (fun H locs hP hS => ?_)
  obtain ⟨I1, eI1, h⟩ := bd_e h
  rw [← eI1] at hP
  have hP : va_P D vwCl (VW K ad I1 G A L) H := hP
  refine lv_aload_n hx hb dX7_second_5 rfl (lv_at hl 0 rfl) ?_
  refine lv_iload_n hx hb dX7_second_6 rfl (lv_at hl 1 rfl) ?_
  obtain ⟨r2, hc3, h⟩ := Option.bind_eq_some_iff.mp h
  refine ecV (As := [.int a1]) (rest := []) ⟨hx, hb, hml, hown, hts⟩ (e_X7_isProblem l D K ad hap0 a1 I1 G A L r2 hc3) (cwV 1 hts gX7_second_X7_isProblem rfl rfl rfl (by decide +kernel) ⟨Nat.le_of_ble_eq_true rfl, Nat.le_of_ble_eq_true rfl⟩) hK hP hS (by decide) (show kd 318 = 7 by decide) (by decide) rfl rfl rfl hl.1 (Nat.le_of_ble_eq_true rfl) (Nat.le_of_ble_eq_true rfl) (Nat.le_of_ble_eq_true rfl) dX7_second_7 (fun H locs hP hS => ?_) rfl
  have hP : va_P D vwCl (VW K ad I1 G A L) H := hP
  refine lv_if_eq (tgt := 23) hx hb dX7_second_10 (by decide) (fun c_4 => ?_) (fun c_4 => ?_)
  · have h := ip c_4 h
    refine lv_ldcw (v := (-1000002)) hx hb hown (hts (.constant RX7 353 (-1000002)) (by decide +kernel)) dX7_second_23 ?_
    exact W.iret (v := (-1000002)) hx hb hr (fun t9 ht9 hW9 => ⟨⟨(-1000002), (I1, G, A, L), rfl, by cases h; exact ⟨rfl, rfl⟩, by rw [ht9]; exact hP, va_K.moved hW9.alike hK⟩, hS.F ht9⟩) hS.2.2 dX7_second_26
  · have h := iN c_4 h
    refine lv_iload_n hx hb dX7_second_13 rfl (lv_at hl 2 rfl) ?_
    refine lv_iconst (v := 0) hx hb dX7_second_14 (by decide) ?_
    refine lv_bipush (v := 60) hx hb dX7_second_15 (by decide) ?_
    obtain ⟨r5, hc6, h⟩ := Option.bind_eq_some_iff.mp h
    refine ecS (As := [.int a2, .int 0, .int 60]) (rest := []) ⟨hx, hb, hml, hown, hts⟩ (e_X7_in l D K ad hap0 a2 0 60 I1 G A L r5 hc6) (va_cwS 3 hts gX7_second_X7_in rfl rfl rfl (by decide +kernel) ⟨Nat.le_of_ble_eq_true rfl, Nat.le_of_ble_eq_true rfl⟩) hK hP hS rfl hl.1 (Nat.le_of_ble_eq_true rfl) (Nat.le_of_ble_eq_true rfl) (Nat.le_of_ble_eq_true rfl) dX7_second_17 (fun H locs hP hS => ?_) rfl
    have hP : va_P D vwCl (VW K ad I1 G A L) H := hP
    refine lv_if_ne (tgt := 27) hx hb dX7_second_20 (by decide) (fun c_7 => ?_) (fun c_7 => ?_)
    · have h := iN c_7 h
      refine lv_aload_n hx hb dX7_second_27 rfl (lv_at hl 0 rfl) ?_
      obtain ⟨⟨I8, A9⟩, hc10, h⟩ := Option.bind_eq_some_iff.mp h
      refine ecVv (As := []) (rest := []) ⟨hx, hb, hml, hown, hts⟩ (e_X7_aside l D K ad hap0  I1 G A L I8 A9 hc10) (cwV 0 hts gX7_second_X7_aside rfl rfl rfl (by decide +kernel) ⟨Nat.le_of_ble_eq_true rfl, Nat.le_of_ble_eq_true rfl⟩) hK hP hS (by decide) (show kd 318 = 7 by decide) (by decide) rfl rfl rfl hl.1 (Nat.le_of_ble_eq_true rfl) (Nat.le_of_ble_eq_true rfl) (Nat.le_of_ble_eq_true rfl) dX7_second_28 (fun H locs hP hS => ?_) rfl
      have hP : va_P D vwCl (VW K ad I8 G A9 L) H := hP
      refine lv_aload_n hx hb dX7_second_31 rfl (lv_at hl 0 rfl) ?_
      refine lv_iload_n hx hb dX7_second_32 rfl (lv_at hl 1 rfl) ?_
      refine lv_iconst (v := 0) hx hb dX7_second_33 (by decide) ?_
      obtain ⟨⟨I11, A12⟩, hc13, h⟩ := Option.bind_eq_some_iff.mp h
      refine ecVv (As := [.int a1, .int 0]) (rest := []) ⟨hx, hb, hml, hown, hts⟩ (e_X7_begins l D K ad hap0 a1 0 I8 G A9 L I11 A12 hc13) (cwV 2 hts gX7_second_X7_begins rfl rfl rfl (by decide +kernel) ⟨Nat.le_of_ble_eq_true rfl, Nat.le_of_ble_eq_true rfl⟩) hK hP hS (by decide) (show kd 318 = 7 by decide) (by decide) rfl rfl rfl hl.1 (Nat.le_of_ble_eq_true rfl) (Nat.le_of_ble_eq_true rfl) (Nat.le_of_ble_eq_true rfl) dX7_second_34 (fun H locs hP hS => ?_) rfl
      have hP : va_P D vwCl (VW K ad I11 G A12 L) H := hP
      refine lv_iconst (v := 0) hx hb dX7_second_37 (by decide) ?_
      refine lv_istore_n (lv' := [(3, .int 0), (0, .ref (ad 318)), (1, .int a1), (2, .int a2)]) hx hb dX7_second_38 rfl hl (by decide) rfl (fun ls hl => ?_)
      refine lv_bipush (v := (-9)) hx hb dX7_second_39 (by decide) ?_
      refine lv_istore (lv' := [(4, .int (-9)), (3, .int 0), (0, .ref (ad 318)), (1, .int a1), (2, .int a2)]) hx hb dX7_second_41 hl (by decide) rfl (fun ls hl => ?_)
      refine lv_aload_n hx hb dX7_second_43 rfl (lv_at hl 2 rfl) ?_
      obtain ⟨r14, hc15, h⟩ := Option.bind_eq_some_iff.mp h
      refine ecV (As := []) (rest := []) ⟨hx, hb, hml, hown, hts⟩ (e_X7_nextOf l D K ad hap0  I11 G A12 L r14 hc15) (cwV 0 hts gX7_second_X7_nextOf rfl rfl rfl (by decide +kernel) ⟨Nat.le_of_ble_eq_true rfl, Nat.le_of_ble_eq_true rfl⟩) hK hP hS (by decide) (show kd 318 = 7 by decide) (by decide) rfl rfl rfl hl.1 (Nat.le_of_ble_eq_true rfl) (Nat.le_of_ble_eq_true rfl) (Nat.le_of_ble_eq_true rfl) dX7_second_44 (fun H locs hP hS => ?_) rfl
      have hP : va_P D vwCl (VW K ad I11 G A12 L) H := hP
      refine lv_istore (lv' := [(5, .int r14), (4, .int (-9)), (3, .int 0), (0, .ref (ad 318)), (1, .int a1), (2, .int a2)]) hx hb dX7_second_47 hl (by decide) rfl (fun ls hl => ?_)
      obtain ⟨k22, ek22, h⟩ := bd_e h
      have kk22 : ∀ (v23 : Int32) (v24 : Int32) (I25 : Nat → Nat → Int32) (A26 : Nat → Nat → Int32), k22 v23 v24 I25 A26 = some (r0, I0, A0) → ∀ (H : Heap) (locs : List Loc), va_P D vwCl (VW K ad I25 G A26 L) H → va_S (vF ad s.heap.size) s.heap H locs → ∀ (ls : Array Slot), lv_has ls 8 [(0, .ref (ad 318)), (1, .int a1), (4, .int v23), (5, .int v24)] → W p l e ({ frames := 6, cells := 0, slots := 0, locals := 172 }) s m ([.ref (ad 318), .int a1, .int a2] : List Value).toArray below meth c H locs 0 0 (MQ below (va_Qi (fun (r : Int32) (u : Mem) => r = r0 ∧ u = (I0, G, A0, L)) (vB D K ad) (vF ad s.heap.size)) ([.ref (ad 318), .int a1, .int a2] : List Value).toArray s 0 0 (vF ad s.heap.size)) (F0 m 129 ls []) := by
        intro v23 v24 I25 A26 h H locs hP hS ls hl
        subst ek22
        refine lv_aload_n hx hb dX7_second_129 rfl (lv_at hl 0 rfl) ?_
        refine lv_iload hx hb dX7_second_130 (lv_at hl 2 rfl) ?_
        refine lv_bipush (v := (-9)) hx hb dX7_second_132 (by decide) ?_
        obtain ⟨j29, ej29, h⟩ := bd_e h
        have kj29 : ∀ (z28 : Int32), j29 z28 = some (r0, I0, A0) → ∀ (H : Heap) (locs : List Loc), va_P D vwCl (VW K ad I25 G A26 L) H → va_S (vF ad s.heap.size) s.heap H locs → ∀ (ls : Array Slot), lv_has ls 8 [(0, .ref (ad 318)), (4, .int v23), (5, .int v24)] → W p l e ({ frames := 6, cells := 0, slots := 0, locals := 172 }) s m ([.ref (ad 318), .int a1, .int a2] : List Value).toArray below meth c H locs 0 0 (MQ below (va_Qi (fun (r : Int32) (u : Mem) => r = r0 ∧ u = (I0, G, A0, L)) (vB D K ad) (vF ad s.heap.size)) ([.ref (ad 318), .int a1, .int a2] : List Value).toArray s 0 0 (vF ad s.heap.size)) (F0 m 148 ls [.int z28, .ref (ad 318)]) := by
          intro z28 h H locs hP hS ls hl
          subst ej29
          refine vpI (v := z28) (ty := .int) hx hb hts hi7 tyX7 tyX7_ok nmX7 hown hK hP hap hS (318) (by decide) (show kd 318 = 7 by decide) (C := RX7) (T := TX7) (N := 79) rfl 61 (by decide) (by decide) (by decide) (by decide) (hts (.fieldLink RX7 153 "CrateHelpersModel" "secondMany" "I") (by decide +kernel)) (fun _ h9 => h9) rfl (by decide +kernel) rfl rfl dX7_second_148 (fun H locs hP hS => ?_)
          obtain ⟨I30, eI30, h⟩ := bd_e h
          rw [← eI30] at hP
          have hP : va_P D vwCl (VW K ad I30 G A26 L) H := hP
          refine lv_iload hx hb dX7_second_151 (lv_at hl 1 rfl) ?_
          refine lv_bipush (v := (-9)) hx hb dX7_second_153 (by decide) ?_
          obtain ⟨j34, ej34, h⟩ := bd_e h
          have kj34 : ∀ (z33 : Int32), j34 z33 = some (r0, I0, A0) → ∀ (H : Heap) (locs : List Loc), va_P D vwCl (VW K ad I30 G A26 L) H → va_S (vF ad s.heap.size) s.heap H locs → ∀ (ls : Array Slot), lv_has ls 8 [(0, .ref (ad 318)), (4, .int v23)] → W p l e ({ frames := 6, cells := 0, slots := 0, locals := 172 }) s m ([.ref (ad 318), .int a1, .int a2] : List Value).toArray below meth c H locs 0 0 (MQ below (va_Qi (fun (r : Int32) (u : Mem) => r = r0 ∧ u = (I0, G, A0, L)) (vB D K ad) (vF ad s.heap.size)) ([.ref (ad 318), .int a1, .int a2] : List Value).toArray s 0 0 (vF ad s.heap.size)) (F0 m 183 ls [.int z33]) := by
            intro z33 h H locs hP hS ls hl
            subst ej34
            refine lv_istore (lv' := [(6, .int z33), (0, .ref (ad 318)), (4, .int v23)]) hx hb dX7_second_183 hl (by decide) rfl (fun ls hl => ?_)
            refine lv_iconst (v := 0) hx hb dX7_second_185 (by decide) ?_
            refine lv_istore (lv' := [(7, .int 0), (6, .int z33), (0, .ref (ad 318)), (4, .int v23)]) hx hb dX7_second_186 hl (by decide) rfl (fun ls hl => ?_)
            obtain ⟨k38, ek38, h⟩ := bd_e h
            have kk38 : ∀ (A39 : Nat → Nat → Int32), k38 A39 = some (r0, I0, A0) → ∀ (H : Heap) (locs : List Loc), va_P D vwCl (VW K ad I30 G A39 L) H → va_S (vF ad s.heap.size) s.heap H locs → ∀ (ls : Array Slot), lv_has ls 8 [(0, .ref (ad 318)), (6, .int z33)] → W p l e ({ frames := 6, cells := 0, slots := 0, locals := 172 }) s m ([.ref (ad 318), .int a1, .int a2] : List Value).toArray below meth c H locs 0 0 (MQ below (va_Qi (fun (r : Int32) (u : Mem) => r = r0 ∧ u = (I0, G, A0, L)) (vB D K ad) (vF ad s.heap.size)) ([.ref (ad 318), .int a1, .int a2] : List Value).toArray s 0 0 (vF ad s.heap.size)) (F0 m 228 ls []) := by
              intro A39 h H locs hP hS ls hl
              subst ek38
              refine lv_aload_n hx hb dX7_second_228 rfl (lv_at hl 0 rfl) ?_
              obtain ⟨⟨I40, A41⟩, hc42, h⟩ := Option.bind_eq_some_iff.mp h
              refine ecVv (As := []) (rest := []) ⟨hx, hb, hml, hown, hts⟩ (e_X7_aside l D K ad hap0  I30 G A39 L I40 A41 hc42) (cwV 0 hts gX7_second_X7_aside rfl rfl rfl (by decide +kernel) ⟨Nat.le_of_ble_eq_true rfl, Nat.le_of_ble_eq_true rfl⟩) hK hP hS (by decide) (show kd 318 = 7 by decide) (by decide) rfl rfl rfl hl.1 (Nat.le_of_ble_eq_true rfl) (Nat.le_of_ble_eq_true rfl) (Nat.le_of_ble_eq_true rfl) dX7_second_229 (fun H locs hP hS => ?_) rfl
              have hP : va_P D vwCl (VW K ad I40 G A41 L) H := hP
              refine lv_iload hx hb dX7_second_232 (lv_at hl 1 rfl) ?_
              exact W.iret (v := z33) hx hb hr (fun t9 ht9 hW9 => ⟨⟨z33, (I40, G, A41, L), rfl, by cases h; exact ⟨rfl, rfl⟩, by rw [ht9]; exact hP, va_K.moved hW9.alike hK⟩, hS.F ht9⟩) hS.2.2 dX7_second_234
            have lp35 : ∀ (n : Nat) (v36 : Int32) (A37 : Nat → Nat → Int32), f_X7_second_L188 z33 v23 I30 k38 n v36 A37 = some (r0, I0, A0) → ∀ (H : Heap) (locs : List Loc), va_P D vwCl (VW K ad I30 G A37 L) H → va_S (vF ad s.heap.size) s.heap H locs → ∀ (ls : Array Slot), lv_has ls 8 [(7, .int v36), (6, .int z33), (0, .ref (ad 318)), (4, .int v23)] → W p l e ({ frames := 6, cells := 0, slots := 0, locals := 172 }) s m ([.ref (ad 318), .int a1, .int a2] : List Value).toArray below meth c H locs 0 0 (MQ below (va_Qi (fun (r : Int32) (u : Mem) => r = r0 ∧ u = (I0, G, A0, L)) (vB D K ad) (vF ad s.heap.size)) ([.ref (ad 318), .int a1, .int a2] : List Value).toArray s 0 0 (vF ad s.heap.size)) (F0 m 188 ls []) := by
              intro n
              induction n with
              | zero => intro v36 A37 h; exact absurd h (by rw [f_X7_second_L188]; exact nofun)
              | succ n ih35 =>
                intro v36 A37 h H locs hP hS ls hl
                rw [f_X7_second_L188] at h
                refine lv_iload hx hb dX7_second_188 (lv_at hl 0 rfl) ?_
                refine lv_bipush (v := 6) hx hb dX7_second_190 (by decide) ?_
                refine lv_icmp_ge (tgt := 228) hx hb dX7_second_192 (by decide) (fun c_43 => ?_) (fun c_43 => ?_)
                · have h := iN (Int32.not_lt.mpr c_43) h
                  exact kk38 A37 h _ _ hP hS ls (lv_sub hl [2, 1] rfl)
                · have h := ip (Int32.not_le.mp c_43) h
                  refine lv_iload hx hb dX7_second_195 (lv_at hl 3 rfl) ?_
                  refine lv_bipush (v := (-9)) hx hb dX7_second_197 (by decide) ?_
                  refine lv_icmp_eq (tgt := 228) hx hb dX7_second_199 (by decide) (fun c_44 => ?_) (fun c_44 => ?_)
                  · have h := ip c_44 h
                    exact kk38 A37 h _ _ hP hS ls (lv_sub hl [2, 1] rfl)
                  · have h := iN c_44 h
                    refine lv_aload_n hx hb dX7_second_202 rfl (lv_at hl 2 rfl) ?_
                    refine vgC hx hb hts hi7 hown hK hP (318) (by decide) (show kd 318 = 7 by decide) (C := RX7) (T := TX7) (N := 79) rfl 62 (by decide) (by decide) (by decide) (by decide) (363) rfl (hts (.fieldLink RX7 156 "CrateHelpersModel" "secondRow" "[I") (by decide +kernel)) (fun _ h9 => h9) dX7_second_203 ?_
                    refine lv_iload hx hb dX7_second_206 (lv_at hl 0 rfl) ?_
                    refine lv_aload_n hx hb dX7_second_208 rfl (lv_at hl 2 rfl) ?_
                    refine vgC hx hb hts hi7 hown hK hP (318) (by decide) (show kd 318 = 7 by decide) (C := RX7) (T := TX7) (N := 79) rfl 33 (by decide) (by decide) (by decide) (by decide) (339) rfl (hts (.fieldLink RX7 77 "CrateHelpersModel" "row" "[I") (by decide +kernel)) (fun _ h9 => h9) dX7_second_209 ?_
                    refine lv_bipush (v := 6) hx hb dX7_second_212 (by decide) ?_
                    refine lv_iload hx hb dX7_second_214 (lv_at hl 3 rfl) ?_
                    refine lv_imul hx hb dX7_second_216 ?_
                    refine lv_iload hx hb dX7_second_217 (lv_at hl 0 rfl) ?_
                    refine lv_iadd hx hb dX7_second_219 ?_
                    obtain ⟨hn45, h⟩ := gk h
                    refine xiald hx hb hK hP (339) (by decide) (show kd 339 = 8 by decide) (by rw [show ln 339 = 12000 by decide]; exact hn45) dX7_second_220 ?_
                    obtain ⟨hn46, h⟩ := gk h
                    refine xiast hx hb hK hP hap hS (363) (by decide) (show kd 363 = 8 by decide) (by rw [show ln 363 = 6 by decide]; exact hn46) dX7_second_221 (fun H locs hP hS => ?_)
                    obtain ⟨A47, eA47, h⟩ := bd_e h
                    rw [← eA47] at hP
                    have hP : va_P D vwCl (VW K ad I30 G A47 L) H := hP
                    refine lv_iinc (v := (v36 + 1)) (lv' := [(7, .int (v36 + 1)), (6, .int z33), (0, .ref (ad 318)), (4, .int v23)]) hx hb dX7_second_222 hl (k := 0) rfl rfl (by decide) rfl (fun ls hl => ?_)
                    refine lv_goto (tgt := 188) hx hb dX7_second_225 (by decide) ?_
                    exact ih35 (v36 + 1) A47 h _ _ hP hS ls (lv_sub hl [0, 1, 2, 3] rfl)
            exact lp35 FU 0 A26 h _ _ hP hS ls (lv_sub hl [0, 1, 2, 3] rfl)
          refine lv_icmp_eq (tgt := 168) hx hb dX7_second_155 (by decide) (fun c_48 => ?_) (fun c_48 => ?_)
          · have h := ip c_48 h
            refine lv_iload hx hb dX7_second_168 (lv_at hl 2 rfl) ?_
            refine lv_bipush (v := (-9)) hx hb dX7_second_170 (by decide) ?_
            refine lv_icmp_ne (tgt := 180) hx hb dX7_second_172 (by decide) (fun c_49 => ?_) (fun c_49 => ?_)
            · have h := iN c_49 h
              refine lv_ldcw (v := (-1000001)) hx hb hown (hts (.constant RX7 357 (-1000001)) (by decide +kernel)) dX7_second_180 ?_
              exact kj34 (-1000001) h _ _ hP hS ls (lv_sub hl [0, 1] rfl)
            · have h := ip c_49 h
              refine lv_ldc (v := (-1000000)) hx hb hown (hts (.constant RX7 224 (-1000000)) (by decide +kernel)) dX7_second_175 ?_
              refine lv_goto (tgt := 183) hx hb dX7_second_177 (by decide) ?_
              exact kj34 (-1000000) h _ _ hP hS ls (lv_sub hl [0, 1] rfl)
          · have h := iN c_48 h
            refine lv_aload_n hx hb dX7_second_158 rfl (lv_at hl 0 rfl) ?_
            refine vgC hx hb hts hi7 hown hK hP (318) (by decide) (show kd 318 = 7 by decide) (C := RX7) (T := TX7) (N := 79) rfl 35 (by decide) (by decide) (by decide) (by decide) (341) rfl (hts (.fieldLink RX7 83 "CrateHelpersModel" "bound" "[I") (by decide +kernel)) (fun _ h9 => h9) dX7_second_159 ?_
            refine lv_iload hx hb dX7_second_162 (lv_at hl 1 rfl) ?_
            obtain ⟨hn50, h⟩ := gk h
            refine xiald hx hb hK hP (341) (by decide) (show kd 341 = 8 by decide) (by rw [show ln 341 = 2000 by decide]; exact hn50) dX7_second_164 ?_
            refine lv_goto (tgt := 183) hx hb dX7_second_165 (by decide) ?_
            exact kj34 (A26 341 v23.toNatClampNeg) h _ _ hP hS ls (lv_sub hl [0, 1] rfl)
        refine lv_icmp_ne (tgt := 142) hx hb dX7_second_134 (by decide) (fun c_51 => ?_) (fun c_51 => ?_)
        · have h := iN c_51 h
          refine lv_aload_n hx hb dX7_second_142 rfl (lv_at hl 0 rfl) ?_
          refine vgC hx hb hts hi7 hown hK hP (318) (by decide) (show kd 318 = 7 by decide) (C := RX7) (T := TX7) (N := 79) rfl 3 (by decide) (by decide) (by decide) (by decide) (319) rfl (hts (.fieldLink RX7 7 "CrateHelpersModel" "variables" "[I") (by decide +kernel)) (fun _ h9 => h9) dX7_second_143 ?_
          refine lv_iload_n hx hb dX7_second_146 rfl (lv_at hl 1 rfl) ?_
          obtain ⟨hn52, h⟩ := gk h
          refine xiald hx hb hK hP (319) (by decide) (show kd 319 = 8 by decide) (by rw [show ln 319 = 5 by decide]; exact hn52) dX7_second_147 ?_
          exact kj29 (A26 319 a1.toNatClampNeg) h _ _ hP hS ls (lv_sub hl [0, 2, 3] rfl)
        · have h := ip c_51 h
          refine lv_bipush (v := (-9)) hx hb dX7_second_137 (by decide) ?_
          refine lv_goto (tgt := 148) hx hb dX7_second_139 (by decide) ?_
          exact kj29 (-9) h _ _ hP hS ls (lv_sub hl [0, 2, 3] rfl)
      have lp16 : ∀ (n : Nat) (v17 : Int32) (v18 : Int32) (v19 : Int32) (I20 : Nat → Nat → Int32) (A21 : Nat → Nat → Int32), f_X7_second_L49 a1 a2 k22 n v17 v18 v19 I20 A21 = some (r0, I0, A0) → ∀ (H : Heap) (locs : List Loc), va_P D vwCl (VW K ad I20 G A21 L) H → va_S (vF ad s.heap.size) s.heap H locs → ∀ (ls : Array Slot), lv_has ls 8 [(5, .int v17), (4, .int v18), (3, .int v19), (0, .ref (ad 318)), (1, .int a1), (2, .int a2)] → W p l e ({ frames := 6, cells := 0, slots := 0, locals := 172 }) s m ([.ref (ad 318), .int a1, .int a2] : List Value).toArray below meth c H locs 0 0 (MQ below (va_Qi (fun (r : Int32) (u : Mem) => r = r0 ∧ u = (I0, G, A0, L)) (vB D K ad) (vF ad s.heap.size)) ([.ref (ad 318), .int a1, .int a2] : List Value).toArray s 0 0 (vF ad s.heap.size)) (F0 m 49 ls []) := by
        intro n
        induction n with
        | zero => intro v17 v18 v19 I20 A21 h; exact absurd h (by rw [f_X7_second_L49]; exact nofun)
        | succ n ih16 =>
          intro v17 v18 v19 I20 A21 h H locs hP hS ls hl
          rw [f_X7_second_L49] at h
          refine lv_iload hx hb dX7_second_49 (lv_at hl 0 rfl) ?_
          refine lv_bipush (v := (-9)) hx hb dX7_second_51 (by decide) ?_
          refine lv_icmp_eq (tgt := 129) hx hb dX7_second_53 (by decide) (fun c_53 => ?_) (fun c_53 => ?_)
          · have h := ip c_53 h
            exact kk22 v18 v17 I20 A21 h _ _ hP hS ls (lv_sub hl [3, 4, 1, 0] rfl)
          · have h := iN c_53 h
            refine lv_aload_n hx hb dX7_second_56 rfl (lv_at hl 3 rfl) ?_
            refine vgI hx hb hts hi7 hown hK hP (318) (by decide) (show kd 318 = 7 by decide) (C := RX7) (T := TX7) (N := 79) rfl 31 (by decide) (by decide) (by decide) (by decide) (hts (.fieldLink RX7 303 "CrateHelpersModel" "taken" "I") (by decide +kernel)) (fun _ h9 => h9) dX7_second_57 ?_
            refine lv_sipush (v := 250) hx hb dX7_second_60 (by decide) ?_
            refine lv_icmp_ge (tgt := 129) hx hb dX7_second_63 (by decide) (fun c_54 => ?_) (fun c_54 => ?_)
            · have h := iN (Int32.not_lt.mpr c_54) h
              exact kk22 v18 v17 I20 A21 h _ _ hP hS ls (lv_sub hl [3, 4, 1, 0] rfl)
            · have h := ip (Int32.not_le.mp c_54) h
              refine lv_iload hx hb dX7_second_66 (lv_at hl 1 rfl) ?_
              refine lv_bipush (v := (-9)) hx hb dX7_second_68 (by decide) ?_
              refine lv_icmp_ne (tgt := 129) hx hb dX7_second_70 (by decide) (fun c_55 => ?_) (fun c_55 => ?_)
              · have h := iN c_55 h
                exact kk22 v18 v17 I20 A21 h _ _ hP hS ls (lv_sub hl [3, 4, 1, 0] rfl)
              · have h := ip c_55 h
                refine lv_aload_n hx hb dX7_second_73 rfl (lv_at hl 3 rfl) ?_
                refine lv_iload hx hb dX7_second_74 (lv_at hl 0 rfl) ?_
                obtain ⟨⟨I56, A57⟩, hc58, h⟩ := Option.bind_eq_some_iff.mp h
                refine ecVv (As := [.int v17]) (rest := []) ⟨hx, hb, hml, hown, hts⟩ (e_X7_takes l D K ad hap0 v17 I20 G A21 L I56 A57 hc58) (cwV 1 hts gX7_second_X7_takes rfl rfl rfl (by decide +kernel) ⟨Nat.le_of_ble_eq_true rfl, Nat.le_of_ble_eq_true rfl⟩) hK hP hS (by decide) (show kd 318 = 7 by decide) (by decide) rfl rfl rfl hl.1 (Nat.le_of_ble_eq_true rfl) (Nat.le_of_ble_eq_true rfl) (Nat.le_of_ble_eq_true rfl) dX7_second_76 (fun H locs hP hS => ?_) rfl
                have hP : va_P D vwCl (VW K ad I56 G A57 L) H := hP
                refine lv_aload_n hx hb dX7_second_79 rfl (lv_at hl 3 rfl) ?_
                refine lv_iload_n hx hb dX7_second_80 rfl (lv_at hl 4 rfl) ?_
                refine lv_iload hx hb dX7_second_81 (lv_at hl 0 rfl) ?_
                refine lv_iconst (v := 0) hx hb dX7_second_83 (by decide) ?_
                obtain ⟨⟨I59, A60⟩, hc61, h⟩ := Option.bind_eq_some_iff.mp h
                refine ecVv (As := [.int a1, .int v17, .int 0]) (rest := []) ⟨hx, hb, hml, hown, hts⟩ (e_X7_opens l D K ad hap0 a1 v17 0 I56 G A57 L I59 A60 hc61) (cwV 3 hts gX7_second_X7_opens rfl rfl rfl (by decide +kernel) ⟨Nat.le_of_ble_eq_true rfl, Nat.le_of_ble_eq_true rfl⟩) hK hP hS (by decide) (show kd 318 = 7 by decide) (by decide) rfl rfl rfl hl.1 (Nat.le_of_ble_eq_true rfl) (Nat.le_of_ble_eq_true rfl) (Nat.le_of_ble_eq_true rfl) dX7_second_84 (fun H locs hP hS => ?_) rfl
                have hP : va_P D vwCl (VW K ad I59 G A60 L) H := hP
                refine lv_aload_n hx hb dX7_second_87 rfl (lv_at hl 3 rfl) ?_
                refine vgC hx hb hts hi7 hown hK hP (318) (by decide) (show kd 318 = 7 by decide) (C := RX7) (T := TX7) (N := 79) rfl 32 (by decide) (by decide) (by decide) (by decide) (338) rfl (hts (.fieldLink RX7 74 "CrateHelpersModel" "depth" "[I") (by decide +kernel)) (fun _ h9 => h9) dX7_second_88 ?_
                refine lv_iload hx hb dX7_second_91 (lv_at hl 0 rfl) ?_
                obtain ⟨hn62, h⟩ := gk h
                refine xiald hx hb hK hP (338) (by decide) (show kd 338 = 8 by decide) (by rw [show ln 338 = 2000 by decide]; exact hn62) dX7_second_93 ?_
                refine lv_aload_n hx hb dX7_second_94 rfl (lv_at hl 3 rfl) ?_
                refine vgC hx hb hts hi7 hown hK hP (318) (by decide) (show kd 318 = 7 by decide) (C := RX7) (T := TX7) (N := 79) rfl 3 (by decide) (by decide) (by decide) (by decide) (319) rfl (hts (.fieldLink RX7 7 "CrateHelpersModel" "variables" "[I") (by decide +kernel)) (fun _ h9 => h9) dX7_second_95 ?_
                refine lv_iload_n hx hb dX7_second_98 rfl (lv_at hl 4 rfl) ?_
                obtain ⟨hn63, h⟩ := gk h
                refine xiald hx hb hK hP (319) (by decide) (show kd 319 = 8 by decide) (by rw [show ln 319 = 5 by decide]; exact hn63) dX7_second_99 ?_
                refine lv_icmp_ne (tgt := 120) hx hb dX7_second_100 (by decide) (fun c_64 => ?_) (fun c_64 => ?_)
                · have h := iN c_64 h
                  refine lv_aload_n hx hb dX7_second_120 rfl (lv_at hl 3 rfl) ?_
                  obtain ⟨r65, hc66, h⟩ := Option.bind_eq_some_iff.mp h
                  refine ecV (As := []) (rest := []) ⟨hx, hb, hml, hown, hts⟩ (e_X7_nextOf l D K ad hap0  I59 G A60 L r65 hc66) (cwV 0 hts gX7_second_X7_nextOf rfl rfl rfl (by decide +kernel) ⟨Nat.le_of_ble_eq_true rfl, Nat.le_of_ble_eq_true rfl⟩) hK hP hS (by decide) (show kd 318 = 7 by decide) (by decide) rfl rfl rfl hl.1 (Nat.le_of_ble_eq_true rfl) (Nat.le_of_ble_eq_true rfl) (Nat.le_of_ble_eq_true rfl) dX7_second_121 (fun H locs hP hS => ?_) rfl
                  have hP : va_P D vwCl (VW K ad I59 G A60 L) H := hP
                  refine lv_istore (lv' := [(5, .int r65), (4, .int v18), (3, .int v19), (0, .ref (ad 318)), (1, .int a1), (2, .int a2)]) hx hb dX7_second_124 hl (by decide) rfl (fun ls hl => ?_)
                  refine lv_goto (tgt := 49) hx hb dX7_second_126 (by decide) ?_
                  exact ih16 r65 v18 v19 I59 A60 h _ _ hP hS ls (lv_sub hl [0, 1, 2, 3, 4, 5] rfl)
                · have h := ip c_64 h
                  refine lv_iload_n hx hb dX7_second_103 rfl (lv_at hl 2 rfl) ?_
                  refine lv_iload_n hx hb dX7_second_104 rfl (lv_at hl 5 rfl) ?_
                  refine lv_icmp_ne (tgt := 113) hx hb dX7_second_105 (by decide) (fun c_67 => ?_) (fun c_67 => ?_)
                  · have h := iN c_67 h
                    refine lv_bipush (v := (-9)) hx hb dX7_second_113 (by decide) ?_
                    refine lv_istore (lv' := [(4, .int (-9)), (5, .int v17), (3, .int v19), (0, .ref (ad 318)), (1, .int a1), (2, .int a2)]) hx hb dX7_second_115 hl (by decide) rfl (fun ls hl => ?_)
                    refine lv_iinc (v := (v19 + 1)) (lv' := [(3, .int (v19 + 1)), (4, .int (-9)), (5, .int v17), (0, .ref (ad 318)), (1, .int a1), (2, .int a2)]) hx hb dX7_second_117 hl (k := 2) rfl rfl (by decide) rfl (fun ls hl => ?_)
                    refine lv_aload_n hx hb dX7_second_120 rfl (lv_at hl 3 rfl) ?_
                    obtain ⟨r68, hc69, h⟩ := Option.bind_eq_some_iff.mp h
                    refine ecV (As := []) (rest := []) ⟨hx, hb, hml, hown, hts⟩ (e_X7_nextOf l D K ad hap0  I59 G A60 L r68 hc69) (cwV 0 hts gX7_second_X7_nextOf rfl rfl rfl (by decide +kernel) ⟨Nat.le_of_ble_eq_true rfl, Nat.le_of_ble_eq_true rfl⟩) hK hP hS (by decide) (show kd 318 = 7 by decide) (by decide) rfl rfl rfl hl.1 (Nat.le_of_ble_eq_true rfl) (Nat.le_of_ble_eq_true rfl) (Nat.le_of_ble_eq_true rfl) dX7_second_121 (fun H locs hP hS => ?_) rfl
                    have hP : va_P D vwCl (VW K ad I59 G A60 L) H := hP
                    refine lv_istore (lv' := [(5, .int r68), (3, .int (v19 + 1)), (4, .int (-9)), (0, .ref (ad 318)), (1, .int a1), (2, .int a2)]) hx hb dX7_second_124 hl (by decide) rfl (fun ls hl => ?_)
                    refine lv_goto (tgt := 49) hx hb dX7_second_126 (by decide) ?_
                    exact ih16 r68 (-9) (v19 + 1) I59 A60 h _ _ hP hS ls (lv_sub hl [0, 2, 1, 3, 4, 5] rfl)
                  · have h := ip c_67 h
                    refine lv_iload hx hb dX7_second_108 (lv_at hl 0 rfl) ?_
                    refine lv_goto (tgt := 115) hx hb dX7_second_110 (by decide) ?_
                    refine lv_istore (lv' := [(4, .int v17), (5, .int v17), (3, .int v19), (0, .ref (ad 318)), (1, .int a1), (2, .int a2)]) hx hb dX7_second_115 hl (by decide) rfl (fun ls hl => ?_)
                    refine lv_iinc (v := (v19 + 1)) (lv' := [(3, .int (v19 + 1)), (4, .int v17), (5, .int v17), (0, .ref (ad 318)), (1, .int a1), (2, .int a2)]) hx hb dX7_second_117 hl (k := 2) rfl rfl (by decide) rfl (fun ls hl => ?_)
                    refine lv_aload_n hx hb dX7_second_120 rfl (lv_at hl 3 rfl) ?_
                    obtain ⟨r70, hc71, h⟩ := Option.bind_eq_some_iff.mp h
                    refine ecV (As := []) (rest := []) ⟨hx, hb, hml, hown, hts⟩ (e_X7_nextOf l D K ad hap0  I59 G A60 L r70 hc71) (cwV 0 hts gX7_second_X7_nextOf rfl rfl rfl (by decide +kernel) ⟨Nat.le_of_ble_eq_true rfl, Nat.le_of_ble_eq_true rfl⟩) hK hP hS (by decide) (show kd 318 = 7 by decide) (by decide) rfl rfl rfl hl.1 (Nat.le_of_ble_eq_true rfl) (Nat.le_of_ble_eq_true rfl) (Nat.le_of_ble_eq_true rfl) dX7_second_121 (fun H locs hP hS => ?_) rfl
                    have hP : va_P D vwCl (VW K ad I59 G A60 L) H := hP
                    refine lv_istore (lv' := [(5, .int r70), (3, .int (v19 + 1)), (4, .int v17), (0, .ref (ad 318)), (1, .int a1), (2, .int a2)]) hx hb dX7_second_124 hl (by decide) rfl (fun ls hl => ?_)
                    refine lv_goto (tgt := 49) hx hb dX7_second_126 (by decide) ?_
                    exact ih16 r70 v17 (v19 + 1) I59 A60 h _ _ hP hS ls (lv_sub hl [0, 2, 1, 3, 4, 5] rfl)
      exact lp16 FU r14 (-9) 0 I11 A12 h _ _ hP hS ls (lv_sub hl [0, 1, 2, 3, 4, 5] rfl)
    · have h := ip c_7 h
      refine lv_ldcw (v := (-1000002)) hx hb hown (hts (.constant RX7 353 (-1000002)) (by decide +kernel)) dX7_second_23 ?_
      exact W.iret (v := (-1000002)) hx hb hr (fun t9 ht9 hW9 => ⟨⟨(-1000002), (I1, G, A, L), rfl, by cases h; exact ⟨rfl, rfl⟩, by rw [ht9]; exact hP, va_K.moved hW9.alike hK⟩, hS.F ht9⟩) hS.2.2 dX7_second_26
set_option maxHeartbeats 4000000 in
set_option maxRecDepth 100000 in
theorem e_X7_turnOf (l : Launch) (D : va_G) (K : Nat → ClassId) (ad : Nat → Nat) (hap0 : apart ad (fun _ => True)) (a1 : Int32) (a2 : Int32) (I : Nat → Nat → Int32) (G : Nat → Nat → Nat) (A : Nat → Nat → Int32) (L : Nat → Nat → Int64) (I0 : Nat → Nat → Int32) (A0 : Nat → Nat → Int32) (h : f_X7_turnOf I A a1 a2 = some (I0, A0)) : Cv l D K ad yX7_turnOf wsX7_turnOf 6 172 [.ref (ad 318), .int a1, .int a2] (I, G, A, L) (fun (u : Mem) => u = (I0, G, A0, L)) := by
  intro sz
  refine Met.ofW (cc := cX7_turnOf) (maxL := 5) (ret := none) (by decide) rfl ?_
  intro p e s m args below meth c s₁ Bd hml hv0
  obtain ⟨rfl, hsz, hP, hK⟩ := hv0
  have hx := Bd.exec
  have hb := Bd.bytes
  have hr := Bd.returns
  have hts := atoms_spec (ws := wsX7_turnOf) Bd.pre
  have hown : s.vm.findClass RX7 = some m.cls := findClass_of_methodNamed Bd.named
  have hlocks := Bd.notSynchronized
  have hi7 : ∀ w ∈ u_ws RX7 TX7 79, w ∈ wsX7_turnOf := fun w h => List.mem_cons_of_mem _ (List.mem_append_right _ h)
  subst hsz
  have hap := vF_ap hap0 s.heap.size
  have hS : va_S (vF ad s.heap.size) s.heap s.heap [] := va_S.rf
  have hP : va_P D vwCl (VW K ad I G A L) s.heap := hP
  have hl := lv_entry ([.ref (ad 318), .int a1, .int a2]) (n := 5) (Nat.le_of_ble_eq_true rfl)
  rw [lg_entry_eq]
  generalize (lg_sl ([.ref (ad 318), .int a1, .int a2]) ++ List.replicate (5 - (lg_sl ([.ref (ad 318), .int a1, .int a2])).length) Slot.unset).toArray = ls at hl ⊢
  have hl : lv_has ls 5 [(0, .ref (ad 318)), (1, .int a1), (2, .int a2)] := hl
  rw [f_X7_turnOf] at h
  refine lv_aload_n hx hb dX7_turnOf_0 rfl (lv_at hl 0 rfl) ?_
  refine vgC hx hb hts hi7 hown hK hP (318) (by decide) (show kd 318 = 7 by decide) (C := RX7) (T := TX7) (N := 79) rfl 27 (by decide) (by decide) (by decide) (by decide) (337) rfl (hts (.fieldLink RX7 71 "CrateHelpersModel" "holds" "[I") (by decide +kernel)) (fun _ h9 => h9) dX7_turnOf_1 ?_
  refine lv_iload_n hx hb dX7_turnOf_4 rfl (lv_at hl 2 rfl) ?_
  obtain ⟨hn1, h⟩ := gk h
  refine xiald hx hb hK hP (337) (by decide) (show kd 337 = 8 by decide) (by rw [show ln 337 = 5 by decide]; exact hn1) dX7_turnOf_5 ?_
  refine lv_bipush (v := (-9)) hx hb dX7_turnOf_6 (by decide) ?_
  refine lv_icmp_ne (tgt := 123) hx hb dX7_turnOf_8 (by decide) (fun c_2 => ?_) (fun c_2 => ?_)
  · have h := iN c_2 h
    refine lv_aload_n hx hb dX7_turnOf_123 rfl (lv_at hl 0 rfl) ?_
    refine vgC hx hb hts hi7 hown hK hP (318) (by decide) (show kd 318 = 7 by decide) (C := RX7) (T := TX7) (N := 79) rfl 27 (by decide) (by decide) (by decide) (by decide) (337) rfl (hts (.fieldLink RX7 71 "CrateHelpersModel" "holds" "[I") (by decide +kernel)) (fun _ h9 => h9) dX7_turnOf_124 ?_
    refine lv_iload_n hx hb dX7_turnOf_127 rfl (lv_at hl 2 rfl) ?_
    refine xiald hx hb hK hP (337) (by decide) (show kd 337 = 8 by decide) (by rw [show ln 337 = 5 by decide]; exact hn1) dX7_turnOf_128 ?_
    refine lv_istore_n (lv' := [(3, .int (A 337 a2.toNatClampNeg)), (0, .ref (ad 318)), (1, .int a1), (2, .int a2)]) hx hb dX7_turnOf_129 rfl hl (by decide) rfl (fun ls hl => ?_)
    refine lv_aload_n hx hb dX7_turnOf_130 rfl (lv_at hl 1 rfl) ?_
    refine vgC hx hb hts hi7 hown hK hP (318) (by decide) (show kd 318 = 7 by decide) (C := RX7) (T := TX7) (N := 79) rfl 27 (by decide) (by decide) (by decide) (by decide) (337) rfl (hts (.fieldLink RX7 71 "CrateHelpersModel" "holds" "[I") (by decide +kernel)) (fun _ h9 => h9) dX7_turnOf_131 ?_
    refine lv_iload_n hx hb dX7_turnOf_134 rfl (lv_at hl 3 rfl) ?_
    refine lv_bipush (v := (-9)) hx hb dX7_turnOf_135 (by decide) ?_
    refine xiast hx hb hK hP hap hS (337) (by decide) (show kd 337 = 8 by decide) (by rw [show ln 337 = 5 by decide]; exact hn1) dX7_turnOf_137 (fun H locs hP hS => ?_)
    obtain ⟨A3, eA3, h⟩ := bd_e h
    rw [← eA3] at hP
    have hP : va_P D vwCl (VW K ad I G A3 L) H := hP
    refine lv_aload_n hx hb dX7_turnOf_138 rfl (lv_at hl 1 rfl) ?_
    refine vgC hx hb hts hi7 hown hK hP (318) (by decide) (show kd 318 = 7 by decide) (C := RX7) (T := TX7) (N := 79) rfl 25 (by decide) (by decide) (by decide) (by decide) (335) rfl (hts (.fieldLink RX7 65 "CrateHelpersModel" "failNow" "[I") (by decide +kernel)) (fun _ h9 => h9) dX7_turnOf_139 ?_
    refine lv_iload_n hx hb dX7_turnOf_142 rfl (lv_at hl 3 rfl) ?_
    refine xiald hx hb hK hP (335) (by decide) (show kd 335 = 8 by decide) (by rw [show ln 335 = 5 by decide]; exact hn1) dX7_turnOf_143 ?_
    refine lv_if_le (tgt := 188) hx hb dX7_turnOf_144 (by decide) (fun c_4 => ?_) (fun c_4 => ?_)
    · have h := iN (Int32.not_lt.mpr c_4) h
      refine lv_aload_n hx hb dX7_turnOf_188 rfl (lv_at hl 1 rfl) ?_
      refine vgC hx hb hts hi7 hown hK hP (318) (by decide) (show kd 318 = 7 by decide) (C := RX7) (T := TX7) (N := 79) rfl 22 (by decide) (by decide) (by decide) (by decide) (334) rfl (hts (.fieldLink RX7 59 "CrateHelpersModel" "didNow" "[I") (by decide +kernel)) (fun _ h9 => h9) dX7_turnOf_189 ?_
      refine lv_iload_n hx hb dX7_turnOf_192 rfl (lv_at hl 3 rfl) ?_
      refine lv_dup2_11 hx hb dX7_turnOf_193 rfl rfl ?_
      refine xiald hx hb hK hP (334) (by decide) (show kd 334 = 8 by decide) (by rw [show ln 334 = 5 by decide]; exact hn1) dX7_turnOf_194 ?_
      refine lv_iconst (v := 1) hx hb dX7_turnOf_195 (by decide) ?_
      refine lv_iadd hx hb dX7_turnOf_196 ?_
      refine xiast hx hb hK hP hap hS (334) (by decide) (show kd 334 = 8 by decide) (by rw [show ln 334 = 5 by decide]; exact hn1) dX7_turnOf_197 (fun H locs hP hS => ?_)
      obtain ⟨A5, eA5, h⟩ := bd_e h
      rw [← eA5] at hP
      have hP : va_P D vwCl (VW K ad I G A5 L) H := hP
      refine lv_aload_n hx hb dX7_turnOf_198 rfl (lv_at hl 1 rfl) ?_
      refine lv_iload_n hx hb dX7_turnOf_199 rfl (lv_at hl 2 rfl) ?_
      refine lv_iload_n hx hb dX7_turnOf_200 rfl (lv_at hl 0 rfl) ?_
      refine lv_iconst (v := 1) hx hb dX7_turnOf_201 (by decide) ?_
      obtain ⟨⟨I6, A7⟩, hc8, h⟩ := Option.bind_eq_some_iff.mp h
      refine ecVv (As := [.int a1, .int (A 337 a2.toNatClampNeg), .int 1]) (rest := []) ⟨hx, hb, hml, hown, hts⟩ (e_X7_opens l D K ad hap0 a1 (A 337 a2.toNatClampNeg) 1 I G A5 L I6 A7 hc8) (cwV 3 hts gX7_turnOf_X7_opens rfl rfl rfl (by decide +kernel) ⟨Nat.le_of_ble_eq_true rfl, Nat.le_of_ble_eq_true rfl⟩) hK hP hS (by decide) (show kd 318 = 7 by decide) (by decide) rfl rfl rfl hl.1 (Nat.le_of_ble_eq_true rfl) (Nat.le_of_ble_eq_true rfl) (Nat.le_of_ble_eq_true rfl) dX7_turnOf_202 (fun H locs hP hS => ?_) rfl
      have hP : va_P D vwCl (VW K ad I6 G A7 L) H := hP
      exact W.vret hx hb hr (fun t9 ht9 hW9 => ⟨⟨(I6, G, A7, L), rfl, by cases h; rfl, by rw [ht9]; exact hP, va_K.moved hW9.alike hK⟩, hS.F ht9⟩) hS.2.2 dX7_turnOf_205
    · have h := ip (Int32.not_le.mp c_4) h
      refine lv_aload_n hx hb dX7_turnOf_147 rfl (lv_at hl 1 rfl) ?_
      refine vgC hx hb hts hi7 hown hK hP (318) (by decide) (show kd 318 = 7 by decide) (C := RX7) (T := TX7) (N := 79) rfl 26 (by decide) (by decide) (by decide) (by decide) (336) rfl (hts (.fieldLink RX7 68 "CrateHelpersModel" "hadNow" "[I") (by decide +kernel)) (fun _ h9 => h9) dX7_turnOf_148 ?_
      refine lv_iload_n hx hb dX7_turnOf_151 rfl (lv_at hl 3 rfl) ?_
      refine xiald hx hb hK hP (336) (by decide) (show kd 336 = 8 by decide) (by rw [show ln 336 = 5 by decide]; exact hn1) dX7_turnOf_152 ?_
      refine lv_aload_n hx hb dX7_turnOf_153 rfl (lv_at hl 1 rfl) ?_
      refine vgC hx hb hts hi7 hown hK hP (318) (by decide) (show kd 318 = 7 by decide) (C := RX7) (T := TX7) (N := 79) rfl 25 (by decide) (by decide) (by decide) (by decide) (335) rfl (hts (.fieldLink RX7 65 "CrateHelpersModel" "failNow" "[I") (by decide +kernel)) (fun _ h9 => h9) dX7_turnOf_154 ?_
      refine lv_iload_n hx hb dX7_turnOf_157 rfl (lv_at hl 3 rfl) ?_
      refine xiald hx hb hK hP (335) (by decide) (show kd 335 = 8 by decide) (by rw [show ln 335 = 5 by decide]; exact hn1) dX7_turnOf_158 ?_
      refine lv_icmp_ne (tgt := 188) hx hb dX7_turnOf_159 (by decide) (fun c_9 => ?_) (fun c_9 => ?_)
      · have h := iN c_9 h
        refine lv_aload_n hx hb dX7_turnOf_188 rfl (lv_at hl 1 rfl) ?_
        refine vgC hx hb hts hi7 hown hK hP (318) (by decide) (show kd 318 = 7 by decide) (C := RX7) (T := TX7) (N := 79) rfl 22 (by decide) (by decide) (by decide) (by decide) (334) rfl (hts (.fieldLink RX7 59 "CrateHelpersModel" "didNow" "[I") (by decide +kernel)) (fun _ h9 => h9) dX7_turnOf_189 ?_
        refine lv_iload_n hx hb dX7_turnOf_192 rfl (lv_at hl 3 rfl) ?_
        refine lv_dup2_11 hx hb dX7_turnOf_193 rfl rfl ?_
        refine xiald hx hb hK hP (334) (by decide) (show kd 334 = 8 by decide) (by rw [show ln 334 = 5 by decide]; exact hn1) dX7_turnOf_194 ?_
        refine lv_iconst (v := 1) hx hb dX7_turnOf_195 (by decide) ?_
        refine lv_iadd hx hb dX7_turnOf_196 ?_
        refine xiast hx hb hK hP hap hS (334) (by decide) (show kd 334 = 8 by decide) (by rw [show ln 334 = 5 by decide]; exact hn1) dX7_turnOf_197 (fun H locs hP hS => ?_)
        obtain ⟨A10, eA10, h⟩ := bd_e h
        rw [← eA10] at hP
        have hP : va_P D vwCl (VW K ad I G A10 L) H := hP
        refine lv_aload_n hx hb dX7_turnOf_198 rfl (lv_at hl 1 rfl) ?_
        refine lv_iload_n hx hb dX7_turnOf_199 rfl (lv_at hl 2 rfl) ?_
        refine lv_iload_n hx hb dX7_turnOf_200 rfl (lv_at hl 0 rfl) ?_
        refine lv_iconst (v := 1) hx hb dX7_turnOf_201 (by decide) ?_
        obtain ⟨⟨I11, A12⟩, hc13, h⟩ := Option.bind_eq_some_iff.mp h
        refine ecVv (As := [.int a1, .int (A 337 a2.toNatClampNeg), .int 1]) (rest := []) ⟨hx, hb, hml, hown, hts⟩ (e_X7_opens l D K ad hap0 a1 (A 337 a2.toNatClampNeg) 1 I G A10 L I11 A12 hc13) (cwV 3 hts gX7_turnOf_X7_opens rfl rfl rfl (by decide +kernel) ⟨Nat.le_of_ble_eq_true rfl, Nat.le_of_ble_eq_true rfl⟩) hK hP hS (by decide) (show kd 318 = 7 by decide) (by decide) rfl rfl rfl hl.1 (Nat.le_of_ble_eq_true rfl) (Nat.le_of_ble_eq_true rfl) (Nat.le_of_ble_eq_true rfl) dX7_turnOf_202 (fun H locs hP hS => ?_) rfl
        have hP : va_P D vwCl (VW K ad I11 G A12 L) H := hP
        exact W.vret hx hb hr (fun t9 ht9 hW9 => ⟨⟨(I11, G, A12, L), rfl, by cases h; rfl, by rw [ht9]; exact hP, va_K.moved hW9.alike hK⟩, hS.F ht9⟩) hS.2.2 dX7_turnOf_205
      · have h := ip c_9 h
        refine lv_aload_n hx hb dX7_turnOf_162 rfl (lv_at hl 1 rfl) ?_
        refine vgC hx hb hts hi7 hown hK hP (318) (by decide) (show kd 318 = 7 by decide) (C := RX7) (T := TX7) (N := 79) rfl 37 (by decide) (by decide) (by decide) (by decide) (343) rfl (hts (.fieldLink RX7 89 "CrateHelpersModel" "holder" "[I") (by decide +kernel)) (fun _ h9 => h9) dX7_turnOf_163 ?_
        refine lv_iload_n hx hb dX7_turnOf_166 rfl (lv_at hl 0 rfl) ?_
        refine lv_bipush (v := (-9)) hx hb dX7_turnOf_167 (by decide) ?_
        obtain ⟨hn14, h⟩ := gk h
        refine xiast hx hb hK hP hap hS (343) (by decide) (show kd 343 = 8 by decide) (by rw [show ln 343 = 2000 by decide]; exact hn14) dX7_turnOf_169 (fun H locs hP hS => ?_)
        obtain ⟨A15, eA15, h⟩ := bd_e h
        rw [← eA15] at hP
        have hP : va_P D vwCl (VW K ad I G A15 L) H := hP
        refine lv_aload_n hx hb dX7_turnOf_170 rfl (lv_at hl 1 rfl) ?_
        refine vgC hx hb hts hi7 hown hK hP (318) (by decide) (show kd 318 = 7 by decide) (C := RX7) (T := TX7) (N := 79) rfl 25 (by decide) (by decide) (by decide) (by decide) (335) rfl (hts (.fieldLink RX7 65 "CrateHelpersModel" "failNow" "[I") (by decide +kernel)) (fun _ h9 => h9) dX7_turnOf_171 ?_
        refine lv_iload_n hx hb dX7_turnOf_174 rfl (lv_at hl 3 rfl) ?_
        refine lv_iconst (v := 0) hx hb dX7_turnOf_175 (by decide) ?_
        refine xiast hx hb hK hP hap hS (335) (by decide) (show kd 335 = 8 by decide) (by rw [show ln 335 = 5 by decide]; exact hn1) dX7_turnOf_176 (fun H locs hP hS => ?_)
        obtain ⟨A16, eA16, h⟩ := bd_e h
        rw [← eA16] at hP
        have hP : va_P D vwCl (VW K ad I G A16 L) H := hP
        refine lv_aload_n hx hb dX7_turnOf_177 rfl (lv_at hl 1 rfl) ?_
        refine vgC hx hb hts hi7 hown hK hP (318) (by decide) (show kd 318 = 7 by decide) (C := RX7) (T := TX7) (N := 79) rfl 21 (by decide) (by decide) (by decide) (by decide) (333) rfl (hts (.fieldLink RX7 56 "CrateHelpersModel" "replaced" "[I") (by decide +kernel)) (fun _ h9 => h9) dX7_turnOf_178 ?_
        refine lv_iload_n hx hb dX7_turnOf_181 rfl (lv_at hl 3 rfl) ?_
        refine lv_dup2_11 hx hb dX7_turnOf_182 rfl rfl ?_
        refine xiald hx hb hK hP (333) (by decide) (show kd 333 = 8 by decide) (by rw [show ln 333 = 5 by decide]; exact hn1) dX7_turnOf_183 ?_
        refine lv_iconst (v := 1) hx hb dX7_turnOf_184 (by decide) ?_
        refine lv_iadd hx hb dX7_turnOf_185 ?_
        refine xiast hx hb hK hP hap hS (333) (by decide) (show kd 333 = 8 by decide) (by rw [show ln 333 = 5 by decide]; exact hn1) dX7_turnOf_186 (fun H locs hP hS => ?_)
        obtain ⟨A17, eA17, h⟩ := bd_e h
        rw [← eA17] at hP
        have hP : va_P D vwCl (VW K ad I G A17 L) H := hP
        exact W.vret hx hb hr (fun t9 ht9 hW9 => ⟨⟨(I, G, A17, L), rfl, by cases h; rfl, by rw [ht9]; exact hP, va_K.moved hW9.alike hK⟩, hS.F ht9⟩) hS.2.2 dX7_turnOf_187
  · have h := ip c_2 h
    refine lv_bipush (v := (-9)) hx hb dX7_turnOf_11 (by decide) ?_
    refine lv_istore_n (lv' := [(3, .int (-9)), (0, .ref (ad 318)), (1, .int a1), (2, .int a2)]) hx hb dX7_turnOf_13 rfl hl (by decide) rfl (fun ls hl => ?_)
    refine lv_iconst (v := 0) hx hb dX7_turnOf_14 (by decide) ?_
    refine lv_istore (lv' := [(4, .int 0), (3, .int (-9)), (0, .ref (ad 318)), (1, .int a1), (2, .int a2)]) hx hb dX7_turnOf_15 hl (by decide) rfl (fun ls hl => ?_)
    obtain ⟨k21, ek21, h⟩ := bd_e h
    have kk21 : ∀ (v22 : Int32), k21 v22 = some (I0, A0) → ∀ (H : Heap) (locs : List Loc), va_P D vwCl (VW K ad I G A L) H → va_S (vF ad s.heap.size) s.heap H locs → ∀ (ls : Array Slot), lv_has ls 5 [(0, .ref (ad 318)), (2, .int a2), (3, .int v22)] → W p l e ({ frames := 6, cells := 0, slots := 0, locals := 172 }) s m ([.ref (ad 318), .int a1, .int a2] : List Value).toArray below meth c H locs 0 0 (MQ below (va_Qv (fun (u : Mem) => u = (I0, G, A0, L)) (vB D K ad) (vF ad s.heap.size)) ([.ref (ad 318), .int a1, .int a2] : List Value).toArray s 0 0 (vF ad s.heap.size)) (F0 m 67 ls []) := by
      intro v22 h H locs hP hS ls hl
      subst ek21
      refine lv_iload_n hx hb dX7_turnOf_67 rfl (lv_at hl 2 rfl) ?_
      refine lv_bipush (v := (-9)) hx hb dX7_turnOf_68 (by decide) ?_
      refine lv_icmp_eq (tgt := 87) hx hb dX7_turnOf_70 (by decide) (fun c_23 => ?_) (fun c_23 => ?_)
      · have h := ip c_23 h
        refine lv_aload_n hx hb dX7_turnOf_87 rfl (lv_at hl 0 rfl) ?_
        refine vgC hx hb hts hi7 hown hK hP (318) (by decide) (show kd 318 = 7 by decide) (C := RX7) (T := TX7) (N := 79) rfl 20 (by decide) (by decide) (by decide) (by decide) (332) rfl (hts (.fieldLink RX7 53 "CrateHelpersModel" "idle" "[I") (by decide +kernel)) (fun _ h9 => h9) dX7_turnOf_88 ?_
        refine lv_iload_n hx hb dX7_turnOf_91 rfl (lv_at hl 1 rfl) ?_
        refine lv_dup2_11 hx hb dX7_turnOf_92 rfl rfl ?_
        refine xiald hx hb hK hP (332) (by decide) (show kd 332 = 8 by decide) (by rw [show ln 332 = 5 by decide]; exact hn1) dX7_turnOf_93 ?_
        refine lv_iconst (v := 1) hx hb dX7_turnOf_94 (by decide) ?_
        refine lv_iadd hx hb dX7_turnOf_95 ?_
        refine xiast hx hb hK hP hap hS (332) (by decide) (show kd 332 = 8 by decide) (by rw [show ln 332 = 5 by decide]; exact hn1) dX7_turnOf_96 (fun H locs hP hS => ?_)
        obtain ⟨A24, eA24, h⟩ := bd_e h
        rw [← eA24] at hP
        have hP : va_P D vwCl (VW K ad I G A24 L) H := hP
        exact W.vret hx hb hr (fun t9 ht9 hW9 => ⟨⟨(I, G, A24, L), rfl, by cases h; rfl, by rw [ht9]; exact hP, va_K.moved hW9.alike hK⟩, hS.F ht9⟩) hS.2.2 dX7_turnOf_97
      · have h := iN c_23 h
        refine lv_aload_n hx hb dX7_turnOf_73 rfl (lv_at hl 0 rfl) ?_
        refine vgI hx hb hts hi7 hown hK hP (318) (by decide) (show kd 318 = 7 by decide) (C := RX7) (T := TX7) (N := 79) rfl 30 (by decide) (by decide) (by decide) (by decide) (hts (.fieldLink RX7 287 "CrateHelpersModel" "done" "I") (by decide +kernel)) (fun _ h9 => h9) dX7_turnOf_74 ?_
        refine lv_aload_n hx hb dX7_turnOf_77 rfl (lv_at hl 0 rfl) ?_
        refine vgI hx hb hts hi7 hown hK hP (318) (by decide) (show kd 318 = 7 by decide) (C := RX7) (T := TX7) (N := 79) rfl 31 (by decide) (by decide) (by decide) (by decide) (hts (.fieldLink RX7 303 "CrateHelpersModel" "taken" "I") (by decide +kernel)) (fun _ h9 => h9) dX7_turnOf_78 ?_
        refine lv_isub hx hb dX7_turnOf_81 ?_
        refine lv_bipush (v := 30) hx hb dX7_turnOf_82 (by decide) ?_
        refine lv_icmp_lt (tgt := 98) hx hb dX7_turnOf_84 (by decide) (fun c_25 => ?_) (fun c_25 => ?_)
        · have h := ip c_25 h
          refine lv_aload_n hx hb dX7_turnOf_98 rfl (lv_at hl 0 rfl) ?_
          refine vgC hx hb hts hi7 hown hK hP (318) (by decide) (show kd 318 = 7 by decide) (C := RX7) (T := TX7) (N := 79) rfl 27 (by decide) (by decide) (by decide) (by decide) (337) rfl (hts (.fieldLink RX7 71 "CrateHelpersModel" "holds" "[I") (by decide +kernel)) (fun _ h9 => h9) dX7_turnOf_99 ?_
          refine lv_iload_n hx hb dX7_turnOf_102 rfl (lv_at hl 1 rfl) ?_
          refine lv_iload_n hx hb dX7_turnOf_103 rfl (lv_at hl 2 rfl) ?_
          refine xiast hx hb hK hP hap hS (337) (by decide) (show kd 337 = 8 by decide) (by rw [show ln 337 = 5 by decide]; exact hn1) dX7_turnOf_104 (fun H locs hP hS => ?_)
          obtain ⟨A26, eA26, h⟩ := bd_e h
          rw [← eA26] at hP
          have hP : va_P D vwCl (VW K ad I G A26 L) H := hP
          refine lv_aload_n hx hb dX7_turnOf_105 rfl (lv_at hl 0 rfl) ?_
          refine vgC hx hb hts hi7 hown hK hP (318) (by decide) (show kd 318 = 7 by decide) (C := RX7) (T := TX7) (N := 79) rfl 37 (by decide) (by decide) (by decide) (by decide) (343) rfl (hts (.fieldLink RX7 89 "CrateHelpersModel" "holder" "[I") (by decide +kernel)) (fun _ h9 => h9) dX7_turnOf_106 ?_
          refine lv_iload_n hx hb dX7_turnOf_109 rfl (lv_at hl 2 rfl) ?_
          refine lv_iload_n hx hb dX7_turnOf_110 rfl (lv_at hl 1 rfl) ?_
          obtain ⟨hn27, h⟩ := gk h
          refine xiast hx hb hK hP hap hS (343) (by decide) (show kd 343 = 8 by decide) (by rw [show ln 343 = 2000 by decide]; exact hn27) dX7_turnOf_111 (fun H locs hP hS => ?_)
          obtain ⟨A28, eA28, h⟩ := bd_e h
          rw [← eA28] at hP
          have hP : va_P D vwCl (VW K ad I G A28 L) H := hP
          refine lv_aload_n hx hb dX7_turnOf_112 rfl (lv_at hl 0 rfl) ?_
          refine vgC hx hb hts hi7 hown hK hP (318) (by decide) (show kd 318 = 7 by decide) (C := RX7) (T := TX7) (N := 79) rfl 26 (by decide) (by decide) (by decide) (by decide) (336) rfl (hts (.fieldLink RX7 68 "CrateHelpersModel" "hadNow" "[I") (by decide +kernel)) (fun _ h9 => h9) dX7_turnOf_113 ?_
          refine lv_iload_n hx hb dX7_turnOf_116 rfl (lv_at hl 1 rfl) ?_
          refine lv_dup2_11 hx hb dX7_turnOf_117 rfl rfl ?_
          refine xiald hx hb hK hP (336) (by decide) (show kd 336 = 8 by decide) (by rw [show ln 336 = 5 by decide]; exact hn1) dX7_turnOf_118 ?_
          refine lv_iconst (v := 1) hx hb dX7_turnOf_119 (by decide) ?_
          refine lv_iadd hx hb dX7_turnOf_120 ?_
          refine xiast hx hb hK hP hap hS (336) (by decide) (show kd 336 = 8 by decide) (by rw [show ln 336 = 5 by decide]; exact hn1) dX7_turnOf_121 (fun H locs hP hS => ?_)
          obtain ⟨A29, eA29, h⟩ := bd_e h
          rw [← eA29] at hP
          have hP : va_P D vwCl (VW K ad I G A29 L) H := hP
          exact W.vret hx hb hr (fun t9 ht9 hW9 => ⟨⟨(I, G, A29, L), rfl, by cases h; rfl, by rw [ht9]; exact hP, va_K.moved hW9.alike hK⟩, hS.F ht9⟩) hS.2.2 dX7_turnOf_122
        · have h := iN c_25 h
          refine lv_aload_n hx hb dX7_turnOf_87 rfl (lv_at hl 0 rfl) ?_
          refine vgC hx hb hts hi7 hown hK hP (318) (by decide) (show kd 318 = 7 by decide) (C := RX7) (T := TX7) (N := 79) rfl 20 (by decide) (by decide) (by decide) (by decide) (332) rfl (hts (.fieldLink RX7 53 "CrateHelpersModel" "idle" "[I") (by decide +kernel)) (fun _ h9 => h9) dX7_turnOf_88 ?_
          refine lv_iload_n hx hb dX7_turnOf_91 rfl (lv_at hl 1 rfl) ?_
          refine lv_dup2_11 hx hb dX7_turnOf_92 rfl rfl ?_
          refine xiald hx hb hK hP (332) (by decide) (show kd 332 = 8 by decide) (by rw [show ln 332 = 5 by decide]; exact hn1) dX7_turnOf_93 ?_
          refine lv_iconst (v := 1) hx hb dX7_turnOf_94 (by decide) ?_
          refine lv_iadd hx hb dX7_turnOf_95 ?_
          refine xiast hx hb hK hP hap hS (332) (by decide) (show kd 332 = 8 by decide) (by rw [show ln 332 = 5 by decide]; exact hn1) dX7_turnOf_96 (fun H locs hP hS => ?_)
          obtain ⟨A30, eA30, h⟩ := bd_e h
          rw [← eA30] at hP
          have hP : va_P D vwCl (VW K ad I G A30 L) H := hP
          exact W.vret hx hb hr (fun t9 ht9 hW9 => ⟨⟨(I, G, A30, L), rfl, by cases h; rfl, by rw [ht9]; exact hP, va_K.moved hW9.alike hK⟩, hS.F ht9⟩) hS.2.2 dX7_turnOf_97
    have lp18 : ∀ (n : Nat) (v19 : Int32) (v20 : Int32), f_X7_turnOf_L17 a2 I A k21 n v19 v20 = some (I0, A0) → ∀ (H : Heap) (locs : List Loc), va_P D vwCl (VW K ad I G A L) H → va_S (vF ad s.heap.size) s.heap H locs → ∀ (ls : Array Slot), lv_has ls 5 [(4, .int v19), (3, .int v20), (0, .ref (ad 318)), (2, .int a2)] → W p l e ({ frames := 6, cells := 0, slots := 0, locals := 172 }) s m ([.ref (ad 318), .int a1, .int a2] : List Value).toArray below meth c H locs 0 0 (MQ below (va_Qv (fun (u : Mem) => u = (I0, G, A0, L)) (vB D K ad) (vF ad s.heap.size)) ([.ref (ad 318), .int a1, .int a2] : List Value).toArray s 0 0 (vF ad s.heap.size)) (F0 m 17 ls []) := by
      intro n
      induction n with
      | zero => intro v19 v20 h; exact absurd h (by rw [f_X7_turnOf_L17]; exact nofun)
      | succ n ih18 =>
        intro v19 v20 h H locs hP hS ls hl
        rw [f_X7_turnOf_L17] at h
        refine lv_iload hx hb dX7_turnOf_17 (lv_at hl 0 rfl) ?_
        refine lv_aload_n hx hb dX7_turnOf_19 rfl (lv_at hl 2 rfl) ?_
        refine vgI hx hb hts hi7 hown hK hP (318) (by decide) (show kd 318 = 7 by decide) (C := RX7) (T := TX7) (N := 79) rfl 29 (by decide) (by decide) (by decide) (by decide) (hts (.fieldLink RX7 284 "CrateHelpersModel" "nodes" "I") (by decide +kernel)) (fun _ h9 => h9) dX7_turnOf_20 ?_
        refine lv_icmp_ge (tgt := 67) hx hb dX7_turnOf_23 (by decide) (fun c_31 => ?_) (fun c_31 => ?_)
        · have h := iN (Int32.not_lt.mpr c_31) h
          exact kk21 v20 h _ _ hP hS ls (lv_sub hl [2, 3, 1] rfl)
        · have h := ip (Int32.not_le.mp c_31) h
          refine lv_aload_n hx hb dX7_turnOf_26 rfl (lv_at hl 2 rfl) ?_
          refine vgC hx hb hts hi7 hown hK hP (318) (by decide) (show kd 318 = 7 by decide) (C := RX7) (T := TX7) (N := 79) rfl 37 (by decide) (by decide) (by decide) (by decide) (343) rfl (hts (.fieldLink RX7 89 "CrateHelpersModel" "holder" "[I") (by decide +kernel)) (fun _ h9 => h9) dX7_turnOf_27 ?_
          refine lv_iload hx hb dX7_turnOf_30 (lv_at hl 0 rfl) ?_
          obtain ⟨hn32, h⟩ := gk h
          refine xiald hx hb hK hP (343) (by decide) (show kd 343 = 8 by decide) (by rw [show ln 343 = 2000 by decide]; exact hn32) dX7_turnOf_32 ?_
          refine lv_bipush (v := (-9)) hx hb dX7_turnOf_33 (by decide) ?_
          refine lv_icmp_ne (tgt := 59) hx hb dX7_turnOf_35 (by decide) (fun c_33 => ?_) (fun c_33 => ?_)
          · have h := iN c_33 h
            refine lv_iload_n hx hb dX7_turnOf_59 rfl (lv_at hl 1 rfl) ?_
            refine lv_istore_n (lv' := [(3, .int v20), (4, .int v19), (0, .ref (ad 318)), (2, .int a2)]) hx hb dX7_turnOf_60 rfl hl (by decide) rfl (fun ls hl => ?_)
            refine lv_iinc (v := (v19 + 1)) (lv' := [(4, .int (v19 + 1)), (3, .int v20), (0, .ref (ad 318)), (2, .int a2)]) hx hb dX7_turnOf_61 hl (k := 1) rfl rfl (by decide) rfl (fun ls hl => ?_)
            refine lv_goto (tgt := 17) hx hb dX7_turnOf_64 (by decide) ?_
            exact ih18 (v19 + 1) v20 h _ _ hP hS ls (lv_sub hl [0, 1, 2, 3] rfl)
          · have h := ip c_33 h
            refine lv_iload_n hx hb dX7_turnOf_38 rfl (lv_at hl 1 rfl) ?_
            refine lv_bipush (v := (-9)) hx hb dX7_turnOf_39 (by decide) ?_
            refine lv_icmp_eq (tgt := 54) hx hb dX7_turnOf_41 (by decide) (fun c_34 => ?_) (fun c_34 => ?_)
            · have h := ip c_34 h
              refine lv_iload hx hb dX7_turnOf_54 (lv_at hl 0 rfl) ?_
              refine lv_goto (tgt := 60) hx hb dX7_turnOf_56 (by decide) ?_
              refine lv_istore_n (lv' := [(3, .int v19), (4, .int v19), (0, .ref (ad 318)), (2, .int a2)]) hx hb dX7_turnOf_60 rfl hl (by decide) rfl (fun ls hl => ?_)
              refine lv_iinc (v := (v19 + 1)) (lv' := [(4, .int (v19 + 1)), (3, .int v19), (0, .ref (ad 318)), (2, .int a2)]) hx hb dX7_turnOf_61 hl (k := 1) rfl rfl (by decide) rfl (fun ls hl => ?_)
              refine lv_goto (tgt := 17) hx hb dX7_turnOf_64 (by decide) ?_
              exact ih18 (v19 + 1) v19 h _ _ hP hS ls (lv_sub hl [0, 1, 2, 3] rfl)
            · have h := iN c_34 h
              refine lv_aload_n hx hb dX7_turnOf_44 rfl (lv_at hl 2 rfl) ?_
              refine lv_iload hx hb dX7_turnOf_45 (lv_at hl 0 rfl) ?_
              refine lv_iload_n hx hb dX7_turnOf_47 rfl (lv_at hl 1 rfl) ?_
              obtain ⟨r35, hc36, h⟩ := Option.bind_eq_some_iff.mp h
              refine ecV (As := [.int v19, .int v20]) (rest := []) ⟨hx, hb, hml, hown, hts⟩ (e_X7_isAhead l D K ad hap0 v19 v20 I G A L r35 hc36) (cwV 2 hts gX7_turnOf_X7_isAhead rfl rfl rfl (by decide +kernel) ⟨Nat.le_of_ble_eq_true rfl, Nat.le_of_ble_eq_true rfl⟩) hK hP hS (by decide) (show kd 318 = 7 by decide) (by decide) rfl rfl rfl hl.1 (Nat.le_of_ble_eq_true rfl) (Nat.le_of_ble_eq_true rfl) (Nat.le_of_ble_eq_true rfl) dX7_turnOf_48 (fun H locs hP hS => ?_) rfl
              have hP : va_P D vwCl (VW K ad I G A L) H := hP
              refine lv_if_eq (tgt := 59) hx hb dX7_turnOf_51 (by decide) (fun c_37 => ?_) (fun c_37 => ?_)
              · have h := ip c_37 h
                refine lv_iload_n hx hb dX7_turnOf_59 rfl (lv_at hl 1 rfl) ?_
                refine lv_istore_n (lv' := [(3, .int v20), (4, .int v19), (0, .ref (ad 318)), (2, .int a2)]) hx hb dX7_turnOf_60 rfl hl (by decide) rfl (fun ls hl => ?_)
                refine lv_iinc (v := (v19 + 1)) (lv' := [(4, .int (v19 + 1)), (3, .int v20), (0, .ref (ad 318)), (2, .int a2)]) hx hb dX7_turnOf_61 hl (k := 1) rfl rfl (by decide) rfl (fun ls hl => ?_)
                refine lv_goto (tgt := 17) hx hb dX7_turnOf_64 (by decide) ?_
                exact ih18 (v19 + 1) v20 h _ _ hP hS ls (lv_sub hl [0, 1, 2, 3] rfl)
              · have h := iN c_37 h
                refine lv_iload hx hb dX7_turnOf_54 (lv_at hl 0 rfl) ?_
                refine lv_goto (tgt := 60) hx hb dX7_turnOf_56 (by decide) ?_
                refine lv_istore_n (lv' := [(3, .int v19), (4, .int v19), (0, .ref (ad 318)), (2, .int a2)]) hx hb dX7_turnOf_60 rfl hl (by decide) rfl (fun ls hl => ?_)
                refine lv_iinc (v := (v19 + 1)) (lv' := [(4, .int (v19 + 1)), (3, .int v19), (0, .ref (ad 318)), (2, .int a2)]) hx hb dX7_turnOf_61 hl (k := 1) rfl rfl (by decide) rfl (fun ls hl => ?_)
                refine lv_goto (tgt := 17) hx hb dX7_turnOf_64 (by decide) ?_
                exact ih18 (v19 + 1) v19 h _ _ hP hS ls (lv_sub hl [0, 1, 2, 3] rfl)
    exact lp18 FU 0 (-9) h _ _ hP hS ls (lv_sub hl [0, 1, 2, 4] rfl)

/-! part 51.r08 -/
set_option maxHeartbeats 4000000 in
set_option maxRecDepth 100000 in
theorem e_X7_walks (l : Launch) (D : va_G) (K : Nat → ClassId) (ad : Nat → Nat) (hap0 : apart ad (fun _ => True)) (a1 : Int32) (I : Nat → Nat → Int32) (G : Nat → Nat → Nat) (A : Nat → Nat → Int32) (L : Nat → Nat → Int64) (r0 : Int32) (I0 : Nat → Nat → Int32) (A0 : Nat → Nat → Int32) (h : f_X7_walks I A a1 = some (r0, I0, A0)) : Ci l D K ad yX7_walks wsX7_walks 2 51 [.ref (ad 318), .int a1] (I, G, A, L) (fun (r : Int32) (u : Mem) => r = r0 ∧ u = (I0, G, A0, L)) := by
  intro sz
  refine Met.ofW (cc := cX7_walks) (maxL := 3) (ret := (some .int)) (by decide) rfl ?_
  intro p e s m args below meth c s₁ Bd hml hv0
  obtain ⟨rfl, hsz, hP, hK⟩ := hv0
  have hx := Bd.exec
  have hb := Bd.bytes
  have hr := Bd.returns
  have hts := atoms_spec (ws := wsX7_walks) Bd.pre
  have hown : s.vm.findClass RX7 = some m.cls := findClass_of_methodNamed Bd.named
  have hlocks := Bd.notSynchronized
  have hi7 : ∀ w ∈ u_ws RX7 TX7 79, w ∈ wsX7_walks := fun w h => List.mem_cons_of_mem _ (List.mem_append_right _ h)
  subst hsz
  have hap := vF_ap hap0 s.heap.size
  have hS : va_S (vF ad s.heap.size) s.heap s.heap [] := va_S.rf
  have hP : va_P D vwCl (VW K ad I G A L) s.heap := hP
  have hl := lv_entry ([.ref (ad 318), .int a1]) (n := 3) (Nat.le_of_ble_eq_true rfl)
  rw [lg_entry_eq]
  generalize (lg_sl ([.ref (ad 318), .int a1]) ++ List.replicate (3 - (lg_sl ([.ref (ad 318), .int a1])).length) Slot.unset).toArray = ls at hl ⊢
  have hl : lv_has ls 3 [(0, .ref (ad 318)), (1, .int a1)] := hl
  rw [f_X7_walks] at h
  refine lv_aload_n hx hb dX7_walks_0 rfl (lv_at hl 0 rfl) ?_
  obtain ⟨r1, hc2, h⟩ := Option.bind_eq_some_iff.mp h
  refine ecV (As := []) (rest := []) ⟨hx, hb, hml, hown, hts⟩ (e_X7_nextOf l D K ad hap0  I G A L r1 hc2) (cwV 0 hts gX7_walks_X7_nextOf rfl rfl rfl (by decide +kernel) ⟨Nat.le_of_ble_eq_true rfl, Nat.le_of_ble_eq_true rfl⟩) hK hP hS (by decide) (show kd 318 = 7 by decide) (by decide) rfl rfl rfl hl.1 (Nat.le_of_ble_eq_true rfl) (Nat.le_of_ble_eq_true rfl) (Nat.le_of_ble_eq_true rfl) dX7_walks_1 (fun H locs hP hS => ?_) rfl
  have hP : va_P D vwCl (VW K ad I G A L) H := hP
  refine lv_istore_n (lv' := [(2, .int r1), (0, .ref (ad 318)), (1, .int a1)]) hx hb dX7_walks_4 rfl hl (by decide) rfl (fun ls hl => ?_)
  obtain ⟨k7, ek7, h⟩ := bd_e h
  have kk7 : ∀ (I8 : Nat → Nat → Int32) (A9 : Nat → Nat → Int32), k7 I8 A9 = some (r0, I0, A0) → ∀ (H : Heap) (locs : List Loc), va_P D vwCl (VW K ad I8 G A9 L) H → va_S (vF ad s.heap.size) s.heap H locs → ∀ (ls : Array Slot), lv_has ls 3 [] → W p l e ({ frames := 2, cells := 0, slots := 0, locals := 51 }) s m ([.ref (ad 318), .int a1] : List Value).toArray below meth c H locs 0 0 (MQ below (va_Qi (fun (r : Int32) (u : Mem) => r = r0 ∧ u = (I0, G, A0, L)) (vB D K ad) (vF ad s.heap.size)) ([.ref (ad 318), .int a1] : List Value).toArray s 0 0 (vF ad s.heap.size)) (F0 m 40 ls []) := by
    intro I8 A9 h H locs hP hS ls hl
    subst ek7
    refine lv_iconst (v := 1) hx hb dX7_walks_40 (by decide) ?_
    exact W.iret (v := 1) hx hb hr (fun t9 ht9 hW9 => ⟨⟨1, (I8, G, A9, L), rfl, by cases h; exact ⟨rfl, rfl⟩, by rw [ht9]; exact hP, va_K.moved hW9.alike hK⟩, hS.F ht9⟩) hS.2.2 dX7_walks_41
  obtain ⟨k10, ek10, h⟩ := bd_e h
  have kk10 : ∀ (I11 : Nat → Nat → Int32) (A12 : Nat → Nat → Int32), k10 I11 A12 = some (r0, I0, A0) → ∀ (H : Heap) (locs : List Loc), va_P D vwCl (VW K ad I11 G A12 L) H → va_S (vF ad s.heap.size) s.heap H locs → ∀ (ls : Array Slot), lv_has ls 3 [] → W p l e ({ frames := 2, cells := 0, slots := 0, locals := 51 }) s m ([.ref (ad 318), .int a1] : List Value).toArray below meth c H locs 0 0 (MQ below (va_Qi (fun (r : Int32) (u : Mem) => r = r0 ∧ u = (I0, G, A0, L)) (vB D K ad) (vF ad s.heap.size)) ([.ref (ad 318), .int a1] : List Value).toArray s 0 0 (vF ad s.heap.size)) (F0 m 52 ls []) := by
    intro I11 A12 h H locs hP hS ls hl
    subst ek10
    refine lv_iconst (v := 4) hx hb dX7_walks_52 (by decide) ?_
    exact W.iret (v := 4) hx hb hr (fun t9 ht9 hW9 => ⟨⟨4, (I11, G, A12, L), rfl, by cases h; exact ⟨rfl, rfl⟩, by rw [ht9]; exact hP, va_K.moved hW9.alike hK⟩, hS.F ht9⟩) hS.2.2 dX7_walks_53
  obtain ⟨k13, ek13, h⟩ := bd_e h
  have kk13 : ∀ (I14 : Nat → Nat → Int32) (A15 : Nat → Nat → Int32), k13 I14 A15 = some (r0, I0, A0) → ∀ (H : Heap) (locs : List Loc), va_P D vwCl (VW K ad I14 G A15 L) H → va_S (vF ad s.heap.size) s.heap H locs → ∀ (ls : Array Slot), lv_has ls 3 [] → W p l e ({ frames := 2, cells := 0, slots := 0, locals := 51 }) s m ([.ref (ad 318), .int a1] : List Value).toArray below meth c H locs 0 0 (MQ below (va_Qi (fun (r : Int32) (u : Mem) => r = r0 ∧ u = (I0, G, A0, L)) (vB D K ad) (vF ad s.heap.size)) ([.ref (ad 318), .int a1] : List Value).toArray s 0 0 (vF ad s.heap.size)) (F0 m 65 ls []) := by
    intro I14 A15 h H locs hP hS ls hl
    subst ek13
    refine lv_iconst (v := 3) hx hb dX7_walks_65 (by decide) ?_
    exact W.iret (v := 3) hx hb hr (fun t9 ht9 hW9 => ⟨⟨3, (I14, G, A15, L), rfl, by cases h; exact ⟨rfl, rfl⟩, by rw [ht9]; exact hP, va_K.moved hW9.alike hK⟩, hS.F ht9⟩) hS.2.2 dX7_walks_66
  obtain ⟨k16, ek16, h⟩ := bd_e h
  have kk16 : ∀ (v17 : Int32) (I18 : Nat → Nat → Int32) (A19 : Nat → Nat → Int32), k16 v17 I18 A19 = some (r0, I0, A0) → ∀ (H : Heap) (locs : List Loc), va_P D vwCl (VW K ad I18 G A19 L) H → va_S (vF ad s.heap.size) s.heap H locs → ∀ (ls : Array Slot), lv_has ls 3 [(2, .int v17)] → W p l e ({ frames := 2, cells := 0, slots := 0, locals := 51 }) s m ([.ref (ad 318), .int a1] : List Value).toArray below meth c H locs 0 0 (MQ below (va_Qi (fun (r : Int32) (u : Mem) => r = r0 ∧ u = (I0, G, A0, L)) (vB D K ad) (vF ad s.heap.size)) ([.ref (ad 318), .int a1] : List Value).toArray s 0 0 (vF ad s.heap.size)) (F0 m 75 ls []) := by
    intro v17 I18 A19 h H locs hP hS ls hl
    subst ek16
    refine lv_iload_n hx hb dX7_walks_75 rfl (lv_at hl 0 rfl) ?_
    refine lv_bipush (v := (-9)) hx hb dX7_walks_76 (by decide) ?_
    refine lv_icmp_ne (tgt := 85) hx hb dX7_walks_78 (by decide) (fun c_20 => ?_) (fun c_20 => ?_)
    · have h := iN c_20 h
      refine lv_iconst (v := 0) hx hb dX7_walks_85 (by decide) ?_
      exact W.iret (v := 0) hx hb hr (fun t9 ht9 hW9 => ⟨⟨0, (I18, G, A19, L), rfl, by cases h; exact ⟨rfl, rfl⟩, by rw [ht9]; exact hP, va_K.moved hW9.alike hK⟩, hS.F ht9⟩) hS.2.2 dX7_walks_86
    · have h := ip c_20 h
      refine lv_iconst (v := 2) hx hb dX7_walks_81 (by decide) ?_
      refine lv_goto (tgt := 86) hx hb dX7_walks_82 (by decide) ?_
      exact W.iret (v := 2) hx hb hr (fun t9 ht9 hW9 => ⟨⟨2, (I18, G, A19, L), rfl, by cases h; exact ⟨rfl, rfl⟩, by rw [ht9]; exact hP, va_K.moved hW9.alike hK⟩, hS.F ht9⟩) hS.2.2 dX7_walks_86
  have lp3 : ∀ (n : Nat) (v4 : Int32) (I5 : Nat → Nat → Int32) (A6 : Nat → Nat → Int32), f_X7_walks_L5 a1 k7 k10 k13 k16 n v4 I5 A6 = some (r0, I0, A0) → ∀ (H : Heap) (locs : List Loc), va_P D vwCl (VW K ad I5 G A6 L) H → va_S (vF ad s.heap.size) s.heap H locs → ∀ (ls : Array Slot), lv_has ls 3 [(2, .int v4), (0, .ref (ad 318)), (1, .int a1)] → W p l e ({ frames := 2, cells := 0, slots := 0, locals := 51 }) s m ([.ref (ad 318), .int a1] : List Value).toArray below meth c H locs 0 0 (MQ below (va_Qi (fun (r : Int32) (u : Mem) => r = r0 ∧ u = (I0, G, A0, L)) (vB D K ad) (vF ad s.heap.size)) ([.ref (ad 318), .int a1] : List Value).toArray s 0 0 (vF ad s.heap.size)) (F0 m 5 ls []) := by
    intro n
    induction n with
    | zero => intro v4 I5 A6 h; exact absurd h (by rw [f_X7_walks_L5]; exact nofun)
    | succ n ih3 =>
      intro v4 I5 A6 h H locs hP hS ls hl
      rw [f_X7_walks_L5] at h
      refine lv_iload_n hx hb dX7_walks_5 rfl (lv_at hl 0 rfl) ?_
      refine lv_bipush (v := (-9)) hx hb dX7_walks_6 (by decide) ?_
      refine lv_icmp_eq (tgt := 75) hx hb dX7_walks_8 (by decide) (fun c_21 => ?_) (fun c_21 => ?_)
      · have h := ip c_21 h
        exact kk16 v4 I5 A6 h _ _ hP hS ls (lv_sub hl [0] rfl)
      · have h := iN c_21 h
        refine lv_aload_n hx hb dX7_walks_11 rfl (lv_at hl 1 rfl) ?_
        refine vgC hx hb hts hi7 hown hK hP (318) (by decide) (show kd 318 = 7 by decide) (C := RX7) (T := TX7) (N := 79) rfl 38 (by decide) (by decide) (by decide) (by decide) (344) rfl (hts (.fieldLink RX7 92 "CrateHelpersModel" "isDone" "[Z") (by decide +kernel)) (fun _ h9 => h9) dX7_walks_12 ?_
        refine lv_iload_n hx hb dX7_walks_15 rfl (lv_at hl 0 rfl) ?_
        obtain ⟨hn22, h⟩ := gk h
        refine xzald hx hb hK hP (344) (by decide) (show kd 344 = 11 by decide) (by rw [show ln 344 = 2000 by decide]; exact hn22) dX7_walks_16 ?_
        refine lv_if_eq (tgt := 75) hx hb dX7_walks_17 (by decide) (fun c_23 => ?_) (fun c_23 => ?_)
        · have h := ip c_23 h
          exact kk16 v4 I5 A6 h _ _ hP hS ls (lv_sub hl [0] rfl)
        · have h := iN c_23 h
          refine lv_aload_n hx hb dX7_walks_20 rfl (lv_at hl 1 rfl) ?_
          refine lv_iload_n hx hb dX7_walks_21 rfl (lv_at hl 0 rfl) ?_
          obtain ⟨⟨I24, A25⟩, hc26, h⟩ := Option.bind_eq_some_iff.mp h
          refine ecVv (As := [.int v4]) (rest := []) ⟨hx, hb, hml, hown, hts⟩ (e_X7_takes l D K ad hap0 v4 I5 G A6 L I24 A25 hc26) (cwV 1 hts gX7_walks_X7_takes rfl rfl rfl (by decide +kernel) ⟨Nat.le_of_ble_eq_true rfl, Nat.le_of_ble_eq_true rfl⟩) hK hP hS (by decide) (show kd 318 = 7 by decide) (by decide) rfl rfl rfl hl.1 (Nat.le_of_ble_eq_true rfl) (Nat.le_of_ble_eq_true rfl) (Nat.le_of_ble_eq_true rfl) dX7_walks_22 (fun H locs hP hS => ?_) rfl
          have hP : va_P D vwCl (VW K ad I24 G A25 L) H := hP
          refine lv_aload_n hx hb dX7_walks_25 rfl (lv_at hl 1 rfl) ?_
          refine vgC hx hb hts hi7 hown hK hP (318) (by decide) (show kd 318 = 7 by decide) (C := RX7) (T := TX7) (N := 79) rfl 32 (by decide) (by decide) (by decide) (by decide) (338) rfl (hts (.fieldLink RX7 74 "CrateHelpersModel" "depth" "[I") (by decide +kernel)) (fun _ h9 => h9) dX7_walks_26 ?_
          refine lv_iload_n hx hb dX7_walks_29 rfl (lv_at hl 0 rfl) ?_
          refine xiald hx hb hK hP (338) (by decide) (show kd 338 = 8 by decide) (by rw [show ln 338 = 2000 by decide]; exact hn22) dX7_walks_30 ?_
          refine lv_aload_n hx hb dX7_walks_31 rfl (lv_at hl 1 rfl) ?_
          refine vgC hx hb hts hi7 hown hK hP (318) (by decide) (show kd 318 = 7 by decide) (C := RX7) (T := TX7) (N := 79) rfl 3 (by decide) (by decide) (by decide) (by decide) (319) rfl (hts (.fieldLink RX7 7 "CrateHelpersModel" "variables" "[I") (by decide +kernel)) (fun _ h9 => h9) dX7_walks_32 ?_
          refine lv_iload_n hx hb dX7_walks_35 rfl (lv_at hl 2 rfl) ?_
          obtain ⟨hn27, h⟩ := gk h
          refine xiald hx hb hK hP (319) (by decide) (show kd 319 = 8 by decide) (by rw [show ln 319 = 5 by decide]; exact hn27) dX7_walks_36 ?_
          refine lv_icmp_ne (tgt := 42) hx hb dX7_walks_37 (by decide) (fun c_28 => ?_) (fun c_28 => ?_)
          · have h := iN c_28 h
            refine lv_aload_n hx hb dX7_walks_42 rfl (lv_at hl 1 rfl) ?_
            refine vgI hx hb hts hi7 hown hK hP (318) (by decide) (show kd 318 = 7 by decide) (C := RX7) (T := TX7) (N := 79) rfl 31 (by decide) (by decide) (by decide) (by decide) (hts (.fieldLink RX7 303 "CrateHelpersModel" "taken" "I") (by decide +kernel)) (fun _ h9 => h9) dX7_walks_43 ?_
            refine lv_sipush (v := 250) hx hb dX7_walks_46 (by decide) ?_
            refine lv_icmp_ne (tgt := 54) hx hb dX7_walks_49 (by decide) (fun c_29 => ?_) (fun c_29 => ?_)
            · have h := iN c_29 h
              refine lv_aload_n hx hb dX7_walks_54 rfl (lv_at hl 1 rfl) ?_
              refine vgI hx hb hts hi7 hown hK hP (318) (by decide) (show kd 318 = 7 by decide) (C := RX7) (T := TX7) (N := 79) rfl 31 (by decide) (by decide) (by decide) (by decide) (hts (.fieldLink RX7 303 "CrateHelpersModel" "taken" "I") (by decide +kernel)) (fun _ h9 => h9) dX7_walks_55 ?_
              refine lv_aload_n hx hb dX7_walks_58 rfl (lv_at hl 1 rfl) ?_
              refine vgI hx hb hts hi7 hown hK hP (318) (by decide) (show kd 318 = 7 by decide) (C := RX7) (T := TX7) (N := 79) rfl 24 (by decide) (by decide) (by decide) (by decide) (hts (.fieldLink RX7 319 "CrateHelpersModel" "limitNow" "I") (by decide +kernel)) (fun _ h9 => h9) dX7_walks_59 ?_
              refine lv_icmp_ne (tgt := 67) hx hb dX7_walks_62 (by decide) (fun c_30 => ?_) (fun c_30 => ?_)
              · have h := iN c_30 h
                refine lv_aload_n hx hb dX7_walks_67 rfl (lv_at hl 1 rfl) ?_
                obtain ⟨r31, hc32, h⟩ := Option.bind_eq_some_iff.mp h
                refine ecV (As := []) (rest := []) ⟨hx, hb, hml, hown, hts⟩ (e_X7_nextOf l D K ad hap0  I24 G A25 L r31 hc32) (cwV 0 hts gX7_walks_X7_nextOf rfl rfl rfl (by decide +kernel) ⟨Nat.le_of_ble_eq_true rfl, Nat.le_of_ble_eq_true rfl⟩) hK hP hS (by decide) (show kd 318 = 7 by decide) (by decide) rfl rfl rfl hl.1 (Nat.le_of_ble_eq_true rfl) (Nat.le_of_ble_eq_true rfl) (Nat.le_of_ble_eq_true rfl) dX7_walks_68 (fun H locs hP hS => ?_) rfl
                have hP : va_P D vwCl (VW K ad I24 G A25 L) H := hP
                refine lv_istore_n (lv' := [(2, .int r31), (0, .ref (ad 318)), (1, .int a1)]) hx hb dX7_walks_71 rfl hl (by decide) rfl (fun ls hl => ?_)
                refine lv_goto (tgt := 5) hx hb dX7_walks_72 (by decide) ?_
                exact ih3 r31 I24 A25 h _ _ hP hS ls (lv_sub hl [0, 1, 2] rfl)
              · have h := ip c_30 h
                exact kk13 I24 A25 h _ _ hP hS ls (lv_sub hl [] rfl)
            · have h := ip c_29 h
              exact kk10 I24 A25 h _ _ hP hS ls (lv_sub hl [] rfl)
          · have h := ip c_28 h
            exact kk7 I24 A25 h _ _ hP hS ls (lv_sub hl [] rfl)
  exact lp3 FU r1 I A h _ _ hP hS ls (lv_sub hl [0, 1, 2] rfl)
set_option maxHeartbeats 4000000 in
set_option maxRecDepth 100000 in
theorem e_X7_solve (l : Launch) (D : va_G) (K : Nat → ClassId) (ad : Nat → Nat) (hap0 : apart ad (fun _ => True)) (a1 : Int32) (a2 : Int32) (I : Nat → Nat → Int32) (G : Nat → Nat → Nat) (A : Nat → Nat → Int32) (L : Nat → Nat → Int64) (r0 : Int32) (I0 : Nat → Nat → Int32) (A0 : Nat → Nat → Int32) (h : f_X7_solve I A a1 a2 = some (r0, I0, A0)) : Ci l D K ad yX7_solve wsX7_solve 7 199 [.ref (ad 318), .int a1, .int a2] (I, G, A, L) (fun (r : Int32) (u : Mem) => r = r0 ∧ u = (I0, G, A0, L)) := by
  intro sz
  refine Met.ofW (cc := cX7_solve) (maxL := 6) (ret := (some .int)) (by decide) rfl ?_
  intro p e s m args below meth c s₁ Bd hml hv0
  obtain ⟨rfl, hsz, hP, hK⟩ := hv0
  have hx := Bd.exec
  have hb := Bd.bytes
  have hr := Bd.returns
  have hts := atoms_spec (ws := wsX7_solve) Bd.pre
  have hown : s.vm.findClass RX7 = some m.cls := findClass_of_methodNamed Bd.named
  have hlocks := Bd.notSynchronized
  have hi7 : ∀ w ∈ u_ws RX7 TX7 79, w ∈ wsX7_solve := fun w h => List.mem_cons_of_mem _ (List.mem_append_right _ h)
  subst hsz
  have hap := vF_ap hap0 s.heap.size
  have hS : va_S (vF ad s.heap.size) s.heap s.heap [] := va_S.rf
  have hP : va_P D vwCl (VW K ad I G A L) s.heap := hP
  have hl := lv_entry ([.ref (ad 318), .int a1, .int a2]) (n := 6) (Nat.le_of_ble_eq_true rfl)
  rw [lg_entry_eq]
  generalize (lg_sl ([.ref (ad 318), .int a1, .int a2]) ++ List.replicate (6 - (lg_sl ([.ref (ad 318), .int a1, .int a2])).length) Slot.unset).toArray = ls at hl ⊢
  have hl : lv_has ls 6 [(0, .ref (ad 318)), (1, .int a1), (2, .int a2)] := hl
  rw [f_X7_solve] at h
  refine lv_aload_n hx hb dX7_solve_0 rfl (lv_at hl 0 rfl) ?_
  refine lv_iconst (v := 0) hx hb dX7_solve_1 (by decide) ?_
  refine vpI (v := 0) (ty := .int) hx hb hts hi7 tyX7 tyX7_ok nmX7 hown hK hP hap hS (318) (by decide) (show kd 318 = 7 by decide) (C := RX7) (T := TX7) (N := 79) rfl 0 (by decide) (by decide) (by decide) (by decide) (hts (.fieldLink RX7 201 "CrateHelpersModel" "thrown" "I") (by decide +kernel)) (fun _ h9 => h9) rfl (by decide +kernel) rfl rfl dX7_solve_2 (fun H locs hP hS => ?_)
  obtain ⟨I1, eI1, h⟩ := bd_e h
  rw [← eI1] at hP
  have hP : va_P D vwCl (VW K ad I1 G A L) H := hP
  refine lv_aload_n hx hb dX7_solve_5 rfl (lv_at hl 0 rfl) ?_
  refine lv_iload_n hx hb dX7_solve_6 rfl (lv_at hl 1 rfl) ?_
  obtain ⟨r2, hc3, h⟩ := Option.bind_eq_some_iff.mp h
  refine ecV (As := [.int a1]) (rest := []) ⟨hx, hb, hml, hown, hts⟩ (e_X7_isProblem l D K ad hap0 a1 I1 G A L r2 hc3) (cwV 1 hts gX7_solve_X7_isProblem rfl rfl rfl (by decide +kernel) ⟨Nat.le_of_ble_eq_true rfl, Nat.le_of_ble_eq_true rfl⟩) hK hP hS (by decide) (show kd 318 = 7 by decide) (by decide) rfl rfl rfl hl.1 (Nat.le_of_ble_eq_true rfl) (Nat.le_of_ble_eq_true rfl) (Nat.le_of_ble_eq_true rfl) dX7_solve_7 (fun H locs hP hS => ?_) rfl
  have hP : va_P D vwCl (VW K ad I1 G A L) H := hP
  refine lv_if_eq (tgt := 24) hx hb dX7_solve_10 (by decide) (fun c_4 => ?_) (fun c_4 => ?_)
  · have h := ip c_4 h
    refine lv_iconst (v := (-1)) hx hb dX7_solve_24 (by decide) ?_
    exact W.iret (v := (-1)) hx hb hr (fun t9 ht9 hW9 => ⟨⟨(-1), (I1, G, A, L), rfl, by cases h; exact ⟨rfl, rfl⟩, by rw [ht9]; exact hP, va_K.moved hW9.alike hK⟩, hS.F ht9⟩) hS.2.2 dX7_solve_25
  · have h := iN c_4 h
    refine lv_iload_n hx hb dX7_solve_13 rfl (lv_at hl 2 rfl) ?_
    refine lv_iconst (v := 1) hx hb dX7_solve_14 (by decide) ?_
    refine lv_sipush (v := 500) hx hb dX7_solve_15 (by decide) ?_
    obtain ⟨r5, hc6, h⟩ := Option.bind_eq_some_iff.mp h
    refine ecS (As := [.int a2, .int 1, .int 500]) (rest := []) ⟨hx, hb, hml, hown, hts⟩ (e_X7_in l D K ad hap0 a2 1 500 I1 G A L r5 hc6) (va_cwS 3 hts gX7_solve_X7_in rfl rfl rfl (by decide +kernel) ⟨Nat.le_of_ble_eq_true rfl, Nat.le_of_ble_eq_true rfl⟩) hK hP hS rfl hl.1 (Nat.le_of_ble_eq_true rfl) (Nat.le_of_ble_eq_true rfl) (Nat.le_of_ble_eq_true rfl) dX7_solve_18 (fun H locs hP hS => ?_) rfl
    have hP : va_P D vwCl (VW K ad I1 G A L) H := hP
    refine lv_if_ne (tgt := 26) hx hb dX7_solve_21 (by decide) (fun c_7 => ?_) (fun c_7 => ?_)
    · have h := iN c_7 h
      refine lv_aload_n hx hb dX7_solve_26 rfl (lv_at hl 0 rfl) ?_
      refine vgI hx hb hts hi7 hown hK hP (318) (by decide) (show kd 318 = 7 by decide) (C := RX7) (T := TX7) (N := 79) rfl 23 (by decide) (by decide) (by decide) (by decide) (hts (.fieldLink RX7 62 "CrateHelpersModel" "under" "I") (by decide +kernel)) (fun _ h9 => h9) dX7_solve_27 ?_
      refine lv_bipush (v := (-9)) hx hb dX7_solve_30 (by decide) ?_
      obtain ⟨j9, ej9, h⟩ := bd_e h
      have kj9 : ∀ (_ : Unit), j9 () = some (r0, I0, A0) → ∀ (H : Heap) (locs : List Loc), va_P D vwCl (VW K ad I1 G A L) H → va_S (vF ad s.heap.size) s.heap H locs → ∀ (ls : Array Slot), lv_has ls 6 [(0, .ref (ad 318)), (1, .int a1), (2, .int a2)] → W p l e ({ frames := 7, cells := 0, slots := 0, locals := 199 }) s m ([.ref (ad 318), .int a1, .int a2] : List Value).toArray below meth c H locs 0 0 (MQ below (va_Qi (fun (r : Int32) (u : Mem) => r = r0 ∧ u = (I0, G, A0, L)) (vB D K ad) (vF ad s.heap.size)) ([.ref (ad 318), .int a1, .int a2] : List Value).toArray s 0 0 (vF ad s.heap.size)) (F0 m 46 ls []) := by
        intro _ h H locs hP hS ls hl
        subst ej9
        refine lv_aload_n hx hb dX7_solve_46 rfl (lv_at hl 0 rfl) ?_
        refine vgI hx hb hts hi7 hown hK hP (318) (by decide) (show kd 318 = 7 by decide) (C := RX7) (T := TX7) (N := 79) rfl 23 (by decide) (by decide) (by decide) (by decide) (hts (.fieldLink RX7 62 "CrateHelpersModel" "under" "I") (by decide +kernel)) (fun _ h9 => h9) dX7_solve_47 ?_
        refine lv_bipush (v := (-9)) hx hb dX7_solve_50 (by decide) ?_
        obtain ⟨j33, ej33, h⟩ := bd_e h
        have kj33 : ∀ (I31 : Nat → Nat → Int32) (A32 : Nat → Nat → Int32), j33 I31 A32 = some (r0, I0, A0) → ∀ (H : Heap) (locs : List Loc), va_P D vwCl (VW K ad I31 G A32 L) H → va_S (vF ad s.heap.size) s.heap H locs → ∀ (ls : Array Slot), lv_has ls 6 [(0, .ref (ad 318)), (1, .int a1), (2, .int a2)] → W p l e ({ frames := 7, cells := 0, slots := 0, locals := 199 }) s m ([.ref (ad 318), .int a1, .int a2] : List Value).toArray below meth c H locs 0 0 (MQ below (va_Qi (fun (r : Int32) (u : Mem) => r = r0 ∧ u = (I0, G, A0, L)) (vB D K ad) (vF ad s.heap.size)) ([.ref (ad 318), .int a1, .int a2] : List Value).toArray s 0 0 (vF ad s.heap.size)) (F0 m 141 ls []) := by
          intro I31 A32 h H locs hP hS ls hl
          subst ej33
          refine lv_iconst (v := 0) hx hb dX7_solve_141 (by decide) ?_
          refine lv_istore_n (lv' := [(3, .int 0), (0, .ref (ad 318)), (1, .int a1), (2, .int a2)]) hx hb dX7_solve_142 rfl hl (by decide) rfl (fun ls hl => ?_)
          obtain ⟨k38, ek38, h⟩ := bd_e h
          have kk38 : ∀ (v39 : Int32) (I40 : Nat → Nat → Int32) (A41 : Nat → Nat → Int32), k38 v39 I40 A41 = some (r0, I0, A0) → ∀ (H : Heap) (locs : List Loc), va_P D vwCl (VW K ad I40 G A41 L) H → va_S (vF ad s.heap.size) s.heap H locs → ∀ (ls : Array Slot), lv_has ls 6 [(0, .ref (ad 318)), (1, .int a1), (5, .int v39)] → W p l e ({ frames := 7, cells := 0, slots := 0, locals := 199 }) s m ([.ref (ad 318), .int a1, .int a2] : List Value).toArray below meth c H locs 0 0 (MQ below (va_Qi (fun (r : Int32) (u : Mem) => r = r0 ∧ u = (I0, G, A0, L)) (vB D K ad) (vF ad s.heap.size)) ([.ref (ad 318), .int a1, .int a2] : List Value).toArray s 0 0 (vF ad s.heap.size)) (F0 m 229 ls []) := by
            intro v39 I40 A41 h H locs hP hS ls hl
            subst ek38
            refine lv_aload_n hx hb dX7_solve_229 rfl (lv_at hl 0 rfl) ?_
            refine lv_iload_n hx hb dX7_solve_230 rfl (lv_at hl 1 rfl) ?_
            refine lv_iload hx hb dX7_solve_231 (lv_at hl 2 rfl) ?_
            obtain ⟨⟨I42, A43⟩, hc44, h⟩ := Option.bind_eq_some_iff.mp h
            refine ecVv (As := [.int a1, .int v39]) (rest := []) ⟨hx, hb, hml, hown, hts⟩ (e_X7_endsAs l D K ad hap0 a1 v39 I40 G A41 L I42 A43 hc44) (cwV 2 hts gX7_solve_X7_endsAs rfl rfl rfl (by decide +kernel) ⟨Nat.le_of_ble_eq_true rfl, Nat.le_of_ble_eq_true rfl⟩) hK hP hS (by decide) (show kd 318 = 7 by decide) (by decide) rfl rfl rfl hl.1 (Nat.le_of_ble_eq_true rfl) (Nat.le_of_ble_eq_true rfl) (Nat.le_of_ble_eq_true rfl) dX7_solve_233 (fun H locs hP hS => ?_) rfl
            have hP : va_P D vwCl (VW K ad I42 G A43 L) H := hP
            refine lv_iload hx hb dX7_solve_236 (lv_at hl 2 rfl) ?_
            exact W.iret (v := v39) hx hb hr (fun t9 ht9 hW9 => ⟨⟨v39, (I42, G, A43, L), rfl, by cases h; exact ⟨rfl, rfl⟩, by rw [ht9]; exact hP, va_K.moved hW9.alike hK⟩, hS.F ht9⟩) hS.2.2 dX7_solve_238
          obtain ⟨k45, ek45, h⟩ := bd_e h
          have kk45 : ∀ (I46 : Nat → Nat → Int32) (A47 : Nat → Nat → Int32), k45 I46 A47 = some (r0, I0, A0) → ∀ (H : Heap) (locs : List Loc), va_P D vwCl (VW K ad I46 G A47 L) H → va_S (vF ad s.heap.size) s.heap H locs → ∀ (ls : Array Slot), lv_has ls 6 [] → W p l e ({ frames := 7, cells := 0, slots := 0, locals := 199 }) s m ([.ref (ad 318), .int a1, .int a2] : List Value).toArray below meth c H locs 0 0 (MQ below (va_Qi (fun (r : Int32) (u : Mem) => r = r0 ∧ u = (I0, G, A0, L)) (vB D K ad) (vF ad s.heap.size)) ([.ref (ad 318), .int a1, .int a2] : List Value).toArray s 0 0 (vF ad s.heap.size)) (F0 m 245 ls []) := by
            intro I46 A47 h H locs hP hS ls hl
            subst ek45
            refine lv_iconst (v := 0) hx hb dX7_solve_245 (by decide) ?_
            exact W.iret (v := 0) hx hb hr (fun t9 ht9 hW9 => ⟨⟨0, (I46, G, A47, L), rfl, by cases h; exact ⟨rfl, rfl⟩, by rw [ht9]; exact hP, va_K.moved hW9.alike hK⟩, hS.F ht9⟩) hS.2.2 dX7_solve_246
          have lp34 : ∀ (n : Nat) (v35 : Int32) (I36 : Nat → Nat → Int32) (A37 : Nat → Nat → Int32), f_X7_solve_L143 a1 a2 k38 k45 n v35 I36 A37 = some (r0, I0, A0) → ∀ (H : Heap) (locs : List Loc), va_P D vwCl (VW K ad I36 G A37 L) H → va_S (vF ad s.heap.size) s.heap H locs → ∀ (ls : Array Slot), lv_has ls 6 [(3, .int v35), (0, .ref (ad 318)), (1, .int a1), (2, .int a2)] → W p l e ({ frames := 7, cells := 0, slots := 0, locals := 199 }) s m ([.ref (ad 318), .int a1, .int a2] : List Value).toArray below meth c H locs 0 0 (MQ below (va_Qi (fun (r : Int32) (u : Mem) => r = r0 ∧ u = (I0, G, A0, L)) (vB D K ad) (vF ad s.heap.size)) ([.ref (ad 318), .int a1, .int a2] : List Value).toArray s 0 0 (vF ad s.heap.size)) (F0 m 143 ls []) := by
            intro n
            induction n with
            | zero => intro v35 I36 A37 h; exact absurd h (by rw [f_X7_solve_L143]; exact nofun)
            | succ n ih34 =>
              intro v35 I36 A37 h H locs hP hS ls hl
              rw [f_X7_solve_L143] at h
              refine lv_iload_n hx hb dX7_solve_143 rfl (lv_at hl 0 rfl) ?_
              refine lv_iload_n hx hb dX7_solve_144 rfl (lv_at hl 3 rfl) ?_
              refine lv_icmp_ge (tgt := 245) hx hb dX7_solve_145 (by decide) (fun c_48 => ?_) (fun c_48 => ?_)
              · have h := iN (Int32.not_lt.mpr c_48) h
                exact kk45 I36 A37 h _ _ hP hS ls (lv_sub hl [] rfl)
              · have h := ip (Int32.not_le.mp c_48) h
                refine lv_aload_n hx hb dX7_solve_148 rfl (lv_at hl 1 rfl) ?_
                refine vgI hx hb hts hi7 hown hK hP (318) (by decide) (show kd 318 = 7 by decide) (C := RX7) (T := TX7) (N := 79) rfl 28 (by decide) (by decide) (by decide) (by decide) (hts (.fieldLink RX7 310 "CrateHelpersModel" "turns" "I") (by decide +kernel)) (fun _ h9 => h9) dX7_solve_149 ?_
                refine lv_aload_n hx hb dX7_solve_152 rfl (lv_at hl 1 rfl) ?_
                refine vgI hx hb hts hi7 hown hK hP (318) (by decide) (show kd 318 = 7 by decide) (C := RX7) (T := TX7) (N := 79) rfl 18 (by decide) (by decide) (by decide) (by decide) (hts (.fieldLink RX7 243 "CrateHelpersModel" "scheduled" "I") (by decide +kernel)) (fun _ h9 => h9) dX7_solve_153 ?_
                obtain ⟨j52, ej52, h⟩ := bd_e h
                have kj52 : ∀ (z51 : Int32), j52 z51 = some (r0, I0, A0) → ∀ (H : Heap) (locs : List Loc), va_P D vwCl (VW K ad I36 G A37 L) H → va_S (vF ad s.heap.size) s.heap H locs → ∀ (ls : Array Slot), lv_has ls 6 [(3, .int v35), (0, .ref (ad 318)), (1, .int a1), (2, .int a2)] → W p l e ({ frames := 7, cells := 0, slots := 0, locals := 199 }) s m ([.ref (ad 318), .int a1, .int a2] : List Value).toArray below meth c H locs 0 0 (MQ below (va_Qi (fun (r : Int32) (u : Mem) => r = r0 ∧ u = (I0, G, A0, L)) (vB D K ad) (vF ad s.heap.size)) ([.ref (ad 318), .int a1, .int a2] : List Value).toArray s 0 0 (vF ad s.heap.size)) (F0 m 185 ls [.int z51]) := by
                  intro z51 h H locs hP hS ls hl
                  subst ej52
                  refine lv_istore (lv' := [(4, .int z51), (3, .int v35), (0, .ref (ad 318)), (1, .int a1), (2, .int a2)]) hx hb dX7_solve_185 hl (by decide) rfl (fun ls hl => ?_)
                  refine lv_aload_n hx hb dX7_solve_187 rfl (lv_at hl 2 rfl) ?_
                  refine lv_dup hx hb dX7_solve_188 rfl ?_
                  refine vgI hx hb hts hi7 hown hK hP (318) (by decide) (show kd 318 = 7 by decide) (C := RX7) (T := TX7) (N := 79) rfl 28 (by decide) (by decide) (by decide) (by decide) (hts (.fieldLink RX7 310 "CrateHelpersModel" "turns" "I") (by decide +kernel)) (fun _ h9 => h9) dX7_solve_189 ?_
                  refine lv_iconst (v := 1) hx hb dX7_solve_192 (by decide) ?_
                  refine lv_iadd hx hb dX7_solve_193 ?_
                  refine vpI (v := ((I36 318 28) + 1)) (ty := .int) hx hb hts hi7 tyX7 tyX7_ok nmX7 hown hK hP hap hS (318) (by decide) (show kd 318 = 7 by decide) (C := RX7) (T := TX7) (N := 79) rfl 28 (by decide) (by decide) (by decide) (by decide) (hts (.fieldLink RX7 310 "CrateHelpersModel" "turns" "I") (by decide +kernel)) (fun _ h9 => h9) rfl (by decide +kernel) rfl rfl dX7_solve_194 (fun H locs hP hS => ?_)
                  obtain ⟨I53, eI53, h⟩ := bd_e h
                  rw [← eI53] at hP
                  have hP : va_P D vwCl (VW K ad I53 G A37 L) H := hP
                  refine lv_aload_n hx hb dX7_solve_197 rfl (lv_at hl 2 rfl) ?_
                  refine lv_iload_n hx hb dX7_solve_198 rfl (lv_at hl 3 rfl) ?_
                  refine lv_iload hx hb dX7_solve_199 (lv_at hl 0 rfl) ?_
                  refine lv_aload_n hx hb dX7_solve_201 rfl (lv_at hl 2 rfl) ?_
                  refine vgI hx hb hts hi7 hown hK hP (318) (by decide) (show kd 318 = 7 by decide) (C := RX7) (T := TX7) (N := 79) rfl 15 (by decide) (by decide) (by decide) (by decide) (hts (.fieldLink RX7 43 "CrateHelpersModel" "helpers" "I") (by decide +kernel)) (fun _ h9 => h9) dX7_solve_202 ?_
                  refine lv_icmp_ge (tgt := 213) hx hb dX7_solve_205 (by decide) (fun c_54 => ?_) (fun c_54 => ?_)
                  · have h := iN (Int32.not_lt.mpr c_54) h
                    refine lv_iconst (v := 0) hx hb dX7_solve_213 (by decide) ?_
                    obtain ⟨⟨I55, A56⟩, hc57, h⟩ := Option.bind_eq_some_iff.mp h
                    refine ecVv (As := [.int a1, .int 0]) (rest := []) ⟨hx, hb, hml, hown, hts⟩ (e_X7_turnOf l D K ad hap0 a1 0 I53 G A37 L I55 A56 hc57) (cwV 2 hts gX7_solve_X7_turnOf rfl rfl rfl (by decide +kernel) ⟨Nat.le_of_ble_eq_true rfl, Nat.le_of_ble_eq_true rfl⟩) hK hP hS (by decide) (show kd 318 = 7 by decide) (by decide) rfl rfl rfl hl.1 (Nat.le_of_ble_eq_true rfl) (Nat.le_of_ble_eq_true rfl) (Nat.le_of_ble_eq_true rfl) dX7_solve_214 (fun H locs hP hS => ?_) rfl
                    have hP : va_P D vwCl (VW K ad I55 G A56 L) H := hP
                    refine lv_aload_n hx hb dX7_solve_217 rfl (lv_at hl 2 rfl) ?_
                    refine lv_iload_n hx hb dX7_solve_218 rfl (lv_at hl 3 rfl) ?_
                    obtain ⟨⟨r58, I59, A60⟩, hc61, h⟩ := Option.bind_eq_some_iff.mp h
                    refine ecV (As := [.int a1]) (rest := []) ⟨hx, hb, hml, hown, hts⟩ (e_X7_walks l D K ad hap0 a1 I55 G A56 L r58 I59 A60 hc61) (cwV 1 hts gX7_solve_X7_walks rfl rfl rfl (by decide +kernel) ⟨Nat.le_of_ble_eq_true rfl, Nat.le_of_ble_eq_true rfl⟩) hK hP hS (by decide) (show kd 318 = 7 by decide) (by decide) rfl rfl rfl hl.1 (Nat.le_of_ble_eq_true rfl) (Nat.le_of_ble_eq_true rfl) (Nat.le_of_ble_eq_true rfl) dX7_solve_219 (fun H locs hP hS => ?_) rfl
                    have hP : va_P D vwCl (VW K ad I59 G A60 L) H := hP
                    refine lv_istore (lv' := [(5, .int r58), (4, .int z51), (3, .int v35), (0, .ref (ad 318)), (1, .int a1), (2, .int a2)]) hx hb dX7_solve_222 hl (by decide) rfl (fun ls hl => ?_)
                    refine lv_iload hx hb dX7_solve_224 (lv_at hl 0 rfl) ?_
                    refine lv_if_le (tgt := 239) hx hb dX7_solve_226 (by decide) (fun c_62 => ?_) (fun c_62 => ?_)
                    · have h := iN (Int32.not_lt.mpr c_62) h
                      refine lv_iinc (v := (v35 + 1)) (lv' := [(3, .int (v35 + 1)), (5, .int r58), (4, .int z51), (0, .ref (ad 318)), (1, .int a1), (2, .int a2)]) hx hb dX7_solve_239 hl (k := 2) rfl rfl (by decide) rfl (fun ls hl => ?_)
                      refine lv_goto (tgt := 143) hx hb dX7_solve_242 (by decide) ?_
                      exact ih34 (v35 + 1) I59 A60 h _ _ hP hS ls (lv_sub hl [0, 3, 4, 5] rfl)
                    · have h := ip (Int32.not_le.mp c_62) h
                      exact kk38 r58 I59 A60 h _ _ hP hS ls (lv_sub hl [3, 4, 0] rfl)
                  · have h := ip (Int32.not_le.mp c_54) h
                    refine lv_iload hx hb dX7_solve_208 (lv_at hl 0 rfl) ?_
                    refine lv_goto (tgt := 214) hx hb dX7_solve_210 (by decide) ?_
                    obtain ⟨⟨I63, A64⟩, hc65, h⟩ := Option.bind_eq_some_iff.mp h
                    refine ecVv (As := [.int a1, .int z51]) (rest := []) ⟨hx, hb, hml, hown, hts⟩ (e_X7_turnOf l D K ad hap0 a1 z51 I53 G A37 L I63 A64 hc65) (cwV 2 hts gX7_solve_X7_turnOf rfl rfl rfl (by decide +kernel) ⟨Nat.le_of_ble_eq_true rfl, Nat.le_of_ble_eq_true rfl⟩) hK hP hS (by decide) (show kd 318 = 7 by decide) (by decide) rfl rfl rfl hl.1 (Nat.le_of_ble_eq_true rfl) (Nat.le_of_ble_eq_true rfl) (Nat.le_of_ble_eq_true rfl) dX7_solve_214 (fun H locs hP hS => ?_) rfl
                    have hP : va_P D vwCl (VW K ad I63 G A64 L) H := hP
                    refine lv_aload_n hx hb dX7_solve_217 rfl (lv_at hl 2 rfl) ?_
                    refine lv_iload_n hx hb dX7_solve_218 rfl (lv_at hl 3 rfl) ?_
                    obtain ⟨⟨r66, I67, A68⟩, hc69, h⟩ := Option.bind_eq_some_iff.mp h
                    refine ecV (As := [.int a1]) (rest := []) ⟨hx, hb, hml, hown, hts⟩ (e_X7_walks l D K ad hap0 a1 I63 G A64 L r66 I67 A68 hc69) (cwV 1 hts gX7_solve_X7_walks rfl rfl rfl (by decide +kernel) ⟨Nat.le_of_ble_eq_true rfl, Nat.le_of_ble_eq_true rfl⟩) hK hP hS (by decide) (show kd 318 = 7 by decide) (by decide) rfl rfl rfl hl.1 (Nat.le_of_ble_eq_true rfl) (Nat.le_of_ble_eq_true rfl) (Nat.le_of_ble_eq_true rfl) dX7_solve_219 (fun H locs hP hS => ?_) rfl
                    have hP : va_P D vwCl (VW K ad I67 G A68 L) H := hP
                    refine lv_istore (lv' := [(5, .int r66), (4, .int z51), (3, .int v35), (0, .ref (ad 318)), (1, .int a1), (2, .int a2)]) hx hb dX7_solve_222 hl (by decide) rfl (fun ls hl => ?_)
                    refine lv_iload hx hb dX7_solve_224 (lv_at hl 0 rfl) ?_
                    refine lv_if_le (tgt := 239) hx hb dX7_solve_226 (by decide) (fun c_70 => ?_) (fun c_70 => ?_)
                    · have h := iN (Int32.not_lt.mpr c_70) h
                      refine lv_iinc (v := (v35 + 1)) (lv' := [(3, .int (v35 + 1)), (5, .int r66), (4, .int z51), (0, .ref (ad 318)), (1, .int a1), (2, .int a2)]) hx hb dX7_solve_239 hl (k := 2) rfl rfl (by decide) rfl (fun ls hl => ?_)
                      refine lv_goto (tgt := 143) hx hb dX7_solve_242 (by decide) ?_
                      exact ih34 (v35 + 1) I67 A68 h _ _ hP hS ls (lv_sub hl [0, 3, 4, 5] rfl)
                    · have h := ip (Int32.not_le.mp c_70) h
                      exact kk38 r66 I67 A68 h _ _ hP hS ls (lv_sub hl [3, 4, 0] rfl)
                refine lv_icmp_ge (tgt := 171) hx hb dX7_solve_156 (by decide) (fun c_71 => ?_) (fun c_71 => ?_)
                · have h := iN (Int32.not_lt.mpr c_71) h
                  refine lv_aload_n hx hb dX7_solve_171 rfl (lv_at hl 1 rfl) ?_
                  refine vgI hx hb hts hi7 hown hK hP (318) (by decide) (show kd 318 = 7 by decide) (C := RX7) (T := TX7) (N := 79) rfl 28 (by decide) (by decide) (by decide) (by decide) (hts (.fieldLink RX7 310 "CrateHelpersModel" "turns" "I") (by decide +kernel)) (fun _ h9 => h9) dX7_solve_172 ?_
                  refine lv_aload_n hx hb dX7_solve_175 rfl (lv_at hl 1 rfl) ?_
                  refine vgI hx hb hts hi7 hown hK hP (318) (by decide) (show kd 318 = 7 by decide) (C := RX7) (T := TX7) (N := 79) rfl 18 (by decide) (by decide) (by decide) (by decide) (hts (.fieldLink RX7 243 "CrateHelpersModel" "scheduled" "I") (by decide +kernel)) (fun _ h9 => h9) dX7_solve_176 ?_
                  refine lv_isub hx hb dX7_solve_179 ?_
                  refine lv_aload_n hx hb dX7_solve_180 rfl (lv_at hl 1 rfl) ?_
                  refine vgI hx hb hts hi7 hown hK hP (318) (by decide) (show kd 318 = 7 by decide) (C := RX7) (T := TX7) (N := 79) rfl 15 (by decide) (by decide) (by decide) (by decide) (hts (.fieldLink RX7 43 "CrateHelpersModel" "helpers" "I") (by decide +kernel)) (fun _ h9 => h9) dX7_solve_181 ?_
                  obtain ⟨hz72, h⟩ := gk h
                  refine lv_irem hx hb dX7_solve_184 hz72 ?_
                  exact kj52 (((I36 318 28) - (I36 318 18)) - ((I36 318 28) - (I36 318 18)) / (I36 318 15) * (I36 318 15)) h _ _ hP hS ls (lv_sub hl [0, 1, 2, 3] rfl)
                · have h := ip (Int32.not_le.mp c_71) h
                  refine lv_aload_n hx hb dX7_solve_159 rfl (lv_at hl 1 rfl) ?_
                  refine vgC hx hb hts hi7 hown hK hP (318) (by decide) (show kd 318 = 7 by decide) (C := RX7) (T := TX7) (N := 79) rfl 17 (by decide) (by decide) (by decide) (by decide) (331) rfl (hts (.fieldLink RX7 50 "CrateHelpersModel" "schedule" "[I") (by decide +kernel)) (fun _ h9 => h9) dX7_solve_160 ?_
                  refine lv_aload_n hx hb dX7_solve_163 rfl (lv_at hl 1 rfl) ?_
                  refine vgI hx hb hts hi7 hown hK hP (318) (by decide) (show kd 318 = 7 by decide) (C := RX7) (T := TX7) (N := 79) rfl 28 (by decide) (by decide) (by decide) (by decide) (hts (.fieldLink RX7 310 "CrateHelpersModel" "turns" "I") (by decide +kernel)) (fun _ h9 => h9) dX7_solve_164 ?_
                  obtain ⟨hn73, h⟩ := gk h
                  refine xiald hx hb hK hP (331) (by decide) (show kd 331 = 8 by decide) (by rw [show ln 331 = 200 by decide]; exact hn73) dX7_solve_167 ?_
                  refine lv_goto (tgt := 185) hx hb dX7_solve_168 (by decide) ?_
                  exact kj52 (A37 331 ((I36 318 28).toNatClampNeg)) h _ _ hP hS ls (lv_sub hl [0, 1, 2, 3] rfl)
          exact lp34 FU 0 I31 A32 h _ _ hP hS ls (lv_sub hl [0, 1, 2, 3] rfl)
        refine lv_icmp_ne (tgt := 141) hx hb dX7_solve_52 (by decide) (fun c_74 => ?_) (fun c_74 => ?_)
        · have h := iN c_74 h
          exact kj33 I1 A h _ _ hP hS ls (lv_sub hl [0, 1, 2] rfl)
        · have h := ip c_74 h
          refine lv_aload_n hx hb dX7_solve_55 rfl (lv_at hl 0 rfl) ?_
          refine lv_iload_n hx hb dX7_solve_56 rfl (lv_at hl 1 rfl) ?_
          refine vpI (v := a1) (ty := .int) hx hb hts hi7 tyX7 tyX7_ok nmX7 hown hK hP hap hS (318) (by decide) (show kd 318 = 7 by decide) (C := RX7) (T := TX7) (N := 79) rfl 23 (by decide) (by decide) (by decide) (by decide) (hts (.fieldLink RX7 62 "CrateHelpersModel" "under" "I") (by decide +kernel)) (fun _ h9 => h9) rfl (by decide +kernel) rfl rfl dX7_solve_57 (fun H locs hP hS => ?_)
          obtain ⟨I75, eI75, h⟩ := bd_e h
          rw [← eI75] at hP
          have hP : va_P D vwCl (VW K ad I75 G A L) H := hP
          refine lv_aload_n hx hb dX7_solve_60 rfl (lv_at hl 0 rfl) ?_
          refine lv_aload_n hx hb dX7_solve_61 rfl (lv_at hl 0 rfl) ?_
          refine vgI hx hb hts hi7 hown hK hP (318) (by decide) (show kd 318 = 7 by decide) (C := RX7) (T := TX7) (N := 79) rfl 19 (by decide) (by decide) (by decide) (by decide) (hts (.fieldLink RX7 246 "CrateHelpersModel" "limit" "I") (by decide +kernel)) (fun _ h9 => h9) dX7_solve_62 ?_
          refine vpI (v := (I75 318 19)) (ty := .int) hx hb hts hi7 tyX7 tyX7_ok nmX7 hown hK hP hap hS (318) (by decide) (show kd 318 = 7 by decide) (C := RX7) (T := TX7) (N := 79) rfl 24 (by decide) (by decide) (by decide) (by decide) (hts (.fieldLink RX7 319 "CrateHelpersModel" "limitNow" "I") (by decide +kernel)) (fun _ h9 => h9) rfl (by decide +kernel) rfl rfl dX7_solve_65 (fun H locs hP hS => ?_)
          obtain ⟨I76, eI76, h⟩ := bd_e h
          rw [← eI76] at hP
          have hP : va_P D vwCl (VW K ad I76 G A L) H := hP
          refine lv_aload_n hx hb dX7_solve_68 rfl (lv_at hl 0 rfl) ?_
          refine lv_iconst (v := 0) hx hb dX7_solve_69 (by decide) ?_
          refine vpI (v := 0) (ty := .int) hx hb hts hi7 tyX7 tyX7_ok nmX7 hown hK hP hap hS (318) (by decide) (show kd 318 = 7 by decide) (C := RX7) (T := TX7) (N := 79) rfl 28 (by decide) (by decide) (by decide) (by decide) (hts (.fieldLink RX7 310 "CrateHelpersModel" "turns" "I") (by decide +kernel)) (fun _ h9 => h9) rfl (by decide +kernel) rfl rfl dX7_solve_70 (fun H locs hP hS => ?_)
          obtain ⟨I77, eI77, h⟩ := bd_e h
          rw [← eI77] at hP
          have hP : va_P D vwCl (VW K ad I77 G A L) H := hP
          refine lv_iconst (v := 0) hx hb dX7_solve_73 (by decide) ?_
          refine lv_istore_n (lv' := [(3, .int 0), (0, .ref (ad 318)), (1, .int a1), (2, .int a2)]) hx hb dX7_solve_74 rfl hl (by decide) rfl (fun ls hl => ?_)
          obtain ⟨k81, ek81, h⟩ := bd_e h
          have kk81 : ∀ (A82 : Nat → Nat → Int32), k81 A82 = some (r0, I0, A0) → ∀ (H : Heap) (locs : List Loc), va_P D vwCl (VW K ad I77 G A82 L) H → va_S (vF ad s.heap.size) s.heap H locs → ∀ (ls : Array Slot), lv_has ls 6 [(0, .ref (ad 318)), (1, .int a1), (2, .int a2)] → W p l e ({ frames := 7, cells := 0, slots := 0, locals := 199 }) s m ([.ref (ad 318), .int a1, .int a2] : List Value).toArray below meth c H locs 0 0 (MQ below (va_Qi (fun (r : Int32) (u : Mem) => r = r0 ∧ u = (I0, G, A0, L)) (vB D K ad) (vF ad s.heap.size)) ([.ref (ad 318), .int a1, .int a2] : List Value).toArray s 0 0 (vF ad s.heap.size)) (F0 m 120 ls []) := by
            intro A82 h H locs hP hS ls hl
            subst ek81
            refine lv_aload_n hx hb dX7_solve_120 rfl (lv_at hl 0 rfl) ?_
            refine lv_iload_n hx hb dX7_solve_121 rfl (lv_at hl 1 rfl) ?_
            refine lv_iconst (v := 1) hx hb dX7_solve_122 (by decide) ?_
            obtain ⟨⟨I83, A84⟩, hc85, h⟩ := Option.bind_eq_some_iff.mp h
            refine ecVv (As := [.int a1, .int 1]) (rest := []) ⟨hx, hb, hml, hown, hts⟩ (e_X7_begins l D K ad hap0 a1 1 I77 G A82 L I83 A84 hc85) (cwV 2 hts gX7_solve_X7_begins rfl rfl rfl (by decide +kernel) ⟨Nat.le_of_ble_eq_true rfl, Nat.le_of_ble_eq_true rfl⟩) hK hP hS (by decide) (show kd 318 = 7 by decide) (by decide) rfl rfl rfl hl.1 (Nat.le_of_ble_eq_true rfl) (Nat.le_of_ble_eq_true rfl) (Nat.le_of_ble_eq_true rfl) dX7_solve_123 (fun H locs hP hS => ?_) rfl
            have hP : va_P D vwCl (VW K ad I83 G A84 L) H := hP
            refine lv_aload_n hx hb dX7_solve_126 rfl (lv_at hl 0 rfl) ?_
            refine vgI hx hb hts hi7 hown hK hP (318) (by decide) (show kd 318 = 7 by decide) (C := RX7) (T := TX7) (N := 79) rfl 29 (by decide) (by decide) (by decide) (by decide) (hts (.fieldLink RX7 284 "CrateHelpersModel" "nodes" "I") (by decide +kernel)) (fun _ h9 => h9) dX7_solve_127 ?_
            refine lv_if_ne (tgt := 141) hx hb dX7_solve_130 (by decide) (fun c_86 => ?_) (fun c_86 => ?_)
            · have h := iN c_86 h
              exact kj33 I83 A84 h _ _ hP hS ls (lv_sub hl [0, 1, 2] rfl)
            · have h := ip c_86 h
              refine lv_aload_n hx hb dX7_solve_133 rfl (lv_at hl 0 rfl) ?_
              refine lv_iload_n hx hb dX7_solve_134 rfl (lv_at hl 1 rfl) ?_
              refine lv_iconst (v := 2) hx hb dX7_solve_135 (by decide) ?_
              obtain ⟨⟨I87, A88⟩, hc89, h⟩ := Option.bind_eq_some_iff.mp h
              refine ecVv (As := [.int a1, .int 2]) (rest := []) ⟨hx, hb, hml, hown, hts⟩ (e_X7_endsAs l D K ad hap0 a1 2 I83 G A84 L I87 A88 hc89) (cwV 2 hts gX7_solve_X7_endsAs rfl rfl rfl (by decide +kernel) ⟨Nat.le_of_ble_eq_true rfl, Nat.le_of_ble_eq_true rfl⟩) hK hP hS (by decide) (show kd 318 = 7 by decide) (by decide) rfl rfl rfl hl.1 (Nat.le_of_ble_eq_true rfl) (Nat.le_of_ble_eq_true rfl) (Nat.le_of_ble_eq_true rfl) dX7_solve_136 (fun H locs hP hS => ?_) rfl
              have hP : va_P D vwCl (VW K ad I87 G A88 L) H := hP
              refine lv_iconst (v := 2) hx hb dX7_solve_139 (by decide) ?_
              exact W.iret (v := 2) hx hb hr (fun t9 ht9 hW9 => ⟨⟨2, (I87, G, A88, L), rfl, by cases h; exact ⟨rfl, rfl⟩, by rw [ht9]; exact hP, va_K.moved hW9.alike hK⟩, hS.F ht9⟩) hS.2.2 dX7_solve_140
          have lp78 : ∀ (n : Nat) (v79 : Int32) (A80 : Nat → Nat → Int32), f_X7_solve_L75 a1 a2 I77 k81 n v79 A80 = some (r0, I0, A0) → ∀ (H : Heap) (locs : List Loc), va_P D vwCl (VW K ad I77 G A80 L) H → va_S (vF ad s.heap.size) s.heap H locs → ∀ (ls : Array Slot), lv_has ls 6 [(3, .int v79), (0, .ref (ad 318)), (1, .int a1), (2, .int a2)] → W p l e ({ frames := 7, cells := 0, slots := 0, locals := 199 }) s m ([.ref (ad 318), .int a1, .int a2] : List Value).toArray below meth c H locs 0 0 (MQ below (va_Qi (fun (r : Int32) (u : Mem) => r = r0 ∧ u = (I0, G, A0, L)) (vB D K ad) (vF ad s.heap.size)) ([.ref (ad 318), .int a1, .int a2] : List Value).toArray s 0 0 (vF ad s.heap.size)) (F0 m 75 ls []) := by
            intro n
            induction n with
            | zero => intro v79 A80 h; exact absurd h (by rw [f_X7_solve_L75]; exact nofun)
            | succ n ih78 =>
              intro v79 A80 h H locs hP hS ls hl
              rw [f_X7_solve_L75] at h
              refine lv_iload_n hx hb dX7_solve_75 rfl (lv_at hl 0 rfl) ?_
              refine lv_iconst (v := 5) hx hb dX7_solve_76 (by decide) ?_
              refine lv_icmp_ge (tgt := 120) hx hb dX7_solve_77 (by decide) (fun c_90 => ?_) (fun c_90 => ?_)
              · have h := iN (Int32.not_lt.mpr c_90) h
                exact kk81 A80 h _ _ hP hS ls (lv_sub hl [1, 2, 3] rfl)
              · have h := ip (Int32.not_le.mp c_90) h
                refine lv_aload_n hx hb dX7_solve_80 rfl (lv_at hl 1 rfl) ?_
                refine vgC hx hb hts hi7 hown hK hP (318) (by decide) (show kd 318 = 7 by decide) (C := RX7) (T := TX7) (N := 79) rfl 25 (by decide) (by decide) (by decide) (by decide) (335) rfl (hts (.fieldLink RX7 65 "CrateHelpersModel" "failNow" "[I") (by decide +kernel)) (fun _ h9 => h9) dX7_solve_81 ?_
                refine lv_iload_n hx hb dX7_solve_84 rfl (lv_at hl 0 rfl) ?_
                refine lv_aload_n hx hb dX7_solve_85 rfl (lv_at hl 1 rfl) ?_
                refine vgC hx hb hts hi7 hown hK hP (318) (by decide) (show kd 318 = 7 by decide) (C := RX7) (T := TX7) (N := 79) rfl 16 (by decide) (by decide) (by decide) (by decide) (330) rfl (hts (.fieldLink RX7 47 "CrateHelpersModel" "failAt" "[I") (by decide +kernel)) (fun _ h9 => h9) dX7_solve_86 ?_
                refine lv_iload_n hx hb dX7_solve_89 rfl (lv_at hl 0 rfl) ?_
                obtain ⟨hn91, h⟩ := gk h
                refine xiald hx hb hK hP (330) (by decide) (show kd 330 = 8 by decide) (by rw [show ln 330 = 5 by decide]; exact hn91) dX7_solve_90 ?_
                refine xiast hx hb hK hP hap hS (335) (by decide) (show kd 335 = 8 by decide) (by rw [show ln 335 = 5 by decide]; exact hn91) dX7_solve_91 (fun H locs hP hS => ?_)
                obtain ⟨A92, eA92, h⟩ := bd_e h
                rw [← eA92] at hP
                have hP : va_P D vwCl (VW K ad I77 G A92 L) H := hP
                refine lv_aload_n hx hb dX7_solve_92 rfl (lv_at hl 1 rfl) ?_
                refine vgC hx hb hts hi7 hown hK hP (318) (by decide) (show kd 318 = 7 by decide) (C := RX7) (T := TX7) (N := 79) rfl 26 (by decide) (by decide) (by decide) (by decide) (336) rfl (hts (.fieldLink RX7 68 "CrateHelpersModel" "hadNow" "[I") (by decide +kernel)) (fun _ h9 => h9) dX7_solve_93 ?_
                refine lv_iload_n hx hb dX7_solve_96 rfl (lv_at hl 0 rfl) ?_
                refine lv_iconst (v := 0) hx hb dX7_solve_97 (by decide) ?_
                refine xiast hx hb hK hP hap hS (336) (by decide) (show kd 336 = 8 by decide) (by rw [show ln 336 = 5 by decide]; exact hn91) dX7_solve_98 (fun H locs hP hS => ?_)
                obtain ⟨A93, eA93, h⟩ := bd_e h
                rw [← eA93] at hP
                have hP : va_P D vwCl (VW K ad I77 G A93 L) H := hP
                refine lv_aload_n hx hb dX7_solve_99 rfl (lv_at hl 1 rfl) ?_
                refine vgC hx hb hts hi7 hown hK hP (318) (by decide) (show kd 318 = 7 by decide) (C := RX7) (T := TX7) (N := 79) rfl 22 (by decide) (by decide) (by decide) (by decide) (334) rfl (hts (.fieldLink RX7 59 "CrateHelpersModel" "didNow" "[I") (by decide +kernel)) (fun _ h9 => h9) dX7_solve_100 ?_
                refine lv_iload_n hx hb dX7_solve_103 rfl (lv_at hl 0 rfl) ?_
                refine lv_iconst (v := 0) hx hb dX7_solve_104 (by decide) ?_
                refine xiast hx hb hK hP hap hS (334) (by decide) (show kd 334 = 8 by decide) (by rw [show ln 334 = 5 by decide]; exact hn91) dX7_solve_105 (fun H locs hP hS => ?_)
                obtain ⟨A94, eA94, h⟩ := bd_e h
                rw [← eA94] at hP
                have hP : va_P D vwCl (VW K ad I77 G A94 L) H := hP
                refine lv_aload_n hx hb dX7_solve_106 rfl (lv_at hl 1 rfl) ?_
                refine vgC hx hb hts hi7 hown hK hP (318) (by decide) (show kd 318 = 7 by decide) (C := RX7) (T := TX7) (N := 79) rfl 27 (by decide) (by decide) (by decide) (by decide) (337) rfl (hts (.fieldLink RX7 71 "CrateHelpersModel" "holds" "[I") (by decide +kernel)) (fun _ h9 => h9) dX7_solve_107 ?_
                refine lv_iload_n hx hb dX7_solve_110 rfl (lv_at hl 0 rfl) ?_
                refine lv_bipush (v := (-9)) hx hb dX7_solve_111 (by decide) ?_
                refine xiast hx hb hK hP hap hS (337) (by decide) (show kd 337 = 8 by decide) (by rw [show ln 337 = 5 by decide]; exact hn91) dX7_solve_113 (fun H locs hP hS => ?_)
                obtain ⟨A95, eA95, h⟩ := bd_e h
                rw [← eA95] at hP
                have hP : va_P D vwCl (VW K ad I77 G A95 L) H := hP
                refine lv_iinc (v := (v79 + 1)) (lv' := [(3, .int (v79 + 1)), (0, .ref (ad 318)), (1, .int a1), (2, .int a2)]) hx hb dX7_solve_114 hl (k := 0) rfl rfl (by decide) rfl (fun ls hl => ?_)
                refine lv_goto (tgt := 75) hx hb dX7_solve_117 (by decide) ?_
                exact ih78 (v79 + 1) A95 h _ _ hP hS ls (lv_sub hl [0, 1, 2, 3] rfl)
          exact lp78 FU 0 A h _ _ hP hS ls (lv_sub hl [0, 1, 2, 3] rfl)
      refine lv_icmp_eq (tgt := 46) hx hb dX7_solve_32 (by decide) (fun c_96 => ?_) (fun c_96 => ?_)
      · have h := ip c_96 h
        exact kj9 () h _ _ hP hS ls (lv_sub hl [0, 1, 2] rfl)
      · have h := iN c_96 h
        refine lv_aload_n hx hb dX7_solve_35 rfl (lv_at hl 0 rfl) ?_
        refine vgI hx hb hts hi7 hown hK hP (318) (by decide) (show kd 318 = 7 by decide) (C := RX7) (T := TX7) (N := 79) rfl 23 (by decide) (by decide) (by decide) (by decide) (hts (.fieldLink RX7 62 "CrateHelpersModel" "under" "I") (by decide +kernel)) (fun _ h9 => h9) dX7_solve_36 ?_
        refine lv_iload_n hx hb dX7_solve_39 rfl (lv_at hl 1 rfl) ?_
        refine lv_icmp_eq (tgt := 46) hx hb dX7_solve_40 (by decide) (fun c_97 => ?_) (fun c_97 => ?_)
        · have h := ip c_97 h
          exact kj9 () h _ _ hP hS ls (lv_sub hl [0, 1, 2] rfl)
        · have h := iN c_97 h
          refine lv_bipush (v := (-2)) hx hb dX7_solve_43 (by decide) ?_
          exact W.iret (v := (-2)) hx hb hr (fun t9 ht9 hW9 => ⟨⟨(-2), (I1, G, A, L), rfl, by cases h; exact ⟨rfl, rfl⟩, by rw [ht9]; exact hP, va_K.moved hW9.alike hK⟩, hS.F ht9⟩) hS.2.2 dX7_solve_45
    · have h := ip c_7 h
      refine lv_iconst (v := (-1)) hx hb dX7_solve_24 (by decide) ?_
      exact W.iret (v := (-1)) hx hb hr (fun t9 ht9 hW9 => ⟨⟨(-1), (I1, G, A, L), rfl, by cases h; exact ⟨rfl, rfl⟩, by rw [ht9]; exact hP, va_K.moved hW9.alike hK⟩, hS.F ht9⟩) hS.2.2 dX7_solve_25
set_option maxHeartbeats 4000000 in
set_option maxRecDepth 100000 in
theorem e_X7_status (l : Launch) (D : va_G) (K : Nat → ClassId) (ad : Nat → Nat) (hap0 : apart ad (fun _ => True)) (I : Nat → Nat → Int32) (G : Nat → Nat → Nat) (A : Nat → Nat → Int32) (L : Nat → Nat → Int64) (r0 : Int32) (I0 : Nat → Nat → Int32) (h : f_X7_status I = some (r0, I0)) : Ci l D K ad yX7_status wsX7_status 0 0 [.ref (ad 318)] (I, G, A, L) (fun (r : Int32) (u : Mem) => r = r0 ∧ u = (I0, G, A, L)) := by
  intro sz
  refine Met.ofW (cc := cX7_status) (maxL := 1) (ret := (some .int)) (by decide) rfl ?_
  intro p e s m args below meth c s₁ Bd hml hv0
  obtain ⟨rfl, hsz, hP, hK⟩ := hv0
  have hx := Bd.exec
  have hb := Bd.bytes
  have hr := Bd.returns
  have hts := atoms_spec (ws := wsX7_status) Bd.pre
  have hown : s.vm.findClass RX7 = some m.cls := findClass_of_methodNamed Bd.named
  have hlocks := Bd.notSynchronized
  have hi7 : ∀ w ∈ u_ws RX7 TX7 79, w ∈ wsX7_status := fun w h => List.mem_cons_of_mem _ (List.mem_append_right _ h)
  subst hsz
  have hap := vF_ap hap0 s.heap.size
  have hS : va_S (vF ad s.heap.size) s.heap s.heap [] := va_S.rf
  have hP : va_P D vwCl (VW K ad I G A L) s.heap := hP
  have hl := lv_entry ([.ref (ad 318)]) (n := 1) (Nat.le_of_ble_eq_true rfl)
  rw [lg_entry_eq]
  generalize (lg_sl ([.ref (ad 318)]) ++ List.replicate (1 - (lg_sl ([.ref (ad 318)])).length) Slot.unset).toArray = ls at hl ⊢
  have hl : lv_has ls 1 [(0, .ref (ad 318))] := hl
  rw [f_X7_status] at h
  refine lv_aload_n hx hb dX7_status_0 rfl (lv_at hl 0 rfl) ?_
  refine lv_iconst (v := 0) hx hb dX7_status_1 (by decide) ?_
  refine vpI (v := 0) (ty := .int) hx hb hts hi7 tyX7 tyX7_ok nmX7 hown hK hP hap hS (318) (by decide) (show kd 318 = 7 by decide) (C := RX7) (T := TX7) (N := 79) rfl 0 (by decide) (by decide) (by decide) (by decide) (hts (.fieldLink RX7 201 "CrateHelpersModel" "thrown" "I") (by decide +kernel)) (fun _ h9 => h9) rfl (by decide +kernel) rfl rfl dX7_status_2 (fun H locs hP hS => ?_)
  obtain ⟨I1, eI1, h⟩ := bd_e h
  rw [← eI1] at hP
  have hP : va_P D vwCl (VW K ad I1 G A L) H := hP
  refine lv_aload_n hx hb dX7_status_5 rfl (lv_at hl 0 rfl) ?_
  refine vgI hx hb hts hi7 hown hK hP (318) (by decide) (show kd 318 = 7 by decide) (C := RX7) (T := TX7) (N := 79) rfl 1 (by decide) (by decide) (by decide) (by decide) (hts (.fieldLink RX7 221 "CrateHelpersModel" "status" "I") (by decide +kernel)) (fun _ h9 => h9) dX7_status_6 ?_
  exact W.iret (v := (I1 318 1)) hx hb hr (fun t9 ht9 hW9 => ⟨⟨(I1 318 1), (I1, G, A, L), rfl, by cases h; exact ⟨rfl, rfl⟩, by rw [ht9]; exact hP, va_K.moved hW9.alike hK⟩, hS.F ht9⟩) hS.2.2 dX7_status_9
set_option maxHeartbeats 4000000 in
set_option maxRecDepth 100000 in
theorem e_X7_told (l : Launch) (D : va_G) (K : Nat → ClassId) (ad : Nat → Nat) (hap0 : apart ad (fun _ => True)) (a1 : Int32) (a2 : Int32) (I : Nat → Nat → Int32) (G : Nat → Nat → Nat) (A : Nat → Nat → Int32) (L : Nat → Nat → Int64) (r0 : Int32) (I0 : Nat → Nat → Int32) (h : f_X7_told I A a1 a2 = some (r0, I0)) : Ci l D K ad yX7_told wsX7_told 2 49 [.ref (ad 318), .int a1, .int a2] (I, G, A, L) (fun (r : Int32) (u : Mem) => r = r0 ∧ u = (I0, G, A, L)) := by
  intro sz
  refine Met.ofW (cc := cX7_told) (maxL := 3) (ret := (some .int)) (by decide) rfl ?_
  intro p e s m args below meth c s₁ Bd hml hv0
  obtain ⟨rfl, hsz, hP, hK⟩ := hv0
  have hx := Bd.exec
  have hb := Bd.bytes
  have hr := Bd.returns
  have hts := atoms_spec (ws := wsX7_told) Bd.pre
  have hown : s.vm.findClass RX7 = some m.cls := findClass_of_methodNamed Bd.named
  have hlocks := Bd.notSynchronized
  have hi7 : ∀ w ∈ u_ws RX7 TX7 79, w ∈ wsX7_told := fun w h => List.mem_cons_of_mem _ (List.mem_append_right _ h)
  subst hsz
  have hap := vF_ap hap0 s.heap.size
  have hS : va_S (vF ad s.heap.size) s.heap s.heap [] := va_S.rf
  have hP : va_P D vwCl (VW K ad I G A L) s.heap := hP
  have hl := lv_entry ([.ref (ad 318), .int a1, .int a2]) (n := 3) (Nat.le_of_ble_eq_true rfl)
  rw [lg_entry_eq]
  generalize (lg_sl ([.ref (ad 318), .int a1, .int a2]) ++ List.replicate (3 - (lg_sl ([.ref (ad 318), .int a1, .int a2])).length) Slot.unset).toArray = ls at hl ⊢
  have hl : lv_has ls 3 [(0, .ref (ad 318)), (1, .int a1), (2, .int a2)] := hl
  rw [f_X7_told] at h
  refine lv_aload_n hx hb dX7_told_0 rfl (lv_at hl 0 rfl) ?_
  refine lv_iconst (v := 0) hx hb dX7_told_1 (by decide) ?_
  refine vpI (v := 0) (ty := .int) hx hb hts hi7 tyX7 tyX7_ok nmX7 hown hK hP hap hS (318) (by decide) (show kd 318 = 7 by decide) (C := RX7) (T := TX7) (N := 79) rfl 0 (by decide) (by decide) (by decide) (by decide) (hts (.fieldLink RX7 201 "CrateHelpersModel" "thrown" "I") (by decide +kernel)) (fun _ h9 => h9) rfl (by decide +kernel) rfl rfl dX7_told_2 (fun H locs hP hS => ?_)
  obtain ⟨I1, eI1, h⟩ := bd_e h
  rw [← eI1] at hP
  have hP : va_P D vwCl (VW K ad I1 G A L) H := hP
  refine lv_aload_n hx hb dX7_told_5 rfl (lv_at hl 0 rfl) ?_
  refine lv_iload_n hx hb dX7_told_6 rfl (lv_at hl 1 rfl) ?_
  obtain ⟨r2, hc3, h⟩ := Option.bind_eq_some_iff.mp h
  refine ecV (As := [.int a1]) (rest := []) ⟨hx, hb, hml, hown, hts⟩ (e_X7_isProblem l D K ad hap0 a1 I1 G A L r2 hc3) (cwV 1 hts gX7_told_X7_isProblem rfl rfl rfl (by decide +kernel) ⟨Nat.le_of_ble_eq_true rfl, Nat.le_of_ble_eq_true rfl⟩) hK hP hS (by decide) (show kd 318 = 7 by decide) (by decide) rfl rfl rfl hl.1 (Nat.le_of_ble_eq_true rfl) (Nat.le_of_ble_eq_true rfl) (Nat.le_of_ble_eq_true rfl) dX7_told_7 (fun H locs hP hS => ?_) rfl
  have hP : va_P D vwCl (VW K ad I1 G A L) H := hP
  refine lv_if_eq (tgt := 22) hx hb dX7_told_10 (by decide) (fun c_4 => ?_) (fun c_4 => ?_)
  · have h := ip c_4 h
    refine lv_iconst (v := (-1)) hx hb dX7_told_22 (by decide) ?_
    exact W.iret (v := (-1)) hx hb hr (fun t9 ht9 hW9 => ⟨⟨(-1), (I1, G, A, L), rfl, by cases h; exact ⟨rfl, rfl⟩, by rw [ht9]; exact hP, va_K.moved hW9.alike hK⟩, hS.F ht9⟩) hS.2.2 dX7_told_23
  · have h := iN c_4 h
    refine lv_iload_n hx hb dX7_told_13 rfl (lv_at hl 2 rfl) ?_
    refine lv_iconst (v := 0) hx hb dX7_told_14 (by decide) ?_
    refine lv_iconst (v := 5) hx hb dX7_told_15 (by decide) ?_
    obtain ⟨r5, hc6, h⟩ := Option.bind_eq_some_iff.mp h
    refine ecS (As := [.int a2, .int 0, .int 5]) (rest := []) ⟨hx, hb, hml, hown, hts⟩ (e_X7_in l D K ad hap0 a2 0 5 I1 G A L r5 hc6) (va_cwS 3 hts gX7_told_X7_in rfl rfl rfl (by decide +kernel) ⟨Nat.le_of_ble_eq_true rfl, Nat.le_of_ble_eq_true rfl⟩) hK hP hS rfl hl.1 (Nat.le_of_ble_eq_true rfl) (Nat.le_of_ble_eq_true rfl) (Nat.le_of_ble_eq_true rfl) dX7_told_16 (fun H locs hP hS => ?_) rfl
    have hP : va_P D vwCl (VW K ad I1 G A L) H := hP
    refine lv_if_ne (tgt := 24) hx hb dX7_told_19 (by decide) (fun c_7 => ?_) (fun c_7 => ?_)
    · have h := iN c_7 h
      refine lv_aload_n hx hb dX7_told_24 rfl (lv_at hl 0 rfl) ?_
      refine vgC hx hb hts hi7 hown hK hP (318) (by decide) (show kd 318 = 7 by decide) (C := RX7) (T := TX7) (N := 79) rfl 45 (by decide) (by decide) (by decide) (by decide) (351) rfl (hts (.fieldLink RX7 114 "CrateHelpersModel" "isTold" "[Z") (by decide +kernel)) (fun _ h9 => h9) dX7_told_25 ?_
      refine lv_iload_n hx hb dX7_told_28 rfl (lv_at hl 1 rfl) ?_
      obtain ⟨hn8, h⟩ := gk h
      refine xzald hx hb hK hP (351) (by decide) (show kd 351 = 11 by decide) (by rw [show ln 351 = 5 by decide]; exact hn8) dX7_told_29 ?_
      refine lv_if_eq (tgt := 47) hx hb dX7_told_30 (by decide) (fun c_9 => ?_) (fun c_9 => ?_)
      · have h := ip c_9 h
        refine lv_bipush (v := (-9)) hx hb dX7_told_47 (by decide) ?_
        exact W.iret (v := (-9)) hx hb hr (fun t9 ht9 hW9 => ⟨⟨(-9), (I1, G, A, L), rfl, by cases h; exact ⟨rfl, rfl⟩, by rw [ht9]; exact hP, va_K.moved hW9.alike hK⟩, hS.F ht9⟩) hS.2.2 dX7_told_49
      · have h := iN c_9 h
        refine lv_aload_n hx hb dX7_told_33 rfl (lv_at hl 0 rfl) ?_
        refine vgC hx hb hts hi7 hown hK hP (318) (by decide) (show kd 318 = 7 by decide) (C := RX7) (T := TX7) (N := 79) rfl 44 (by decide) (by decide) (by decide) (by decide) (350) rfl (hts (.fieldLink RX7 111 "CrateHelpersModel" "toldAt" "[I") (by decide +kernel)) (fun _ h9 => h9) dX7_told_34 ?_
        refine lv_bipush (v := 6) hx hb dX7_told_37 (by decide) ?_
        refine lv_iload_n hx hb dX7_told_39 rfl (lv_at hl 1 rfl) ?_
        refine lv_imul hx hb dX7_told_40 ?_
        refine lv_iload_n hx hb dX7_told_41 rfl (lv_at hl 2 rfl) ?_
        refine lv_iadd hx hb dX7_told_42 ?_
        obtain ⟨hn10, h⟩ := gk h
        refine xiald hx hb hK hP (350) (by decide) (show kd 350 = 8 by decide) (by rw [show ln 350 = 30 by decide]; exact hn10) dX7_told_43 ?_
        refine lv_goto (tgt := 49) hx hb dX7_told_44 (by decide) ?_
        exact W.iret (v := (A 350 (((6 * a1) + a2).toNatClampNeg))) hx hb hr (fun t9 ht9 hW9 => ⟨⟨(A 350 (((6 * a1) + a2).toNatClampNeg)), (I1, G, A, L), rfl, by cases h; exact ⟨rfl, rfl⟩, by rw [ht9]; exact hP, va_K.moved hW9.alike hK⟩, hS.F ht9⟩) hS.2.2 dX7_told_49
    · have h := ip c_7 h
      refine lv_iconst (v := (-1)) hx hb dX7_told_22 (by decide) ?_
      exact W.iret (v := (-1)) hx hb hr (fun t9 ht9 hW9 => ⟨⟨(-1), (I1, G, A, L), rfl, by cases h; exact ⟨rfl, rfl⟩, by rw [ht9]; exact hP, va_K.moved hW9.alike hK⟩, hS.F ht9⟩) hS.2.2 dX7_told_23
set_option maxHeartbeats 4000000 in
set_option maxRecDepth 100000 in
theorem e_X7_turn (l : Launch) (D : va_G) (K : Nat → ClassId) (ad : Nat → Nat) (hap0 : apart ad (fun _ => True)) (a1 : Int32) (I : Nat → Nat → Int32) (G : Nat → Nat → Nat) (A : Nat → Nat → Int32) (L : Nat → Nat → Int64) (r0 : Int32) (I0 : Nat → Nat → Int32) (A0 : Nat → Nat → Int32) (h : f_X7_turn I A a1 = some (r0, I0, A0)) : Ci l D K ad yX7_turn wsX7_turn 1 25 [.ref (ad 318), .int a1] (I, G, A, L) (fun (r : Int32) (u : Mem) => r = r0 ∧ u = (I0, G, A0, L)) := by
  intro sz
  refine Met.ofW (cc := cX7_turn) (maxL := 2) (ret := (some .int)) (by decide) rfl ?_
  intro p e s m args below meth c s₁ Bd hml hv0
  obtain ⟨rfl, hsz, hP, hK⟩ := hv0
  have hx := Bd.exec
  have hb := Bd.bytes
  have hr := Bd.returns
  have hts := atoms_spec (ws := wsX7_turn) Bd.pre
  have hown : s.vm.findClass RX7 = some m.cls := findClass_of_methodNamed Bd.named
  have hlocks := Bd.notSynchronized
  have hi7 : ∀ w ∈ u_ws RX7 TX7 79, w ∈ wsX7_turn := fun w h => List.mem_cons_of_mem _ (List.mem_append_right _ h)
  subst hsz
  have hap := vF_ap hap0 s.heap.size
  have hS : va_S (vF ad s.heap.size) s.heap s.heap [] := va_S.rf
  have hP : va_P D vwCl (VW K ad I G A L) s.heap := hP
  have hl := lv_entry ([.ref (ad 318), .int a1]) (n := 2) (Nat.le_of_ble_eq_true rfl)
  rw [lg_entry_eq]
  generalize (lg_sl ([.ref (ad 318), .int a1]) ++ List.replicate (2 - (lg_sl ([.ref (ad 318), .int a1])).length) Slot.unset).toArray = ls at hl ⊢
  have hl : lv_has ls 2 [(0, .ref (ad 318)), (1, .int a1)] := hl
  rw [f_X7_turn] at h
  refine lv_aload_n hx hb dX7_turn_0 rfl (lv_at hl 0 rfl) ?_
  refine lv_iconst (v := 0) hx hb dX7_turn_1 (by decide) ?_
  refine vpI (v := 0) (ty := .int) hx hb hts hi7 tyX7 tyX7_ok nmX7 hown hK hP hap hS (318) (by decide) (show kd 318 = 7 by decide) (C := RX7) (T := TX7) (N := 79) rfl 0 (by decide) (by decide) (by decide) (by decide) (hts (.fieldLink RX7 201 "CrateHelpersModel" "thrown" "I") (by decide +kernel)) (fun _ h9 => h9) rfl (by decide +kernel) rfl rfl dX7_turn_2 (fun H locs hP hS => ?_)
  obtain ⟨I1, eI1, h⟩ := bd_e h
  rw [← eI1] at hP
  have hP : va_P D vwCl (VW K ad I1 G A L) H := hP
  refine lv_iload_n hx hb dX7_turn_5 rfl (lv_at hl 1 rfl) ?_
  refine lv_iconst (v := 0) hx hb dX7_turn_6 (by decide) ?_
  refine lv_iconst (v := 4) hx hb dX7_turn_7 (by decide) ?_
  obtain ⟨r2, hc3, h⟩ := Option.bind_eq_some_iff.mp h
  refine ecS (As := [.int a1, .int 0, .int 4]) (rest := []) ⟨hx, hb, hml, hown, hts⟩ (e_X7_in l D K ad hap0 a1 0 4 I1 G A L r2 hc3) (va_cwS 3 hts gX7_turn_X7_in rfl rfl rfl (by decide +kernel) ⟨Nat.le_of_ble_eq_true rfl, Nat.le_of_ble_eq_true rfl⟩) hK hP hS rfl hl.1 (Nat.le_of_ble_eq_true rfl) (Nat.le_of_ble_eq_true rfl) (Nat.le_of_ble_eq_true rfl) dX7_turn_8 (fun H locs hP hS => ?_) rfl
  have hP : va_P D vwCl (VW K ad I1 G A L) H := hP
  refine lv_if_ne (tgt := 16) hx hb dX7_turn_11 (by decide) (fun c_4 => ?_) (fun c_4 => ?_)
  · have h := iN c_4 h
    refine lv_aload_n hx hb dX7_turn_16 rfl (lv_at hl 0 rfl) ?_
    refine vgI hx hb hts hi7 hown hK hP (318) (by decide) (show kd 318 = 7 by decide) (C := RX7) (T := TX7) (N := 79) rfl 23 (by decide) (by decide) (by decide) (by decide) (hts (.fieldLink RX7 62 "CrateHelpersModel" "under" "I") (by decide +kernel)) (fun _ h9 => h9) dX7_turn_17 ?_
    refine lv_bipush (v := (-9)) hx hb dX7_turn_20 (by decide) ?_
    refine lv_icmp_eq (tgt := 28) hx hb dX7_turn_22 (by decide) (fun c_5 => ?_) (fun c_5 => ?_)
    · have h := ip c_5 h
      refine lv_aload_n hx hb dX7_turn_28 rfl (lv_at hl 0 rfl) ?_
      refine vgI hx hb hts hi7 hown hK hP (318) (by decide) (show kd 318 = 7 by decide) (C := RX7) (T := TX7) (N := 79) rfl 18 (by decide) (by decide) (by decide) (by decide) (hts (.fieldLink RX7 243 "CrateHelpersModel" "scheduled" "I") (by decide +kernel)) (fun _ h9 => h9) dX7_turn_29 ?_
      refine lv_sipush (v := 200) hx hb dX7_turn_32 (by decide) ?_
      refine lv_icmp_ne (tgt := 41) hx hb dX7_turn_35 (by decide) (fun c_6 => ?_) (fun c_6 => ?_)
      · have h := iN c_6 h
        refine lv_aload_n hx hb dX7_turn_41 rfl (lv_at hl 0 rfl) ?_
        refine vgC hx hb hts hi7 hown hK hP (318) (by decide) (show kd 318 = 7 by decide) (C := RX7) (T := TX7) (N := 79) rfl 17 (by decide) (by decide) (by decide) (by decide) (331) rfl (hts (.fieldLink RX7 50 "CrateHelpersModel" "schedule" "[I") (by decide +kernel)) (fun _ h9 => h9) dX7_turn_42 ?_
        refine lv_aload_n hx hb dX7_turn_45 rfl (lv_at hl 0 rfl) ?_
        refine vgI hx hb hts hi7 hown hK hP (318) (by decide) (show kd 318 = 7 by decide) (C := RX7) (T := TX7) (N := 79) rfl 18 (by decide) (by decide) (by decide) (by decide) (hts (.fieldLink RX7 243 "CrateHelpersModel" "scheduled" "I") (by decide +kernel)) (fun _ h9 => h9) dX7_turn_46 ?_
        refine lv_iload_n hx hb dX7_turn_49 rfl (lv_at hl 1 rfl) ?_
        obtain ⟨hn7, h⟩ := gk h
        refine xiast hx hb hK hP hap hS (331) (by decide) (show kd 331 = 8 by decide) (by rw [show ln 331 = 200 by decide]; exact hn7) dX7_turn_50 (fun H locs hP hS => ?_)
        obtain ⟨A8, eA8, h⟩ := bd_e h
        rw [← eA8] at hP
        have hP : va_P D vwCl (VW K ad I1 G A8 L) H := hP
        refine lv_aload_n hx hb dX7_turn_51 rfl (lv_at hl 0 rfl) ?_
        refine lv_dup hx hb dX7_turn_52 rfl ?_
        refine vgI hx hb hts hi7 hown hK hP (318) (by decide) (show kd 318 = 7 by decide) (C := RX7) (T := TX7) (N := 79) rfl 18 (by decide) (by decide) (by decide) (by decide) (hts (.fieldLink RX7 243 "CrateHelpersModel" "scheduled" "I") (by decide +kernel)) (fun _ h9 => h9) dX7_turn_53 ?_
        refine lv_iconst (v := 1) hx hb dX7_turn_56 (by decide) ?_
        refine lv_iadd hx hb dX7_turn_57 ?_
        refine vpI (v := ((I1 318 18) + 1)) (ty := .int) hx hb hts hi7 tyX7 tyX7_ok nmX7 hown hK hP hap hS (318) (by decide) (show kd 318 = 7 by decide) (C := RX7) (T := TX7) (N := 79) rfl 18 (by decide) (by decide) (by decide) (by decide) (hts (.fieldLink RX7 243 "CrateHelpersModel" "scheduled" "I") (by decide +kernel)) (fun _ h9 => h9) rfl (by decide +kernel) rfl rfl dX7_turn_58 (fun H locs hP hS => ?_)
        obtain ⟨I9, eI9, h⟩ := bd_e h
        rw [← eI9] at hP
        have hP : va_P D vwCl (VW K ad I9 G A8 L) H := hP
        refine lv_aload_n hx hb dX7_turn_61 rfl (lv_at hl 0 rfl) ?_
        refine vgI hx hb hts hi7 hown hK hP (318) (by decide) (show kd 318 = 7 by decide) (C := RX7) (T := TX7) (N := 79) rfl 18 (by decide) (by decide) (by decide) (by decide) (hts (.fieldLink RX7 243 "CrateHelpersModel" "scheduled" "I") (by decide +kernel)) (fun _ h9 => h9) dX7_turn_62 ?_
        exact W.iret (v := (I9 318 18)) hx hb hr (fun t9 ht9 hW9 => ⟨⟨(I9 318 18), (I9, G, A8, L), rfl, by cases h; exact ⟨rfl, rfl⟩, by rw [ht9]; exact hP, va_K.moved hW9.alike hK⟩, hS.F ht9⟩) hS.2.2 dX7_turn_65
      · have h := ip c_6 h
        refine lv_bipush (v := (-3)) hx hb dX7_turn_38 (by decide) ?_
        exact W.iret (v := (-3)) hx hb hr (fun t9 ht9 hW9 => ⟨⟨(-3), (I1, G, A, L), rfl, by cases h; exact ⟨rfl, rfl⟩, by rw [ht9]; exact hP, va_K.moved hW9.alike hK⟩, hS.F ht9⟩) hS.2.2 dX7_turn_40
    · have h := iN c_5 h
      refine lv_bipush (v := (-2)) hx hb dX7_turn_25 (by decide) ?_
      exact W.iret (v := (-2)) hx hb hr (fun t9 ht9 hW9 => ⟨⟨(-2), (I1, G, A, L), rfl, by cases h; exact ⟨rfl, rfl⟩, by rw [ht9]; exact hP, va_K.moved hW9.alike hK⟩, hS.F ht9⟩) hS.2.2 dX7_turn_27
  · have h := ip c_4 h
    refine lv_iconst (v := (-1)) hx hb dX7_turn_14 (by decide) ?_
    exact W.iret (v := (-1)) hx hb hr (fun t9 ht9 hW9 => ⟨⟨(-1), (I1, G, A, L), rfl, by cases h; exact ⟨rfl, rfl⟩, by rw [ht9]; exact hP, va_K.moved hW9.alike hK⟩, hS.F ht9⟩) hS.2.2 dX7_turn_15
set_option maxHeartbeats 4000000 in
set_option maxRecDepth 100000 in
theorem e_X7_variable (l : Launch) (D : va_G) (K : Nat → ClassId) (ad : Nat → Nat) (hap0 : apart ad (fun _ => True)) (a1 : Int32) (a2 : Int32) (a3 : Int32) (I : Nat → Nat → Int32) (G : Nat → Nat → Nat) (A : Nat → Nat → Int32) (L : Nat → Nat → Int64) (r0 : Int32) (I0 : Nat → Nat → Int32) (A0 : Nat → Nat → Int32) (h : f_X7_variable I A a1 a2 a3 = some (r0, I0, A0)) : Ci l D K ad yX7_variable wsX7_variable 2 49 [.ref (ad 318), .int a1, .int a2, .int a3] (I, G, A, L) (fun (r : Int32) (u : Mem) => r = r0 ∧ u = (I0, G, A0, L)) := by
  intro sz
  refine Met.ofW (cc := cX7_variable) (maxL := 5) (ret := (some .int)) (by decide) rfl ?_
  intro p e s m args below meth c s₁ Bd hml hv0
  obtain ⟨rfl, hsz, hP, hK⟩ := hv0
  have hx := Bd.exec
  have hb := Bd.bytes
  have hr := Bd.returns
  have hts := atoms_spec (ws := wsX7_variable) Bd.pre
  have hown : s.vm.findClass RX7 = some m.cls := findClass_of_methodNamed Bd.named
  have hlocks := Bd.notSynchronized
  have hi7 : ∀ w ∈ u_ws RX7 TX7 79, w ∈ wsX7_variable := fun w h => List.mem_cons_of_mem _ (List.mem_append_right _ h)
  subst hsz
  have hap := vF_ap hap0 s.heap.size
  have hS : va_S (vF ad s.heap.size) s.heap s.heap [] := va_S.rf
  have hP : va_P D vwCl (VW K ad I G A L) s.heap := hP
  have hl := lv_entry ([.ref (ad 318), .int a1, .int a2, .int a3]) (n := 5) (Nat.le_of_ble_eq_true rfl)
  rw [lg_entry_eq]
  generalize (lg_sl ([.ref (ad 318), .int a1, .int a2, .int a3]) ++ List.replicate (5 - (lg_sl ([.ref (ad 318), .int a1, .int a2, .int a3])).length) Slot.unset).toArray = ls at hl ⊢
  have hl : lv_has ls 5 [(0, .ref (ad 318)), (1, .int a1), (2, .int a2), (3, .int a3)] := hl
  rw [f_X7_variable] at h
  refine lv_aload_n hx hb dX7_variable_0 rfl (lv_at hl 0 rfl) ?_
  refine lv_iconst (v := 0) hx hb dX7_variable_1 (by decide) ?_
  refine vpI (v := 0) (ty := .int) hx hb hts hi7 tyX7 tyX7_ok nmX7 hown hK hP hap hS (318) (by decide) (show kd 318 = 7 by decide) (C := RX7) (T := TX7) (N := 79) rfl 0 (by decide) (by decide) (by decide) (by decide) (hts (.fieldLink RX7 201 "CrateHelpersModel" "thrown" "I") (by decide +kernel)) (fun _ h9 => h9) rfl (by decide +kernel) rfl rfl dX7_variable_2 (fun H locs hP hS => ?_)
  obtain ⟨I1, eI1, h⟩ := bd_e h
  rw [← eI1] at hP
  have hP : va_P D vwCl (VW K ad I1 G A L) H := hP
  refine lv_aload_n hx hb dX7_variable_5 rfl (lv_at hl 0 rfl) ?_
  refine lv_iload_n hx hb dX7_variable_6 rfl (lv_at hl 1 rfl) ?_
  obtain ⟨r2, hc3, h⟩ := Option.bind_eq_some_iff.mp h
  refine ecV (As := [.int a1]) (rest := []) ⟨hx, hb, hml, hown, hts⟩ (e_X7_isProblem l D K ad hap0 a1 I1 G A L r2 hc3) (cwV 1 hts gX7_variable_X7_isProblem rfl rfl rfl (by decide +kernel) ⟨Nat.le_of_ble_eq_true rfl, Nat.le_of_ble_eq_true rfl⟩) hK hP hS (by decide) (show kd 318 = 7 by decide) (by decide) rfl rfl rfl hl.1 (Nat.le_of_ble_eq_true rfl) (Nat.le_of_ble_eq_true rfl) (Nat.le_of_ble_eq_true rfl) dX7_variable_7 (fun H locs hP hS => ?_) rfl
  have hP : va_P D vwCl (VW K ad I1 G A L) H := hP
  refine lv_if_eq (tgt := 32) hx hb dX7_variable_10 (by decide) (fun c_4 => ?_) (fun c_4 => ?_)
  · have h := ip c_4 h
    refine lv_iconst (v := (-1)) hx hb dX7_variable_32 (by decide) ?_
    exact W.iret (v := (-1)) hx hb hr (fun t9 ht9 hW9 => ⟨⟨(-1), (I1, G, A, L), rfl, by cases h; exact ⟨rfl, rfl⟩, by rw [ht9]; exact hP, va_K.moved hW9.alike hK⟩, hS.F ht9⟩) hS.2.2 dX7_variable_33
  · have h := iN c_4 h
    refine lv_iload_n hx hb dX7_variable_13 rfl (lv_at hl 2 rfl) ?_
    refine lv_iconst (v := 1) hx hb dX7_variable_14 (by decide) ?_
    refine lv_bipush (v := 6) hx hb dX7_variable_15 (by decide) ?_
    obtain ⟨r5, hc6, h⟩ := Option.bind_eq_some_iff.mp h
    refine ecS (As := [.int a2, .int 1, .int 6]) (rest := []) ⟨hx, hb, hml, hown, hts⟩ (e_X7_in l D K ad hap0 a2 1 6 I1 G A L r5 hc6) (va_cwS 3 hts gX7_variable_X7_in rfl rfl rfl (by decide +kernel) ⟨Nat.le_of_ble_eq_true rfl, Nat.le_of_ble_eq_true rfl⟩) hK hP hS rfl hl.1 (Nat.le_of_ble_eq_true rfl) (Nat.le_of_ble_eq_true rfl) (Nat.le_of_ble_eq_true rfl) dX7_variable_17 (fun H locs hP hS => ?_) rfl
    have hP : va_P D vwCl (VW K ad I1 G A L) H := hP
    refine lv_if_eq (tgt := 32) hx hb dX7_variable_20 (by decide) (fun c_7 => ?_) (fun c_7 => ?_)
    · have h := ip c_7 h
      refine lv_iconst (v := (-1)) hx hb dX7_variable_32 (by decide) ?_
      exact W.iret (v := (-1)) hx hb hr (fun t9 ht9 hW9 => ⟨⟨(-1), (I1, G, A, L), rfl, by cases h; exact ⟨rfl, rfl⟩, by rw [ht9]; exact hP, va_K.moved hW9.alike hK⟩, hS.F ht9⟩) hS.2.2 dX7_variable_33
    · have h := iN c_7 h
      refine lv_iload_n hx hb dX7_variable_23 rfl (lv_at hl 3 rfl) ?_
      refine lv_iconst (v := 0) hx hb dX7_variable_24 (by decide) ?_
      refine lv_iconst (v := 3) hx hb dX7_variable_25 (by decide) ?_
      obtain ⟨r8, hc9, h⟩ := Option.bind_eq_some_iff.mp h
      refine ecS (As := [.int a3, .int 0, .int 3]) (rest := []) ⟨hx, hb, hml, hown, hts⟩ (e_X7_in l D K ad hap0 a3 0 3 I1 G A L r8 hc9) (va_cwS 3 hts gX7_variable_X7_in rfl rfl rfl (by decide +kernel) ⟨Nat.le_of_ble_eq_true rfl, Nat.le_of_ble_eq_true rfl⟩) hK hP hS rfl hl.1 (Nat.le_of_ble_eq_true rfl) (Nat.le_of_ble_eq_true rfl) (Nat.le_of_ble_eq_true rfl) dX7_variable_26 (fun H locs hP hS => ?_) rfl
      have hP : va_P D vwCl (VW K ad I1 G A L) H := hP
      refine lv_if_ne (tgt := 34) hx hb dX7_variable_29 (by decide) (fun c_10 => ?_) (fun c_10 => ?_)
      · have h := iN c_10 h
        refine lv_aload_n hx hb dX7_variable_34 rfl (lv_at hl 0 rfl) ?_
        refine vgI hx hb hts hi7 hown hK hP (318) (by decide) (show kd 318 = 7 by decide) (C := RX7) (T := TX7) (N := 79) rfl 23 (by decide) (by decide) (by decide) (by decide) (hts (.fieldLink RX7 62 "CrateHelpersModel" "under" "I") (by decide +kernel)) (fun _ h9 => h9) dX7_variable_35 ?_
        refine lv_bipush (v := (-9)) hx hb dX7_variable_38 (by decide) ?_
        refine lv_icmp_eq (tgt := 46) hx hb dX7_variable_40 (by decide) (fun c_11 => ?_) (fun c_11 => ?_)
        · have h := ip c_11 h
          refine lv_aload_n hx hb dX7_variable_46 rfl (lv_at hl 0 rfl) ?_
          refine vgC hx hb hts hi7 hown hK hP (318) (by decide) (show kd 318 = 7 by decide) (C := RX7) (T := TX7) (N := 79) rfl 3 (by decide) (by decide) (by decide) (by decide) (319) rfl (hts (.fieldLink RX7 7 "CrateHelpersModel" "variables" "[I") (by decide +kernel)) (fun _ h9 => h9) dX7_variable_47 ?_
          refine lv_iload_n hx hb dX7_variable_50 rfl (lv_at hl 1 rfl) ?_
          obtain ⟨hn12, h⟩ := gk h
          refine xiald hx hb hK hP (319) (by decide) (show kd 319 = 8 by decide) (by rw [show ln 319 = 5 by decide]; exact hn12) dX7_variable_51 ?_
          refine lv_bipush (v := 6) hx hb dX7_variable_52 (by decide) ?_
          refine lv_icmp_ne (tgt := 60) hx hb dX7_variable_54 (by decide) (fun c_13 => ?_) (fun c_13 => ?_)
          · have h := iN c_13 h
            refine lv_aload_n hx hb dX7_variable_60 rfl (lv_at hl 0 rfl) ?_
            refine vgC hx hb hts hi7 hown hK hP (318) (by decide) (show kd 318 = 7 by decide) (C := RX7) (T := TX7) (N := 79) rfl 3 (by decide) (by decide) (by decide) (by decide) (319) rfl (hts (.fieldLink RX7 7 "CrateHelpersModel" "variables" "[I") (by decide +kernel)) (fun _ h9 => h9) dX7_variable_61 ?_
            refine lv_iload_n hx hb dX7_variable_64 rfl (lv_at hl 1 rfl) ?_
            refine xiald hx hb hK hP (319) (by decide) (show kd 319 = 8 by decide) (by rw [show ln 319 = 5 by decide]; exact hn12) dX7_variable_65 ?_
            refine lv_istore (lv' := [(4, .int (A 319 a1.toNatClampNeg)), (0, .ref (ad 318)), (1, .int a1), (2, .int a2), (3, .int a3)]) hx hb dX7_variable_66 hl (by decide) rfl (fun ls hl => ?_)
            refine lv_aload_n hx hb dX7_variable_68 rfl (lv_at hl 1 rfl) ?_
            refine vgC hx hb hts hi7 hown hK hP (318) (by decide) (show kd 318 = 7 by decide) (C := RX7) (T := TX7) (N := 79) rfl 5 (by decide) (by decide) (by decide) (by decide) (321) rfl (hts (.fieldLink RX7 16 "CrateHelpersModel" "values" "[I") (by decide +kernel)) (fun _ h9 => h9) dX7_variable_69 ?_
            refine lv_bipush (v := 6) hx hb dX7_variable_72 (by decide) ?_
            refine lv_iload_n hx hb dX7_variable_74 rfl (lv_at hl 2 rfl) ?_
            refine lv_imul hx hb dX7_variable_75 ?_
            refine lv_iload hx hb dX7_variable_76 (lv_at hl 0 rfl) ?_
            refine lv_iadd hx hb dX7_variable_78 ?_
            refine lv_iload_n hx hb dX7_variable_79 rfl (lv_at hl 3 rfl) ?_
            obtain ⟨hn14, h⟩ := gk h
            refine xiast hx hb hK hP hap hS (321) (by decide) (show kd 321 = 8 by decide) (by rw [show ln 321 = 30 by decide]; exact hn14) dX7_variable_80 (fun H locs hP hS => ?_)
            obtain ⟨A15, eA15, h⟩ := bd_e h
            rw [← eA15] at hP
            have hP : va_P D vwCl (VW K ad I1 G A15 L) H := hP
            refine lv_aload_n hx hb dX7_variable_81 rfl (lv_at hl 1 rfl) ?_
            refine vgC hx hb hts hi7 hown hK hP (318) (by decide) (show kd 318 = 7 by decide) (C := RX7) (T := TX7) (N := 79) rfl 6 (by decide) (by decide) (by decide) (by decide) (322) rfl (hts (.fieldLink RX7 19 "CrateHelpersModel" "kinds" "[I") (by decide +kernel)) (fun _ h9 => h9) dX7_variable_82 ?_
            refine lv_bipush (v := 6) hx hb dX7_variable_85 (by decide) ?_
            refine lv_iload_n hx hb dX7_variable_87 rfl (lv_at hl 2 rfl) ?_
            refine lv_imul hx hb dX7_variable_88 ?_
            refine lv_iload hx hb dX7_variable_89 (lv_at hl 0 rfl) ?_
            refine lv_iadd hx hb dX7_variable_91 ?_
            refine lv_iload_n hx hb dX7_variable_92 rfl (lv_at hl 4 rfl) ?_
            refine xiast hx hb hK hP hap hS (322) (by decide) (show kd 322 = 8 by decide) (by rw [show ln 322 = 30 by decide]; exact hn14) dX7_variable_93 (fun H locs hP hS => ?_)
            obtain ⟨A16, eA16, h⟩ := bd_e h
            rw [← eA16] at hP
            have hP : va_P D vwCl (VW K ad I1 G A16 L) H := hP
            refine lv_aload_n hx hb dX7_variable_94 rfl (lv_at hl 1 rfl) ?_
            refine vgC hx hb hts hi7 hown hK hP (318) (by decide) (show kd 318 = 7 by decide) (C := RX7) (T := TX7) (N := 79) rfl 3 (by decide) (by decide) (by decide) (by decide) (319) rfl (hts (.fieldLink RX7 7 "CrateHelpersModel" "variables" "[I") (by decide +kernel)) (fun _ h9 => h9) dX7_variable_95 ?_
            refine lv_iload_n hx hb dX7_variable_98 rfl (lv_at hl 2 rfl) ?_
            refine lv_dup2_11 hx hb dX7_variable_99 rfl rfl ?_
            refine xiald hx hb hK hP (319) (by decide) (show kd 319 = 8 by decide) (by rw [show ln 319 = 5 by decide]; exact hn12) dX7_variable_100 ?_
            refine lv_iconst (v := 1) hx hb dX7_variable_101 (by decide) ?_
            refine lv_iadd hx hb dX7_variable_102 ?_
            refine xiast hx hb hK hP hap hS (319) (by decide) (show kd 319 = 8 by decide) (by rw [show ln 319 = 5 by decide]; exact hn12) dX7_variable_103 (fun H locs hP hS => ?_)
            obtain ⟨A17, eA17, h⟩ := bd_e h
            rw [← eA17] at hP
            have hP : va_P D vwCl (VW K ad I1 G A17 L) H := hP
            refine lv_aload_n hx hb dX7_variable_104 rfl (lv_at hl 1 rfl) ?_
            refine lv_iload_n hx hb dX7_variable_105 rfl (lv_at hl 2 rfl) ?_
            obtain ⟨⟨I18, A19⟩, hc20, h⟩ := Option.bind_eq_some_iff.mp h
            refine ecVv (As := [.int a1]) (rest := []) ⟨hx, hb, hml, hown, hts⟩ (e_X7_changes l D K ad hap0 a1 I1 G A17 L I18 A19 hc20) (cwV 1 hts gX7_variable_X7_changes rfl rfl rfl (by decide +kernel) ⟨Nat.le_of_ble_eq_true rfl, Nat.le_of_ble_eq_true rfl⟩) hK hP hS (by decide) (show kd 318 = 7 by decide) (by decide) rfl rfl rfl hl.1 (Nat.le_of_ble_eq_true rfl) (Nat.le_of_ble_eq_true rfl) (Nat.le_of_ble_eq_true rfl) dX7_variable_106 (fun H locs hP hS => ?_) rfl
            have hP : va_P D vwCl (VW K ad I18 G A19 L) H := hP
            refine lv_iload hx hb dX7_variable_109 (lv_at hl 0 rfl) ?_
            exact W.iret (v := (A 319 a1.toNatClampNeg)) hx hb hr (fun t9 ht9 hW9 => ⟨⟨(A 319 a1.toNatClampNeg), (I18, G, A19, L), rfl, by cases h; exact ⟨rfl, rfl⟩, by rw [ht9]; exact hP, va_K.moved hW9.alike hK⟩, hS.F ht9⟩) hS.2.2 dX7_variable_111
          · have h := ip c_13 h
            refine lv_bipush (v := (-3)) hx hb dX7_variable_57 (by decide) ?_
            exact W.iret (v := (-3)) hx hb hr (fun t9 ht9 hW9 => ⟨⟨(-3), (I1, G, A, L), rfl, by cases h; exact ⟨rfl, rfl⟩, by rw [ht9]; exact hP, va_K.moved hW9.alike hK⟩, hS.F ht9⟩) hS.2.2 dX7_variable_59
        · have h := iN c_11 h
          refine lv_bipush (v := (-2)) hx hb dX7_variable_43 (by decide) ?_
          exact W.iret (v := (-2)) hx hb hr (fun t9 ht9 hW9 => ⟨⟨(-2), (I1, G, A, L), rfl, by cases h; exact ⟨rfl, rfl⟩, by rw [ht9]; exact hP, va_K.moved hW9.alike hK⟩, hS.F ht9⟩) hS.2.2 dX7_variable_45
      · have h := ip c_10 h
        refine lv_iconst (v := (-1)) hx hb dX7_variable_32 (by decide) ?_
        exact W.iret (v := (-1)) hx hb hr (fun t9 ht9 hW9 => ⟨⟨(-1), (I1, G, A, L), rfl, by cases h; exact ⟨rfl, rfl⟩, by rw [ht9]; exact hP, va_K.moved hW9.alike hK⟩, hS.F ht9⟩) hS.2.2 dX7_variable_33
