set_option maxHeartbeats 4000000 in
set_option maxRecDepth 100000 in
theorem e_X7_node (l : Launch) (D : va_G) (K : Nat → ClassId) (ad : Nat → Nat) (hap0 : apart ad (fun _ => True)) (a1 : Int32) (a2 : Int32) (a3 : Int32) (I : Nat → Nat → Int32) (G : Nat → Nat → Nat) (A : Nat → Nat → Int32) (L : Nat → Nat → Int64) (r0 : Int32) (I0 : Nat → Nat → Int32) (A0 : Nat → Nat → Int32) (h : f_X7_node I A a1 a2 a3 = some (r0, I0, A0)) : Ci l D K ad yX7_node wsX7_node 5 143 [.ref (ad 318), .int a1, .int a2, .int a3] (I, G, A, L) (fun (r : Int32) (u : Mem) => r = r0 ∧ u = (I0, G, A0, L)) := by
  intro sz
  refine Met.ofW (cc := cX7_node) (maxL := 6) (ret := (some .int)) (by decide) rfl ?_
  intro p e s m args below meth c s₁ Bd hml hv0
  obtain ⟨rfl, hsz, hP, hK⟩ := hv0
  have hx := Bd.exec
  have hb := Bd.bytes
  have hr := Bd.returns
  have hts := atoms_spec (ws := wsX7_node) Bd.pre
  have hown : s.vm.findClass RX7 = some m.cls := findClass_of_methodNamed Bd.named
  have hlocks := Bd.notSynchronized
  have hi7 : ∀ w ∈ u_ws RX7 TX7 79, w ∈ wsX7_node := fun w h => List.mem_cons_of_mem _ (List.mem_append_right _ h)
  subst hsz
  have hap := vF_ap hap0 s.heap.size
  have hS : va_S (vF ad s.heap.size) s.heap s.heap [] := va_S.rf
  have hP : va_P D vwCl (VW K ad I G A L) s.heap := hP
  have hl := lv_entry ([.ref (ad 318), .int a1, .int a2, .int a3]) (n := 6) (Nat.le_of_ble_eq_true rfl)
  rw [lg_entry_eq]
  generalize (lg_sl ([.ref (ad 318), .int a1, .int a2, .int a3]) ++ List.replicate (6 - (lg_sl ([.ref (ad 318), .int a1, .int a2, .int a3])).length) Slot.unset).toArray = ls at hl ⊢
  have hl : lv_has ls 6 [(0, .ref (ad 318)), (1, .int a1), (2, .int a2), (3, .int a3)] := hl
  rw [f_X7_node] at h
  refine lv_aload_n hx hb dX7_node_0 rfl (lv_at hl 0 rfl) ?_
  refine lv_iconst (v := 0) hx hb dX7_node_1 (by decide) ?_
  refine vpI (v := 0) (ty := .int) hx hb hts hi7 tyX7 tyX7_ok nmX7 hown hK hP hap hS (318) (by decide) (show kd 318 = 7 by decide) (C := RX7) (T := TX7) (N := 79) rfl 0 (by decide) (by decide) (by decide) (by decide) (hts (.fieldLink RX7 201 "CrateHelpersModel" "thrown" "I") (by decide +kernel)) (fun _ h9 => h9) rfl (by decide +kernel) rfl rfl dX7_node_2 (fun H locs hP hS => ?_)
  obtain ⟨I1, eI1, h⟩ := bd_e h
  rw [← eI1] at hP
  have hP : va_P D vwCl (VW K ad I1 G A L) H := hP
  refine lv_iload_n hx hb dX7_node_5 rfl (lv_at hl 1 rfl) ?_
  refine lv_iconst (v := 0) hx hb dX7_node_6 (by decide) ?_
  refine lv_iconst (v := 4) hx hb dX7_node_7 (by decide) ?_
  obtain ⟨r2, hc3, h⟩ := Option.bind_eq_some_iff.mp h
  refine ecS (As := [.int a1, .int 0, .int 4]) (rest := []) ⟨hx, hb, hml, hown, hts⟩ (e_X7_in l D K ad hap0 a1 0 4 I1 G A L r2 hc3) (va_cwS 3 hts gX7_node_X7_in rfl rfl rfl (by decide +kernel) ⟨Nat.le_of_ble_eq_true rfl, Nat.le_of_ble_eq_true rfl⟩) hK hP hS rfl hl.1 (Nat.le_of_ble_eq_true rfl) (Nat.le_of_ble_eq_true rfl) (Nat.le_of_ble_eq_true rfl) dX7_node_8 (fun H locs hP hS => ?_) rfl
  have hP : va_P D vwCl (VW K ad I1 G A L) H := hP
  refine lv_if_ne (tgt := 16) hx hb dX7_node_11 (by decide) (fun c_4 => ?_) (fun c_4 => ?_)
  · have h := iN c_4 h
    refine lv_aload_n hx hb dX7_node_16 rfl (lv_at hl 0 rfl) ?_
    refine vgI hx hb hts hi7 hown hK hP (318) (by decide) (show kd 318 = 7 by decide) (C := RX7) (T := TX7) (N := 79) rfl 57 (by decide) (by decide) (by decide) (by decide) (hts (.fieldLink RX7 147 "CrateHelpersModel" "asked" "I") (by decide +kernel)) (fun _ h9 => h9) dX7_node_17 ?_
    refine lv_bipush (v := (-9)) hx hb dX7_node_20 (by decide) ?_
    refine lv_icmp_eq (tgt := 41) hx hb dX7_node_22 (by decide) (fun c_5 => ?_) (fun c_5 => ?_)
    · have h := ip c_5 h
      refine lv_bipush (v := (-2)) hx hb dX7_node_41 (by decide) ?_
      exact W.iret (v := (-2)) hx hb hr (fun t9 ht9 hW9 => ⟨⟨(-2), (I1, G, A, L), rfl, by cases h; exact ⟨rfl, rfl⟩, by rw [ht9]; exact hP, va_K.moved hW9.alike hK⟩, hS.F ht9⟩) hS.2.2 dX7_node_43
    · have h := iN c_5 h
      refine lv_aload_n hx hb dX7_node_25 rfl (lv_at hl 0 rfl) ?_
      refine vgC hx hb hts hi7 hown hK hP (318) (by decide) (show kd 318 = 7 by decide) (C := RX7) (T := TX7) (N := 79) rfl 13 (by decide) (by decide) (by decide) (by decide) (329) rfl (hts (.fieldLink RX7 40 "CrateHelpersModel" "changed" "[I") (by decide +kernel)) (fun _ h9 => h9) dX7_node_26 ?_
      refine lv_aload_n hx hb dX7_node_29 rfl (lv_at hl 0 rfl) ?_
      refine vgI hx hb hts hi7 hown hK hP (318) (by decide) (show kd 318 = 7 by decide) (C := RX7) (T := TX7) (N := 79) rfl 57 (by decide) (by decide) (by decide) (by decide) (hts (.fieldLink RX7 147 "CrateHelpersModel" "asked" "I") (by decide +kernel)) (fun _ h9 => h9) dX7_node_30 ?_
      obtain ⟨hn6, h⟩ := gk h
      refine xiald hx hb hK hP (329) (by decide) (show kd 329 = 8 by decide) (by rw [show ln 329 = 5 by decide]; exact hn6) dX7_node_33 ?_
      refine lv_aload_n hx hb dX7_node_34 rfl (lv_at hl 0 rfl) ?_
      refine vgI hx hb hts hi7 hown hK hP (318) (by decide) (show kd 318 = 7 by decide) (C := RX7) (T := TX7) (N := 79) rfl 58 (by decide) (by decide) (by decide) (by decide) (hts (.fieldLink RX7 339 "CrateHelpersModel" "askedChange" "I") (by decide +kernel)) (fun _ h9 => h9) dX7_node_35 ?_
      refine lv_icmp_eq (tgt := 44) hx hb dX7_node_38 (by decide) (fun c_7 => ?_) (fun c_7 => ?_)
      · have h := ip c_7 h
        refine lv_aload_n hx hb dX7_node_44 rfl (lv_at hl 0 rfl) ?_
        refine vgI hx hb hts hi7 hown hK hP (318) (by decide) (show kd 318 = 7 by decide) (C := RX7) (T := TX7) (N := 79) rfl 57 (by decide) (by decide) (by decide) (by decide) (hts (.fieldLink RX7 147 "CrateHelpersModel" "asked" "I") (by decide +kernel)) (fun _ h9 => h9) dX7_node_45 ?_
        refine lv_istore (lv' := [(4, .int (I1 318 57)), (0, .ref (ad 318)), (1, .int a1), (2, .int a2), (3, .int a3)]) hx hb dX7_node_48 hl (by decide) rfl (fun ls hl => ?_)
        refine lv_iconst (v := 0) hx hb dX7_node_50 (by decide) ?_
        refine lv_istore (lv' := [(5, .int 0), (4, .int (I1 318 57)), (0, .ref (ad 318)), (1, .int a1), (2, .int a2), (3, .int a3)]) hx hb dX7_node_51 hl (by decide) rfl (fun ls hl => ?_)
        obtain ⟨k12, ek12, h⟩ := bd_e h
        have kk12 : ∀ (v13 : Int32) (A14 : Nat → Nat → Int32), k12 v13 A14 = some (r0, I0, A0) → ∀ (H : Heap) (locs : List Loc), va_P D vwCl (VW K ad I1 G A14 L) H → va_S (vF ad s.heap.size) s.heap H locs → ∀ (ls : Array Slot), lv_has ls 6 [(0, .ref (ad 318)), (1, .int a1), (2, .int a2), (3, .int a3), (4, .int v13)] → W p l e ({ frames := 5, cells := 0, slots := 0, locals := 143 }) s m ([.ref (ad 318), .int a1, .int a2, .int a3] : List Value).toArray below meth c H locs 0 0 (MQ below (va_Qi (fun (r : Int32) (u : Mem) => r = r0 ∧ u = (I0, G, A0, L)) (vB D K ad) (vF ad s.heap.size)) ([.ref (ad 318), .int a1, .int a2, .int a3] : List Value).toArray s 0 0 (vF ad s.heap.size)) (F0 m 94 ls []) := by
          intro v13 A14 h H locs hP hS ls hl
          subst ek12
          refine lv_iload_n hx hb dX7_node_94 rfl (lv_at hl 1 rfl) ?_
          refine lv_if_ne (tgt := 128) hx hb dX7_node_95 (by decide) (fun c_15 => ?_) (fun c_15 => ?_)
          · have h := iN c_15 h
            refine lv_iload_n hx hb dX7_node_128 rfl (lv_at hl 1 rfl) ?_
            refine lv_iconst (v := 1) hx hb dX7_node_129 (by decide) ?_
            refine lv_icmp_ne (tgt := 173) hx hb dX7_node_130 (by decide) (fun c_16 => ?_) (fun c_16 => ?_)
            · have h := iN c_16 h
              refine lv_aload_n hx hb dX7_node_173 rfl (lv_at hl 0 rfl) ?_
              refine lv_iload hx hb dX7_node_174 (lv_at hl 4 rfl) ?_
              refine lv_aload_n hx hb dX7_node_176 rfl (lv_at hl 0 rfl) ?_
              refine vgI hx hb hts hi7 hown hK hP (318) (by decide) (show kd 318 = 7 by decide) (C := RX7) (T := TX7) (N := 79) rfl 59 (by decide) (by decide) (by decide) (by decide) (hts (.fieldLink RX7 342 "CrateHelpersModel" "askedDepth" "I") (by decide +kernel)) (fun _ h9 => h9) dX7_node_177 ?_
              refine lv_iconst (v := 1) hx hb dX7_node_180 (by decide) ?_
              obtain ⟨⟨r17, I18, A19⟩, hc20, h⟩ := Option.bind_eq_some_iff.mp h
              refine ecV (As := [.int v13, .int (I1 318 59), .int 1]) (rest := []) ⟨hx, hb, hml, hown, hts⟩ (e_X7_whatIs l D K ad hap0 v13 (I1 318 59) 1 I1 G A14 L r17 I18 A19 hc20) (cwV 3 hts gX7_node_X7_whatIs rfl rfl rfl (by decide +kernel) ⟨Nat.le_of_ble_eq_true rfl, Nat.le_of_ble_eq_true rfl⟩) hK hP hS (by decide) (show kd 318 = 7 by decide) (by decide) rfl rfl rfl hl.1 (Nat.le_of_ble_eq_true rfl) (Nat.le_of_ble_eq_true rfl) (Nat.le_of_ble_eq_true rfl) dX7_node_181 (fun H locs hP hS => ?_) rfl
              have hP : va_P D vwCl (VW K ad I18 G A19 L) H := hP
              refine lv_istore (lv' := [(5, .int r17), (0, .ref (ad 318)), (1, .int a1), (2, .int a2), (3, .int a3), (4, .int v13)]) hx hb dX7_node_184 hl (by decide) rfl (fun ls hl => ?_)
              refine lv_iload_n hx hb dX7_node_186 rfl (lv_at hl 2 rfl) ?_
              refine lv_iconst (v := 2) hx hb dX7_node_187 (by decide) ?_
              refine lv_icmp_ne (tgt := 196) hx hb dX7_node_188 (by decide) (fun c_21 => ?_) (fun c_21 => ?_)
              · have h := iN c_21 h
                refine lv_iload_n hx hb dX7_node_196 rfl (lv_at hl 2 rfl) ?_
                refine lv_iconst (v := 3) hx hb dX7_node_197 (by decide) ?_
                refine lv_icmp_ne (tgt := 218) hx hb dX7_node_198 (by decide) (fun c_22 => ?_) (fun c_22 => ?_)
                · have h := iN c_22 h
                  refine lv_iload hx hb dX7_node_218 (lv_at hl 0 rfl) ?_
                  refine lv_if_ne (tgt := 228) hx hb dX7_node_220 (by decide) (fun c_23 => ?_) (fun c_23 => ?_)
                  · have h := iN c_23 h
                    refine lv_aload_n hx hb dX7_node_228 rfl (lv_at hl 1 rfl) ?_
                    refine vgI hx hb hts hi7 hown hK hP (318) (by decide) (show kd 318 = 7 by decide) (C := RX7) (T := TX7) (N := 79) rfl 64 (by decide) (by decide) (by decide) (by decide) (hts (.fieldLink RX7 272 "CrateHelpersModel" "why" "I") (by decide +kernel)) (fun _ h9 => h9) dX7_node_229 ?_
                    exact W.iret (v := (I18 318 64)) hx hb hr (fun t9 ht9 hW9 => ⟨⟨(I18 318 64), (I18, G, A19, L), rfl, by cases h; exact ⟨rfl, rfl⟩, by rw [ht9]; exact hP, va_K.moved hW9.alike hK⟩, hS.F ht9⟩) hS.2.2 dX7_node_232
                  · have h := ip c_23 h
                    refine lv_bipush (v := (-9)) hx hb dX7_node_223 (by decide) ?_
                    refine lv_goto (tgt := 232) hx hb dX7_node_225 (by decide) ?_
                    exact W.iret (v := (-9)) hx hb hr (fun t9 ht9 hW9 => ⟨⟨(-9), (I18, G, A19, L), rfl, by cases h; exact ⟨rfl, rfl⟩, by rw [ht9]; exact hP, va_K.moved hW9.alike hK⟩, hS.F ht9⟩) hS.2.2 dX7_node_232
                · have h := ip c_22 h
                  refine lv_iload hx hb dX7_node_201 (lv_at hl 0 rfl) ?_
                  refine lv_if_ne (tgt := 213) hx hb dX7_node_203 (by decide) (fun c_24 => ?_) (fun c_24 => ?_)
                  · have h := iN c_24 h
                    refine lv_ldc (v := (-1000000)) hx hb hown (hts (.constant RX7 224 (-1000000)) (by decide +kernel)) dX7_node_213 ?_
                    refine lv_goto (tgt := 232) hx hb dX7_node_215 (by decide) ?_
                    exact W.iret (v := (-1000000)) hx hb hr (fun t9 ht9 hW9 => ⟨⟨(-1000000), (I18, G, A19, L), rfl, by cases h; exact ⟨rfl, rfl⟩, by rw [ht9]; exact hP, va_K.moved hW9.alike hK⟩, hS.F ht9⟩) hS.2.2 dX7_node_232
                  · have h := ip c_24 h
                    refine lv_aload_n hx hb dX7_node_206 rfl (lv_at hl 1 rfl) ?_
                    refine vgI hx hb hts hi7 hown hK hP (318) (by decide) (show kd 318 = 7 by decide) (C := RX7) (T := TX7) (N := 79) rfl 65 (by decide) (by decide) (by decide) (by decide) (hts (.fieldLink RX7 278 "CrateHelpersModel" "boundNow" "I") (by decide +kernel)) (fun _ h9 => h9) dX7_node_207 ?_
                    refine lv_goto (tgt := 232) hx hb dX7_node_210 (by decide) ?_
                    exact W.iret (v := (I18 318 65)) hx hb hr (fun t9 ht9 hW9 => ⟨⟨(I18 318 65), (I18, G, A19, L), rfl, by cases h; exact ⟨rfl, rfl⟩, by rw [ht9]; exact hP, va_K.moved hW9.alike hK⟩, hS.F ht9⟩) hS.2.2 dX7_node_232
              · have h := ip c_21 h
                refine lv_iload hx hb dX7_node_191 (lv_at hl 0 rfl) ?_
                refine lv_goto (tgt := 232) hx hb dX7_node_193 (by decide) ?_
                exact W.iret (v := r17) hx hb hr (fun t9 ht9 hW9 => ⟨⟨r17, (I18, G, A19, L), rfl, by cases h; exact ⟨rfl, rfl⟩, by rw [ht9]; exact hP, va_K.moved hW9.alike hK⟩, hS.F ht9⟩) hS.2.2 dX7_node_232
            · have h := ip c_16 h
              refine lv_aload_n hx hb dX7_node_133 rfl (lv_at hl 0 rfl) ?_
              refine lv_iload hx hb dX7_node_134 (lv_at hl 4 rfl) ?_
              refine lv_iload_n hx hb dX7_node_136 rfl (lv_at hl 2 rfl) ?_
              refine lv_iload_n hx hb dX7_node_137 rfl (lv_at hl 3 rfl) ?_
              obtain ⟨r25, hc26, h⟩ := Option.bind_eq_some_iff.mp h
              refine ecV (As := [.int v13, .int a2, .int a3]) (rest := []) ⟨hx, hb, hml, hown, hts⟩ (e_X7_isValue l D K ad hap0 v13 a2 a3 I1 G A14 L r25 hc26) (cwV 3 hts gX7_node_X7_isValue rfl rfl rfl (by decide +kernel) ⟨Nat.le_of_ble_eq_true rfl, Nat.le_of_ble_eq_true rfl⟩) hK hP hS (by decide) (show kd 318 = 7 by decide) (by decide) rfl rfl rfl hl.1 (Nat.le_of_ble_eq_true rfl) (Nat.le_of_ble_eq_true rfl) (Nat.le_of_ble_eq_true rfl) dX7_node_138 (fun H locs hP hS => ?_) rfl
              have hP : va_P D vwCl (VW K ad I1 G A14 L) H := hP
              refine lv_if_ne (tgt := 148) hx hb dX7_node_141 (by decide) (fun c_27 => ?_) (fun c_27 => ?_)
              · have h := iN c_27 h
                refine lv_iload_n hx hb dX7_node_148 rfl (lv_at hl 2 rfl) ?_
                refine lv_aload_n hx hb dX7_node_149 rfl (lv_at hl 0 rfl) ?_
                refine vgI hx hb hts hi7 hown hK hP (318) (by decide) (show kd 318 = 7 by decide) (C := RX7) (T := TX7) (N := 79) rfl 59 (by decide) (by decide) (by decide) (by decide) (hts (.fieldLink RX7 342 "CrateHelpersModel" "askedDepth" "I") (by decide +kernel)) (fun _ h9 => h9) dX7_node_150 ?_
                refine lv_icmp_lt (tgt := 171) hx hb dX7_node_153 (by decide) (fun c_28 => ?_) (fun c_28 => ?_)
                · have h := ip c_28 h
                  refine lv_iconst (v := 0) hx hb dX7_node_171 (by decide) ?_
                  exact W.iret (v := 0) hx hb hr (fun t9 ht9 hW9 => ⟨⟨0, (I1, G, A14, L), rfl, by cases h; exact ⟨rfl, rfl⟩, by rw [ht9]; exact hP, va_K.moved hW9.alike hK⟩, hS.F ht9⟩) hS.2.2 dX7_node_172
                · have h := iN c_28 h
                  refine lv_aload_n hx hb dX7_node_156 rfl (lv_at hl 0 rfl) ?_
                  refine lv_iload hx hb dX7_node_157 (lv_at hl 4 rfl) ?_
                  refine lv_iload_n hx hb dX7_node_159 rfl (lv_at hl 2 rfl) ?_
                  refine lv_iload_n hx hb dX7_node_160 rfl (lv_at hl 3 rfl) ?_
                  obtain ⟨⟨r29, A30⟩, hc31, h⟩ := Option.bind_eq_some_iff.mp h
                  refine ecV (As := [.int v13, .int a2, .int a3]) (rest := []) ⟨hx, hb, hml, hown, hts⟩ (e_X7_isOut l D K ad hap0 v13 a2 a3 I1 G A14 L r29 A30 hc31) (cwV 3 hts gX7_node_X7_isOut rfl rfl rfl (by decide +kernel) ⟨Nat.le_of_ble_eq_true rfl, Nat.le_of_ble_eq_true rfl⟩) hK hP hS (by decide) (show kd 318 = 7 by decide) (by decide) rfl rfl rfl hl.1 (Nat.le_of_ble_eq_true rfl) (Nat.le_of_ble_eq_true rfl) (Nat.le_of_ble_eq_true rfl) dX7_node_161 (fun H locs hP hS => ?_) rfl
                  have hP : va_P D vwCl (VW K ad I1 G A30 L) H := hP
                  refine lv_if_eq (tgt := 171) hx hb dX7_node_164 (by decide) (fun c_32 => ?_) (fun c_32 => ?_)
                  · have h := ip c_32 h
                    refine lv_iconst (v := 0) hx hb dX7_node_171 (by decide) ?_
                    exact W.iret (v := 0) hx hb hr (fun t9 ht9 hW9 => ⟨⟨0, (I1, G, A30, L), rfl, by cases h; exact ⟨rfl, rfl⟩, by rw [ht9]; exact hP, va_K.moved hW9.alike hK⟩, hS.F ht9⟩) hS.2.2 dX7_node_172
                  · have h := iN c_32 h
                    refine lv_iconst (v := 1) hx hb dX7_node_167 (by decide) ?_
                    refine lv_goto (tgt := 172) hx hb dX7_node_168 (by decide) ?_
                    exact W.iret (v := 1) hx hb hr (fun t9 ht9 hW9 => ⟨⟨1, (I1, G, A30, L), rfl, by cases h; exact ⟨rfl, rfl⟩, by rw [ht9]; exact hP, va_K.moved hW9.alike hK⟩, hS.F ht9⟩) hS.2.2 dX7_node_172
              · have h := ip c_27 h
                refine lv_iconst (v := (-1)) hx hb dX7_node_144 (by decide) ?_
                refine lv_goto (tgt := 172) hx hb dX7_node_145 (by decide) ?_
                exact W.iret (v := (-1)) hx hb hr (fun t9 ht9 hW9 => ⟨⟨(-1), (I1, G, A14, L), rfl, by cases h; exact ⟨rfl, rfl⟩, by rw [ht9]; exact hP, va_K.moved hW9.alike hK⟩, hS.F ht9⟩) hS.2.2 dX7_node_172
          · have h := ip c_15 h
            refine lv_aload_n hx hb dX7_node_98 rfl (lv_at hl 0 rfl) ?_
            refine lv_iload hx hb dX7_node_99 (lv_at hl 4 rfl) ?_
            refine lv_iload_n hx hb dX7_node_101 rfl (lv_at hl 2 rfl) ?_
            obtain ⟨r33, hc34, h⟩ := Option.bind_eq_some_iff.mp h
            refine ecV (As := [.int v13, .int a2]) (rest := []) ⟨hx, hb, hml, hown, hts⟩ (e_X7_isRule l D K ad hap0 v13 a2 I1 G A14 L r33 hc34) (cwV 2 hts gX7_node_X7_isRule rfl rfl rfl (by decide +kernel) ⟨Nat.le_of_ble_eq_true rfl, Nat.le_of_ble_eq_true rfl⟩) hK hP hS (by decide) (show kd 318 = 7 by decide) (by decide) rfl rfl rfl hl.1 (Nat.le_of_ble_eq_true rfl) (Nat.le_of_ble_eq_true rfl) (Nat.le_of_ble_eq_true rfl) dX7_node_102 (fun H locs hP hS => ?_) rfl
            have hP : va_P D vwCl (VW K ad I1 G A14 L) H := hP
            refine lv_if_ne (tgt := 112) hx hb dX7_node_105 (by decide) (fun c_35 => ?_) (fun c_35 => ?_)
            · have h := iN c_35 h
              refine lv_aload_n hx hb dX7_node_112 rfl (lv_at hl 0 rfl) ?_
              refine lv_iload hx hb dX7_node_113 (lv_at hl 4 rfl) ?_
              refine lv_iload_n hx hb dX7_node_115 rfl (lv_at hl 2 rfl) ?_
              obtain ⟨r36, hc37, h⟩ := Option.bind_eq_some_iff.mp h
              refine ecV (As := [.int v13, .int a2]) (rest := []) ⟨hx, hb, hml, hown, hts⟩ (e_X7_isBroken l D K ad hap0 v13 a2 I1 G A14 L r36 hc37) (cwV 2 hts gX7_node_X7_isBroken rfl rfl rfl (by decide +kernel) ⟨Nat.le_of_ble_eq_true rfl, Nat.le_of_ble_eq_true rfl⟩) hK hP hS (by decide) (show kd 318 = 7 by decide) (by decide) rfl rfl rfl hl.1 (Nat.le_of_ble_eq_true rfl) (Nat.le_of_ble_eq_true rfl) (Nat.le_of_ble_eq_true rfl) dX7_node_116 (fun H locs hP hS => ?_) rfl
              have hP : va_P D vwCl (VW K ad I1 G A14 L) H := hP
              refine lv_if_eq (tgt := 126) hx hb dX7_node_119 (by decide) (fun c_38 => ?_) (fun c_38 => ?_)
              · have h := ip c_38 h
                refine lv_iconst (v := 0) hx hb dX7_node_126 (by decide) ?_
                exact W.iret (v := 0) hx hb hr (fun t9 ht9 hW9 => ⟨⟨0, (I1, G, A14, L), rfl, by cases h; exact ⟨rfl, rfl⟩, by rw [ht9]; exact hP, va_K.moved hW9.alike hK⟩, hS.F ht9⟩) hS.2.2 dX7_node_127
              · have h := iN c_38 h
                refine lv_iconst (v := 1) hx hb dX7_node_122 (by decide) ?_
                refine lv_goto (tgt := 127) hx hb dX7_node_123 (by decide) ?_
                exact W.iret (v := 1) hx hb hr (fun t9 ht9 hW9 => ⟨⟨1, (I1, G, A14, L), rfl, by cases h; exact ⟨rfl, rfl⟩, by rw [ht9]; exact hP, va_K.moved hW9.alike hK⟩, hS.F ht9⟩) hS.2.2 dX7_node_127
            · have h := ip c_35 h
              refine lv_iconst (v := (-1)) hx hb dX7_node_108 (by decide) ?_
              refine lv_goto (tgt := 127) hx hb dX7_node_109 (by decide) ?_
              exact W.iret (v := (-1)) hx hb hr (fun t9 ht9 hW9 => ⟨⟨(-1), (I1, G, A14, L), rfl, by cases h; exact ⟨rfl, rfl⟩, by rw [ht9]; exact hP, va_K.moved hW9.alike hK⟩, hS.F ht9⟩) hS.2.2 dX7_node_127
        have lp8 : ∀ (n : Nat) (v9 : Int32) (v10 : Int32) (A11 : Nat → Nat → Int32), f_X7_node_L53 a1 a2 a3 I1 k12 n v9 v10 A11 = some (r0, I0, A0) → ∀ (H : Heap) (locs : List Loc), va_P D vwCl (VW K ad I1 G A11 L) H → va_S (vF ad s.heap.size) s.heap H locs → ∀ (ls : Array Slot), lv_has ls 6 [(5, .int v9), (4, .int v10), (0, .ref (ad 318)), (1, .int a1), (2, .int a2), (3, .int a3)] → W p l e ({ frames := 5, cells := 0, slots := 0, locals := 143 }) s m ([.ref (ad 318), .int a1, .int a2, .int a3] : List Value).toArray below meth c H locs 0 0 (MQ below (va_Qi (fun (r : Int32) (u : Mem) => r = r0 ∧ u = (I0, G, A0, L)) (vB D K ad) (vF ad s.heap.size)) ([.ref (ad 318), .int a1, .int a2, .int a3] : List Value).toArray s 0 0 (vF ad s.heap.size)) (F0 m 53 ls []) := by
          intro n
          induction n with
          | zero => intro v9 v10 A11 h; exact absurd h (by rw [f_X7_node_L53]; exact nofun)
          | succ n ih8 =>
            intro v9 v10 A11 h H locs hP hS ls hl
            rw [f_X7_node_L53] at h
            refine lv_iload hx hb dX7_node_53 (lv_at hl 0 rfl) ?_
            refine lv_bipush (v := 6) hx hb dX7_node_55 (by decide) ?_
            refine lv_icmp_ge (tgt := 94) hx hb dX7_node_57 (by decide) (fun c_39 => ?_) (fun c_39 => ?_)
            · have h := iN (Int32.not_lt.mpr c_39) h
              exact kk12 v10 A11 h _ _ hP hS ls (lv_sub hl [2, 3, 4, 5, 1] rfl)
            · have h := ip (Int32.not_le.mp c_39) h
              refine lv_aload_n hx hb dX7_node_60 rfl (lv_at hl 2 rfl) ?_
              refine vgC hx hb hts hi7 hown hK hP (318) (by decide) (show kd 318 = 7 by decide) (C := RX7) (T := TX7) (N := 79) rfl 63 (by decide) (by decide) (by decide) (by decide) (364) rfl (hts (.fieldLink RX7 159 "CrateHelpersModel" "now" "[I") (by decide +kernel)) (fun _ h9 => h9) dX7_node_61 ?_
              refine lv_iload hx hb dX7_node_64 (lv_at hl 0 rfl) ?_
              refine lv_iload hx hb dX7_node_66 (lv_at hl 0 rfl) ?_
              refine lv_aload_n hx hb dX7_node_68 rfl (lv_at hl 2 rfl) ?_
              refine vgI hx hb hts hi7 hown hK hP (318) (by decide) (show kd 318 = 7 by decide) (C := RX7) (T := TX7) (N := 79) rfl 59 (by decide) (by decide) (by decide) (by decide) (hts (.fieldLink RX7 342 "CrateHelpersModel" "askedDepth" "I") (by decide +kernel)) (fun _ h9 => h9) dX7_node_69 ?_
              refine lv_icmp_ge (tgt := 85) hx hb dX7_node_72 (by decide) (fun c_40 => ?_) (fun c_40 => ?_)
              · have h := iN (Int32.not_lt.mpr c_40) h
                refine lv_bipush (v := (-9)) hx hb dX7_node_85 (by decide) ?_
                obtain ⟨hn41, h⟩ := gk h
                refine xiast hx hb hK hP hap hS (364) (by decide) (show kd 364 = 8 by decide) (by rw [show ln 364 = 6 by decide]; exact hn41) dX7_node_87 (fun H locs hP hS => ?_)
                obtain ⟨A42, eA42, h⟩ := bd_e h
                rw [← eA42] at hP
                have hP : va_P D vwCl (VW K ad I1 G A42 L) H := hP
                refine lv_iinc (v := (v9 + 1)) (lv' := [(5, .int (v9 + 1)), (4, .int v10), (0, .ref (ad 318)), (1, .int a1), (2, .int a2), (3, .int a3)]) hx hb dX7_node_88 hl (k := 0) rfl rfl (by decide) rfl (fun ls hl => ?_)
                refine lv_goto (tgt := 53) hx hb dX7_node_91 (by decide) ?_
                exact ih8 (v9 + 1) v10 A42 h _ _ hP hS ls (lv_sub hl [0, 1, 2, 3, 4, 5] rfl)
              · have h := ip (Int32.not_le.mp c_40) h
                refine lv_aload_n hx hb dX7_node_75 rfl (lv_at hl 2 rfl) ?_
                refine vgC hx hb hts hi7 hown hK hP (318) (by decide) (show kd 318 = 7 by decide) (C := RX7) (T := TX7) (N := 79) rfl 60 (by decide) (by decide) (by decide) (by decide) (362) rfl (hts (.fieldLink RX7 150 "CrateHelpersModel" "askedRow" "[I") (by decide +kernel)) (fun _ h9 => h9) dX7_node_76 ?_
                refine lv_iload hx hb dX7_node_79 (lv_at hl 0 rfl) ?_
                obtain ⟨hn43, h⟩ := gk h
                refine xiald hx hb hK hP (362) (by decide) (show kd 362 = 8 by decide) (by rw [show ln 362 = 6 by decide]; exact hn43) dX7_node_81 ?_
                refine lv_goto (tgt := 87) hx hb dX7_node_82 (by decide) ?_
                refine xiast hx hb hK hP hap hS (364) (by decide) (show kd 364 = 8 by decide) (by rw [show ln 364 = 6 by decide]; exact hn43) dX7_node_87 (fun H locs hP hS => ?_)
                obtain ⟨A44, eA44, h⟩ := bd_e h
                rw [← eA44] at hP
                have hP : va_P D vwCl (VW K ad I1 G A44 L) H := hP
                refine lv_iinc (v := (v9 + 1)) (lv' := [(5, .int (v9 + 1)), (4, .int v10), (0, .ref (ad 318)), (1, .int a1), (2, .int a2), (3, .int a3)]) hx hb dX7_node_88 hl (k := 0) rfl rfl (by decide) rfl (fun ls hl => ?_)
                refine lv_goto (tgt := 53) hx hb dX7_node_91 (by decide) ?_
                exact ih8 (v9 + 1) v10 A44 h _ _ hP hS ls (lv_sub hl [0, 1, 2, 3, 4, 5] rfl)
        exact lp8 FU 0 (I1 318 57) A h _ _ hP hS ls (lv_sub hl [0, 1, 2, 3, 4, 5] rfl)
      · have h := iN c_7 h
        refine lv_bipush (v := (-2)) hx hb dX7_node_41 (by decide) ?_
        exact W.iret (v := (-2)) hx hb hr (fun t9 ht9 hW9 => ⟨⟨(-2), (I1, G, A, L), rfl, by cases h; exact ⟨rfl, rfl⟩, by rw [ht9]; exact hP, va_K.moved hW9.alike hK⟩, hS.F ht9⟩) hS.2.2 dX7_node_43
  · have h := ip c_4 h
    refine lv_iconst (v := (-1)) hx hb dX7_node_14 (by decide) ?_
    exact W.iret (v := (-1)) hx hb hr (fun t9 ht9 hW9 => ⟨⟨(-1), (I1, G, A, L), rfl, by cases h; exact ⟨rfl, rfl⟩, by rw [ht9]; exact hP, va_K.moved hW9.alike hK⟩, hS.F ht9⟩) hS.2.2 dX7_node_15
set_option maxHeartbeats 4000000 in
set_option maxRecDepth 100000 in
theorem e_X7_number (l : Launch) (D : va_G) (K : Nat → ClassId) (ad : Nat → Nat) (hap0 : apart ad (fun _ => True)) (a1 : Int32) (a2 : Int32) (a3 : Int32) (I : Nat → Nat → Int32) (G : Nat → Nat → Nat) (A : Nat → Nat → Int32) (L : Nat → Nat → Int64) (r0 : Int32) (I0 : Nat → Nat → Int32) (A0 : Nat → Nat → Int32) (h : f_X7_number I A a1 a2 a3 = some (r0, I0, A0)) : Ci l D K ad yX7_number wsX7_number 3 74 [.ref (ad 318), .int a1, .int a2, .int a3] (I, G, A, L) (fun (r : Int32) (u : Mem) => r = r0 ∧ u = (I0, G, A0, L)) := by
  intro sz
  refine Met.ofW (cc := cX7_number) (maxL := 5) (ret := (some .int)) (by decide) rfl ?_
  intro p e s m args below meth c s₁ Bd hml hv0
  obtain ⟨rfl, hsz, hP, hK⟩ := hv0
  have hx := Bd.exec
  have hb := Bd.bytes
  have hr := Bd.returns
  have hts := atoms_spec (ws := wsX7_number) Bd.pre
  have hown : s.vm.findClass RX7 = some m.cls := findClass_of_methodNamed Bd.named
  have hlocks := Bd.notSynchronized
  have hi7 : ∀ w ∈ u_ws RX7 TX7 79, w ∈ wsX7_number := fun w h => List.mem_cons_of_mem _ (List.mem_append_right _ h)
  subst hsz
  have hap := vF_ap hap0 s.heap.size
  have hS : va_S (vF ad s.heap.size) s.heap s.heap [] := va_S.rf
  have hP : va_P D vwCl (VW K ad I G A L) s.heap := hP
  have hl := lv_entry ([.ref (ad 318), .int a1, .int a2, .int a3]) (n := 5) (Nat.le_of_ble_eq_true rfl)
  rw [lg_entry_eq]
  generalize (lg_sl ([.ref (ad 318), .int a1, .int a2, .int a3]) ++ List.replicate (5 - (lg_sl ([.ref (ad 318), .int a1, .int a2, .int a3])).length) Slot.unset).toArray = ls at hl ⊢
  have hl : lv_has ls 5 [(0, .ref (ad 318)), (1, .int a1), (2, .int a2), (3, .int a3)] := hl
  rw [f_X7_number] at h
  refine lv_aload_n hx hb dX7_number_0 rfl (lv_at hl 0 rfl) ?_
  refine lv_iconst (v := 0) hx hb dX7_number_1 (by decide) ?_
  refine vpI (v := 0) (ty := .int) hx hb hts hi7 tyX7 tyX7_ok nmX7 hown hK hP hap hS (318) (by decide) (show kd 318 = 7 by decide) (C := RX7) (T := TX7) (N := 79) rfl 0 (by decide) (by decide) (by decide) (by decide) (hts (.fieldLink RX7 201 "CrateHelpersModel" "thrown" "I") (by decide +kernel)) (fun _ h9 => h9) rfl (by decide +kernel) rfl rfl dX7_number_2 (fun H locs hP hS => ?_)
  obtain ⟨I1, eI1, h⟩ := bd_e h
  rw [← eI1] at hP
  have hP : va_P D vwCl (VW K ad I1 G A L) H := hP
  refine lv_aload_n hx hb dX7_number_5 rfl (lv_at hl 0 rfl) ?_
  refine lv_iconst (v := 0) hx hb dX7_number_6 (by decide) ?_
  refine vpI (v := 0) (ty := .int) hx hb hts hi7 tyX7 tyX7_ok nmX7 hown hK hP hap hS (318) (by decide) (show kd 318 = 7 by decide) (C := RX7) (T := TX7) (N := 79) rfl 1 (by decide) (by decide) (by decide) (by decide) (hts (.fieldLink RX7 221 "CrateHelpersModel" "status" "I") (by decide +kernel)) (fun _ h9 => h9) rfl (by decide +kernel) rfl rfl dX7_number_7 (fun H locs hP hS => ?_)
  obtain ⟨I2, eI2, h⟩ := bd_e h
  rw [← eI2] at hP
  have hP : va_P D vwCl (VW K ad I2 G A L) H := hP
  refine lv_aload_n hx hb dX7_number_10 rfl (lv_at hl 0 rfl) ?_
  refine lv_iload_n hx hb dX7_number_11 rfl (lv_at hl 1 rfl) ?_
  refine lv_iload_n hx hb dX7_number_12 rfl (lv_at hl 2 rfl) ?_
  obtain ⟨r3, hc4, h⟩ := Option.bind_eq_some_iff.mp h
  refine ecV (As := [.int a1, .int a2]) (rest := []) ⟨hx, hb, hml, hown, hts⟩ (e_X7_isRule l D K ad hap0 a1 a2 I2 G A L r3 hc4) (cwV 2 hts gX7_number_X7_isRule rfl rfl rfl (by decide +kernel) ⟨Nat.le_of_ble_eq_true rfl, Nat.le_of_ble_eq_true rfl⟩) hK hP hS (by decide) (show kd 318 = 7 by decide) (by decide) rfl rfl rfl hl.1 (Nat.le_of_ble_eq_true rfl) (Nat.le_of_ble_eq_true rfl) (Nat.le_of_ble_eq_true rfl) dX7_number_13 (fun H locs hP hS => ?_) rfl
  have hP : va_P D vwCl (VW K ad I2 G A L) H := hP
  refine lv_if_eq (tgt := 32) hx hb dX7_number_16 (by decide) (fun c_5 => ?_) (fun c_5 => ?_)
  · have h := ip c_5 h
    refine lv_aload_n hx hb dX7_number_32 rfl (lv_at hl 0 rfl) ?_
    refine lv_iconst (v := (-1)) hx hb dX7_number_33 (by decide) ?_
    obtain ⟨⟨r6, I7⟩, hc8, h⟩ := Option.bind_eq_some_iff.mp h
    refine ecV (As := [.int (-1)]) (rest := []) ⟨hx, hb, hml, hown, hts⟩ (e_X7_no l D K ad hap0 (-1) I2 G A L r6 I7 hc8) (cwV 1 hts gX7_number_X7_no rfl rfl rfl (by decide +kernel) ⟨Nat.le_of_ble_eq_true rfl, Nat.le_of_ble_eq_true rfl⟩) hK hP hS (by decide) (show kd 318 = 7 by decide) (by decide) rfl rfl rfl hl.1 (Nat.le_of_ble_eq_true rfl) (Nat.le_of_ble_eq_true rfl) (Nat.le_of_ble_eq_true rfl) dX7_number_34 (fun H locs hP hS => ?_) rfl
    have hP : va_P D vwCl (VW K ad I7 G A L) H := hP
    exact W.iret (v := r6) hx hb hr (fun t9 ht9 hW9 => ⟨⟨r6, (I7, G, A, L), rfl, by cases h; exact ⟨rfl, rfl⟩, by rw [ht9]; exact hP, va_K.moved hW9.alike hK⟩, hS.F ht9⟩) hS.2.2 dX7_number_37
  · have h := iN c_5 h
    refine lv_iload_n hx hb dX7_number_19 rfl (lv_at hl 3 rfl) ?_
    refine lv_sipush (v := (-1000)) hx hb dX7_number_20 (by decide) ?_
    refine lv_sipush (v := 1000) hx hb dX7_number_23 (by decide) ?_
    obtain ⟨r9, hc10, h⟩ := Option.bind_eq_some_iff.mp h
    refine ecS (As := [.int a3, .int (-1000), .int 1000]) (rest := []) ⟨hx, hb, hml, hown, hts⟩ (e_X7_in l D K ad hap0 a3 (-1000) 1000 I2 G A L r9 hc10) (va_cwS 3 hts gX7_number_X7_in rfl rfl rfl (by decide +kernel) ⟨Nat.le_of_ble_eq_true rfl, Nat.le_of_ble_eq_true rfl⟩) hK hP hS rfl hl.1 (Nat.le_of_ble_eq_true rfl) (Nat.le_of_ble_eq_true rfl) (Nat.le_of_ble_eq_true rfl) dX7_number_26 (fun H locs hP hS => ?_) rfl
    have hP : va_P D vwCl (VW K ad I2 G A L) H := hP
    refine lv_if_ne (tgt := 38) hx hb dX7_number_29 (by decide) (fun c_11 => ?_) (fun c_11 => ?_)
    · have h := iN c_11 h
      refine lv_aload_n hx hb dX7_number_38 rfl (lv_at hl 0 rfl) ?_
      refine vgI hx hb hts hi7 hown hK hP (318) (by decide) (show kd 318 = 7 by decide) (C := RX7) (T := TX7) (N := 79) rfl 23 (by decide) (by decide) (by decide) (by decide) (hts (.fieldLink RX7 62 "CrateHelpersModel" "under" "I") (by decide +kernel)) (fun _ h9 => h9) dX7_number_39 ?_
      refine lv_bipush (v := (-9)) hx hb dX7_number_42 (by decide) ?_
      refine lv_icmp_eq (tgt := 54) hx hb dX7_number_44 (by decide) (fun c_12 => ?_) (fun c_12 => ?_)
      · have h := ip c_12 h
        refine lv_aload_n hx hb dX7_number_54 rfl (lv_at hl 0 rfl) ?_
        refine vgC hx hb hts hi7 hown hK hP (318) (by decide) (show kd 318 = 7 by decide) (C := RX7) (T := TX7) (N := 79) rfl 9 (by decide) (by decide) (by decide) (by decide) (325) rfl (hts (.fieldLink RX7 28 "CrateHelpersModel" "ruleNumber" "[I") (by decide +kernel)) (fun _ h9 => h9) dX7_number_55 ?_
        refine lv_bipush (v := 8) hx hb dX7_number_58 (by decide) ?_
        refine lv_iload_n hx hb dX7_number_60 rfl (lv_at hl 1 rfl) ?_
        refine lv_imul hx hb dX7_number_61 ?_
        refine lv_iload_n hx hb dX7_number_62 rfl (lv_at hl 2 rfl) ?_
        refine lv_iadd hx hb dX7_number_63 ?_
        obtain ⟨hn13, h⟩ := gk h
        refine xiald hx hb hK hP (325) (by decide) (show kd 325 = 8 by decide) (by rw [show ln 325 = 40 by decide]; exact hn13) dX7_number_64 ?_
        refine lv_istore (lv' := [(4, .int (A 325 (((8 * a1) + a2).toNatClampNeg))), (0, .ref (ad 318)), (1, .int a1), (2, .int a2), (3, .int a3)]) hx hb dX7_number_65 hl (by decide) rfl (fun ls hl => ?_)
        refine lv_aload_n hx hb dX7_number_67 rfl (lv_at hl 1 rfl) ?_
        refine vgC hx hb hts hi7 hown hK hP (318) (by decide) (show kd 318 = 7 by decide) (C := RX7) (T := TX7) (N := 79) rfl 9 (by decide) (by decide) (by decide) (by decide) (325) rfl (hts (.fieldLink RX7 28 "CrateHelpersModel" "ruleNumber" "[I") (by decide +kernel)) (fun _ h9 => h9) dX7_number_68 ?_
        refine lv_bipush (v := 8) hx hb dX7_number_71 (by decide) ?_
        refine lv_iload_n hx hb dX7_number_73 rfl (lv_at hl 2 rfl) ?_
        refine lv_imul hx hb dX7_number_74 ?_
        refine lv_iload_n hx hb dX7_number_75 rfl (lv_at hl 3 rfl) ?_
        refine lv_iadd hx hb dX7_number_76 ?_
        refine lv_iload_n hx hb dX7_number_77 rfl (lv_at hl 4 rfl) ?_
        refine xiast hx hb hK hP hap hS (325) (by decide) (show kd 325 = 8 by decide) (by rw [show ln 325 = 40 by decide]; exact hn13) dX7_number_78 (fun H locs hP hS => ?_)
        obtain ⟨A14, eA14, h⟩ := bd_e h
        rw [← eA14] at hP
        have hP : va_P D vwCl (VW K ad I2 G A14 L) H := hP
        refine lv_aload_n hx hb dX7_number_79 rfl (lv_at hl 1 rfl) ?_
        refine lv_iload_n hx hb dX7_number_80 rfl (lv_at hl 2 rfl) ?_
        obtain ⟨⟨I15, A16⟩, hc17, h⟩ := Option.bind_eq_some_iff.mp h
        refine ecVv (As := [.int a1]) (rest := []) ⟨hx, hb, hml, hown, hts⟩ (e_X7_changes l D K ad hap0 a1 I2 G A14 L I15 A16 hc17) (cwV 1 hts gX7_number_X7_changes rfl rfl rfl (by decide +kernel) ⟨Nat.le_of_ble_eq_true rfl, Nat.le_of_ble_eq_true rfl⟩) hK hP hS (by decide) (show kd 318 = 7 by decide) (by decide) rfl rfl rfl hl.1 (Nat.le_of_ble_eq_true rfl) (Nat.le_of_ble_eq_true rfl) (Nat.le_of_ble_eq_true rfl) dX7_number_81 (fun H locs hP hS => ?_) rfl
        have hP : va_P D vwCl (VW K ad I15 G A16 L) H := hP
        refine lv_iload hx hb dX7_number_84 (lv_at hl 0 rfl) ?_
        exact W.iret (v := (A 325 (((8 * a1) + a2).toNatClampNeg))) hx hb hr (fun t9 ht9 hW9 => ⟨⟨(A 325 (((8 * a1) + a2).toNatClampNeg)), (I15, G, A16, L), rfl, by cases h; exact ⟨rfl, rfl⟩, by rw [ht9]; exact hP, va_K.moved hW9.alike hK⟩, hS.F ht9⟩) hS.2.2 dX7_number_86
      · have h := iN c_12 h
        refine lv_aload_n hx hb dX7_number_47 rfl (lv_at hl 0 rfl) ?_
        refine lv_bipush (v := (-2)) hx hb dX7_number_48 (by decide) ?_
        obtain ⟨⟨r18, I19⟩, hc20, h⟩ := Option.bind_eq_some_iff.mp h
        refine ecV (As := [.int (-2)]) (rest := []) ⟨hx, hb, hml, hown, hts⟩ (e_X7_no l D K ad hap0 (-2) I2 G A L r18 I19 hc20) (cwV 1 hts gX7_number_X7_no rfl rfl rfl (by decide +kernel) ⟨Nat.le_of_ble_eq_true rfl, Nat.le_of_ble_eq_true rfl⟩) hK hP hS (by decide) (show kd 318 = 7 by decide) (by decide) rfl rfl rfl hl.1 (Nat.le_of_ble_eq_true rfl) (Nat.le_of_ble_eq_true rfl) (Nat.le_of_ble_eq_true rfl) dX7_number_50 (fun H locs hP hS => ?_) rfl
        have hP : va_P D vwCl (VW K ad I19 G A L) H := hP
        exact W.iret (v := r18) hx hb hr (fun t9 ht9 hW9 => ⟨⟨r18, (I19, G, A, L), rfl, by cases h; exact ⟨rfl, rfl⟩, by rw [ht9]; exact hP, va_K.moved hW9.alike hK⟩, hS.F ht9⟩) hS.2.2 dX7_number_53
    · have h := ip c_11 h
      refine lv_aload_n hx hb dX7_number_32 rfl (lv_at hl 0 rfl) ?_
      refine lv_iconst (v := (-1)) hx hb dX7_number_33 (by decide) ?_
      obtain ⟨⟨r21, I22⟩, hc23, h⟩ := Option.bind_eq_some_iff.mp h
      refine ecV (As := [.int (-1)]) (rest := []) ⟨hx, hb, hml, hown, hts⟩ (e_X7_no l D K ad hap0 (-1) I2 G A L r21 I22 hc23) (cwV 1 hts gX7_number_X7_no rfl rfl rfl (by decide +kernel) ⟨Nat.le_of_ble_eq_true rfl, Nat.le_of_ble_eq_true rfl⟩) hK hP hS (by decide) (show kd 318 = 7 by decide) (by decide) rfl rfl rfl hl.1 (Nat.le_of_ble_eq_true rfl) (Nat.le_of_ble_eq_true rfl) (Nat.le_of_ble_eq_true rfl) dX7_number_34 (fun H locs hP hS => ?_) rfl
      have hP : va_P D vwCl (VW K ad I22 G A L) H := hP
      exact W.iret (v := r21) hx hb hr (fun t9 ht9 hW9 => ⟨⟨r21, (I22, G, A, L), rfl, by cases h; exact ⟨rfl, rfl⟩, by rw [ht9]; exact hP, va_K.moved hW9.alike hK⟩, hS.F ht9⟩) hS.2.2 dX7_number_37
set_option maxHeartbeats 4000000 in
set_option maxRecDepth 100000 in
theorem e_X7_rowOf (l : Launch) (D : va_G) (K : Nat → ClassId) (ad : Nat → Nat) (hap0 : apart ad (fun _ => True)) (a1 : Int32) (I : Nat → Nat → Int32) (G : Nat → Nat → Nat) (A : Nat → Nat → Int32) (L : Nat → Nat → Int64) (A0 : Nat → Nat → Int32) (h : f_X7_rowOf A a1 = some A0) : Cv l D K ad yX7_rowOf wsX7_rowOf 0 0 [.ref (ad 318), .int a1] (I, G, A, L) (fun (u : Mem) => u = (I, G, A0, L)) := by
  intro sz
  refine Met.ofW (cc := cX7_rowOf) (maxL := 3) (ret := none) (by decide) rfl ?_
  intro p e s m args below meth c s₁ Bd hml hv0
  obtain ⟨rfl, hsz, hP, hK⟩ := hv0
  have hx := Bd.exec
  have hb := Bd.bytes
  have hr := Bd.returns
  have hts := atoms_spec (ws := wsX7_rowOf) Bd.pre
  have hown : s.vm.findClass RX7 = some m.cls := findClass_of_methodNamed Bd.named
  have hlocks := Bd.notSynchronized
  have hi7 : ∀ w ∈ u_ws RX7 TX7 79, w ∈ wsX7_rowOf := fun w h => List.mem_cons_of_mem _ (List.mem_append_right _ h)
  subst hsz
  have hap := vF_ap hap0 s.heap.size
  have hS : va_S (vF ad s.heap.size) s.heap s.heap [] := va_S.rf
  have hP : va_P D vwCl (VW K ad I G A L) s.heap := hP
  have hl := lv_entry ([.ref (ad 318), .int a1]) (n := 3) (Nat.le_of_ble_eq_true rfl)
  rw [lg_entry_eq]
  generalize (lg_sl ([.ref (ad 318), .int a1]) ++ List.replicate (3 - (lg_sl ([.ref (ad 318), .int a1])).length) Slot.unset).toArray = ls at hl ⊢
  have hl : lv_has ls 3 [(0, .ref (ad 318)), (1, .int a1)] := hl
  rw [f_X7_rowOf] at h
  refine lv_iconst (v := 0) hx hb dX7_rowOf_0 (by decide) ?_
  refine lv_istore_n (lv' := [(2, .int 0), (0, .ref (ad 318)), (1, .int a1)]) hx hb dX7_rowOf_1 rfl hl (by decide) rfl (fun ls hl => ?_)
  obtain ⟨k4, ek4, h⟩ := bd_e h
  have kk4 : ∀ (A5 : Nat → Nat → Int32), k4 A5 = some A0 → ∀ (H : Heap) (locs : List Loc), va_P D vwCl (VW K ad I G A5 L) H → va_S (vF ad s.heap.size) s.heap H locs → ∀ (ls : Array Slot), lv_has ls 3 [] → W p l e ({ frames := 0, cells := 0, slots := 0, locals := 0 }) s m ([.ref (ad 318), .int a1] : List Value).toArray below meth c H locs 0 0 (MQ below (va_Qv (fun (u : Mem) => u = (I, G, A0, L)) (vB D K ad) (vF ad s.heap.size)) ([.ref (ad 318), .int a1] : List Value).toArray s 0 0 (vF ad s.heap.size)) (F0 m 31 ls []) := by
    intro A5 h H locs hP hS ls hl
    subst ek4
    exact W.vret hx hb hr (fun t9 ht9 hW9 => ⟨⟨(I, G, A5, L), rfl, by cases h; rfl, by rw [ht9]; exact hP, va_K.moved hW9.alike hK⟩, hS.F ht9⟩) hS.2.2 dX7_rowOf_31
  have lp1 : ∀ (n : Nat) (v2 : Int32) (A3 : Nat → Nat → Int32), f_X7_rowOf_L2 a1 k4 n v2 A3 = some A0 → ∀ (H : Heap) (locs : List Loc), va_P D vwCl (VW K ad I G A3 L) H → va_S (vF ad s.heap.size) s.heap H locs → ∀ (ls : Array Slot), lv_has ls 3 [(2, .int v2), (0, .ref (ad 318)), (1, .int a1)] → W p l e ({ frames := 0, cells := 0, slots := 0, locals := 0 }) s m ([.ref (ad 318), .int a1] : List Value).toArray below meth c H locs 0 0 (MQ below (va_Qv (fun (u : Mem) => u = (I, G, A0, L)) (vB D K ad) (vF ad s.heap.size)) ([.ref (ad 318), .int a1] : List Value).toArray s 0 0 (vF ad s.heap.size)) (F0 m 2 ls []) := by
    intro n
    induction n with
    | zero => intro v2 A3 h; exact absurd h (by rw [f_X7_rowOf_L2]; exact nofun)
    | succ n ih1 =>
      intro v2 A3 h H locs hP hS ls hl
      rw [f_X7_rowOf_L2] at h
      refine lv_iload_n hx hb dX7_rowOf_2 rfl (lv_at hl 0 rfl) ?_
      refine lv_bipush (v := 6) hx hb dX7_rowOf_3 (by decide) ?_
      refine lv_icmp_ge (tgt := 31) hx hb dX7_rowOf_5 (by decide) (fun c_6 => ?_) (fun c_6 => ?_)
      · have h := iN (Int32.not_lt.mpr c_6) h
        exact kk4 A3 h _ _ hP hS ls (lv_sub hl [] rfl)
      · have h := ip (Int32.not_le.mp c_6) h
        refine lv_aload_n hx hb dX7_rowOf_8 rfl (lv_at hl 1 rfl) ?_
        refine vgC hx hb hts hi7 hown hK hP (318) (by decide) (show kd 318 = 7 by decide) (C := RX7) (T := TX7) (N := 79) rfl 63 (by decide) (by decide) (by decide) (by decide) (364) rfl (hts (.fieldLink RX7 159 "CrateHelpersModel" "now" "[I") (by decide +kernel)) (fun _ h9 => h9) dX7_rowOf_9 ?_
        refine lv_iload_n hx hb dX7_rowOf_12 rfl (lv_at hl 0 rfl) ?_
        refine lv_aload_n hx hb dX7_rowOf_13 rfl (lv_at hl 1 rfl) ?_
        refine vgC hx hb hts hi7 hown hK hP (318) (by decide) (show kd 318 = 7 by decide) (C := RX7) (T := TX7) (N := 79) rfl 33 (by decide) (by decide) (by decide) (by decide) (339) rfl (hts (.fieldLink RX7 77 "CrateHelpersModel" "row" "[I") (by decide +kernel)) (fun _ h9 => h9) dX7_rowOf_14 ?_
        refine lv_bipush (v := 6) hx hb dX7_rowOf_17 (by decide) ?_
        refine lv_iload_n hx hb dX7_rowOf_19 rfl (lv_at hl 2 rfl) ?_
        refine lv_imul hx hb dX7_rowOf_20 ?_
        refine lv_iload_n hx hb dX7_rowOf_21 rfl (lv_at hl 0 rfl) ?_
        refine lv_iadd hx hb dX7_rowOf_22 ?_
        obtain ⟨hn7, h⟩ := gk h
        refine xiald hx hb hK hP (339) (by decide) (show kd 339 = 8 by decide) (by rw [show ln 339 = 12000 by decide]; exact hn7) dX7_rowOf_23 ?_
        obtain ⟨hn8, h⟩ := gk h
        refine xiast hx hb hK hP hap hS (364) (by decide) (show kd 364 = 8 by decide) (by rw [show ln 364 = 6 by decide]; exact hn8) dX7_rowOf_24 (fun H locs hP hS => ?_)
        obtain ⟨A9, eA9, h⟩ := bd_e h
        rw [← eA9] at hP
        have hP : va_P D vwCl (VW K ad I G A9 L) H := hP
        refine lv_iinc (v := (v2 + 1)) (lv' := [(2, .int (v2 + 1)), (0, .ref (ad 318)), (1, .int a1)]) hx hb dX7_rowOf_25 hl (k := 0) rfl rfl (by decide) rfl (fun ls hl => ?_)
        refine lv_goto (tgt := 2) hx hb dX7_rowOf_28 (by decide) ?_
        exact ih1 (v2 + 1) A9 h _ _ hP hS ls (lv_sub hl [0, 1, 2] rfl)
  exact lp1 FU 0 A h _ _ hP hS ls (lv_sub hl [0, 1, 2] rfl)
set_option maxHeartbeats 4000000 in
set_option maxRecDepth 100000 in
theorem e_X7_opens (l : Launch) (D : va_G) (K : Nat → ClassId) (ad : Nat → Nat) (hap0 : apart ad (fun _ => True)) (a1 : Int32) (a2 : Int32) (a3 : Int32) (I : Nat → Nat → Int32) (G : Nat → Nat → Nat) (A : Nat → Nat → Int32) (L : Nat → Nat → Int64) (I0 : Nat → Nat → Int32) (A0 : Nat → Nat → Int32) (h : f_X7_opens I A a1 a2 a3 = some (I0, A0)) : Cv l D K ad yX7_opens wsX7_opens 5 143 [.ref (ad 318), .int a1, .int a2, .int a3] (I, G, A, L) (fun (u : Mem) => u = (I0, G, A0, L)) := by
  intro sz
  refine Met.ofW (cc := cX7_opens) (maxL := 7) (ret := none) (by decide) rfl ?_
  intro p e s m args below meth c s₁ Bd hml hv0
  obtain ⟨rfl, hsz, hP, hK⟩ := hv0
  have hx := Bd.exec
  have hb := Bd.bytes
  have hr := Bd.returns
  have hts := atoms_spec (ws := wsX7_opens) Bd.pre
  have hown : s.vm.findClass RX7 = some m.cls := findClass_of_methodNamed Bd.named
  have hlocks := Bd.notSynchronized
  have hi7 : ∀ w ∈ u_ws RX7 TX7 79, w ∈ wsX7_opens := fun w h => List.mem_cons_of_mem _ (List.mem_append_right _ h)
  subst hsz
  have hap := vF_ap hap0 s.heap.size
  have hS : va_S (vF ad s.heap.size) s.heap s.heap [] := va_S.rf
  have hP : va_P D vwCl (VW K ad I G A L) s.heap := hP
  have hl := lv_entry ([.ref (ad 318), .int a1, .int a2, .int a3]) (n := 7) (Nat.le_of_ble_eq_true rfl)
  rw [lg_entry_eq]
  generalize (lg_sl ([.ref (ad 318), .int a1, .int a2, .int a3]) ++ List.replicate (7 - (lg_sl ([.ref (ad 318), .int a1, .int a2, .int a3])).length) Slot.unset).toArray = ls at hl ⊢
  have hl : lv_has ls 7 [(0, .ref (ad 318)), (1, .int a1), (2, .int a2), (3, .int a3)] := hl
  rw [f_X7_opens] at h
  refine lv_aload_n hx hb dX7_opens_0 rfl (lv_at hl 0 rfl) ?_
  refine vgC hx hb hts hi7 hown hK hP (318) (by decide) (show kd 318 = 7 by decide) (C := RX7) (T := TX7) (N := 79) rfl 38 (by decide) (by decide) (by decide) (by decide) (344) rfl (hts (.fieldLink RX7 92 "CrateHelpersModel" "isDone" "[Z") (by decide +kernel)) (fun _ h9 => h9) dX7_opens_1 ?_
  refine lv_iload_n hx hb dX7_opens_4 rfl (lv_at hl 2 rfl) ?_
  refine lv_iconst (v := 1) hx hb dX7_opens_5 (by decide) ?_
  obtain ⟨hn1, h⟩ := gk h
  refine xzast hx hb hK hP hap hS (344) (by decide) (show kd 344 = 11 by decide) (by rw [show ln 344 = 2000 by decide]; exact hn1) dX7_opens_6 (fun H locs hP hS => ?_)
  obtain ⟨A2, eA2, h⟩ := bd_e h
  rw [← eA2] at hP
  have hP : va_P D vwCl (VW K ad I G A2 L) H := hP
  refine lv_aload_n hx hb dX7_opens_7 rfl (lv_at hl 0 rfl) ?_
  refine lv_dup hx hb dX7_opens_8 rfl ?_
  refine vgI hx hb hts hi7 hown hK hP (318) (by decide) (show kd 318 = 7 by decide) (C := RX7) (T := TX7) (N := 79) rfl 30 (by decide) (by decide) (by decide) (by decide) (hts (.fieldLink RX7 287 "CrateHelpersModel" "done" "I") (by decide +kernel)) (fun _ h9 => h9) dX7_opens_9 ?_
  refine lv_iconst (v := 1) hx hb dX7_opens_12 (by decide) ?_
  refine lv_iadd hx hb dX7_opens_13 ?_
  refine vpI (v := ((I 318 30) + 1)) (ty := .int) hx hb hts hi7 tyX7 tyX7_ok nmX7 hown hK hP hap hS (318) (by decide) (show kd 318 = 7 by decide) (C := RX7) (T := TX7) (N := 79) rfl 30 (by decide) (by decide) (by decide) (by decide) (hts (.fieldLink RX7 287 "CrateHelpersModel" "done" "I") (by decide +kernel)) (fun _ h9 => h9) rfl (by decide +kernel) rfl rfl dX7_opens_14 (fun H locs hP hS => ?_)
  obtain ⟨I3, eI3, h⟩ := bd_e h
  rw [← eI3] at hP
  have hP : va_P D vwCl (VW K ad I3 G A2 L) H := hP
  refine lv_aload_n hx hb dX7_opens_17 rfl (lv_at hl 0 rfl) ?_
  refine vgC hx hb hts hi7 hown hK hP (318) (by decide) (show kd 318 = 7 by decide) (C := RX7) (T := TX7) (N := 79) rfl 32 (by decide) (by decide) (by decide) (by decide) (338) rfl (hts (.fieldLink RX7 74 "CrateHelpersModel" "depth" "[I") (by decide +kernel)) (fun _ h9 => h9) dX7_opens_18 ?_
  refine lv_iload_n hx hb dX7_opens_21 rfl (lv_at hl 2 rfl) ?_
  refine xiald hx hb hK hP (338) (by decide) (show kd 338 = 8 by decide) (by rw [show ln 338 = 2000 by decide]; exact hn1) dX7_opens_22 ?_
  refine lv_istore (lv' := [(4, .int (A2 338 a2.toNatClampNeg)), (0, .ref (ad 318)), (1, .int a1), (2, .int a2), (3, .int a3)]) hx hb dX7_opens_23 hl (by decide) rfl (fun ls hl => ?_)
  refine lv_iload hx hb dX7_opens_25 (lv_at hl 0 rfl) ?_
  refine lv_aload_n hx hb dX7_opens_27 rfl (lv_at hl 1 rfl) ?_
  refine vgC hx hb hts hi7 hown hK hP (318) (by decide) (show kd 318 = 7 by decide) (C := RX7) (T := TX7) (N := 79) rfl 3 (by decide) (by decide) (by decide) (by decide) (319) rfl (hts (.fieldLink RX7 7 "CrateHelpersModel" "variables" "[I") (by decide +kernel)) (fun _ h9 => h9) dX7_opens_28 ?_
  refine lv_iload_n hx hb dX7_opens_31 rfl (lv_at hl 2 rfl) ?_
  obtain ⟨hn4, h⟩ := gk h
  refine xiald hx hb hK hP (319) (by decide) (show kd 319 = 8 by decide) (by rw [show ln 319 = 5 by decide]; exact hn4) dX7_opens_32 ?_
  refine lv_icmp_ne (tgt := 37) hx hb dX7_opens_33 (by decide) (fun c_5 => ?_) (fun c_5 => ?_)
  · have h := iN c_5 h
    refine lv_iconst (v := 0) hx hb dX7_opens_37 (by decide) ?_
    refine lv_istore (lv' := [(5, .int 0), (4, .int (A2 338 a2.toNatClampNeg)), (0, .ref (ad 318)), (1, .int a1), (2, .int a2), (3, .int a3)]) hx hb dX7_opens_38 hl (by decide) rfl (fun ls hl => ?_)
    obtain ⟨k11, ek11, h⟩ := bd_e h
    have kk11 : ∀ (I12 : Nat → Nat → Int32) (A13 : Nat → Nat → Int32), k11 I12 A13 = some (I0, A0) → ∀ (H : Heap) (locs : List Loc), va_P D vwCl (VW K ad I12 G A13 L) H → va_S (vF ad s.heap.size) s.heap H locs → ∀ (ls : Array Slot), lv_has ls 7 [] → W p l e ({ frames := 5, cells := 0, slots := 0, locals := 143 }) s m ([.ref (ad 318), .int a1, .int a2, .int a3] : List Value).toArray below meth c H locs 0 0 (MQ below (va_Qv (fun (u : Mem) => u = (I0, G, A0, L)) (vB D K ad) (vF ad s.heap.size)) ([.ref (ad 318), .int a1, .int a2, .int a3] : List Value).toArray s 0 0 (vF ad s.heap.size)) (F0 m 153 ls []) := by
      intro I12 A13 h H locs hP hS ls hl
      subst ek11
      exact W.vret hx hb hr (fun t9 ht9 hW9 => ⟨⟨(I12, G, A13, L), rfl, by cases h; rfl, by rw [ht9]; exact hP, va_K.moved hW9.alike hK⟩, hS.F ht9⟩) hS.2.2 dX7_opens_153
    have lp6 : ∀ (n : Nat) (v7 : Int32) (v8 : Int32) (I9 : Nat → Nat → Int32) (A10 : Nat → Nat → Int32), f_X7_opens_L40 a1 a2 a3 k11 n v7 v8 I9 A10 = some (I0, A0) → ∀ (H : Heap) (locs : List Loc), va_P D vwCl (VW K ad I9 G A10 L) H → va_S (vF ad s.heap.size) s.heap H locs → ∀ (ls : Array Slot), lv_has ls 7 [(5, .int v7), (4, .int v8), (0, .ref (ad 318)), (1, .int a1), (2, .int a2), (3, .int a3)] → W p l e ({ frames := 5, cells := 0, slots := 0, locals := 143 }) s m ([.ref (ad 318), .int a1, .int a2, .int a3] : List Value).toArray below meth c H locs 0 0 (MQ below (va_Qv (fun (u : Mem) => u = (I0, G, A0, L)) (vB D K ad) (vF ad s.heap.size)) ([.ref (ad 318), .int a1, .int a2, .int a3] : List Value).toArray s 0 0 (vF ad s.heap.size)) (F0 m 40 ls []) := by
      intro n
      induction n with
      | zero => intro v7 v8 I9 A10 h; exact absurd h (by rw [f_X7_opens_L40]; exact nofun)
      | succ n ih6 =>
        intro v7 v8 I9 A10 h H locs hP hS ls hl
        rw [f_X7_opens_L40] at h
        refine lv_iload hx hb dX7_opens_40 (lv_at hl 0 rfl) ?_
        refine lv_aload_n hx hb dX7_opens_42 rfl (lv_at hl 2 rfl) ?_
        refine vgC hx hb hts hi7 hown hK hP (318) (by decide) (show kd 318 = 7 by decide) (C := RX7) (T := TX7) (N := 79) rfl 5 (by decide) (by decide) (by decide) (by decide) (321) rfl (hts (.fieldLink RX7 16 "CrateHelpersModel" "values" "[I") (by decide +kernel)) (fun _ h9 => h9) dX7_opens_43 ?_
        refine lv_bipush (v := 6) hx hb dX7_opens_46 (by decide) ?_
        refine lv_iload_n hx hb dX7_opens_48 rfl (lv_at hl 3 rfl) ?_
        refine lv_imul hx hb dX7_opens_49 ?_
        refine lv_iload hx hb dX7_opens_50 (lv_at hl 1 rfl) ?_
        refine lv_iadd hx hb dX7_opens_52 ?_
        obtain ⟨hn14, h⟩ := gk h
        refine xiald hx hb hK hP (321) (by decide) (show kd 321 = 8 by decide) (by rw [show ln 321 = 30 by decide]; exact hn14) dX7_opens_53 ?_
        refine lv_icmp_ge (tgt := 153) hx hb dX7_opens_54 (by decide) (fun c_15 => ?_) (fun c_15 => ?_)
        · have h := iN (Int32.not_lt.mpr c_15) h
          exact kk11 I9 A10 h _ _ hP hS ls (lv_sub hl [] rfl)
        · have h := ip (Int32.not_le.mp c_15) h
          refine lv_aload_n hx hb dX7_opens_57 rfl (lv_at hl 2 rfl) ?_
          refine lv_iload_n hx hb dX7_opens_58 rfl (lv_at hl 4 rfl) ?_
          obtain ⟨A16, hc17, h⟩ := Option.bind_eq_some_iff.mp h
          refine ecVv (As := [.int a2]) (rest := []) ⟨hx, hb, hml, hown, hts⟩ (e_X7_rowOf l D K ad hap0 a2 I9 G A10 L A16 hc17) (cwV 1 hts gX7_opens_X7_rowOf rfl rfl rfl (by decide +kernel) ⟨Nat.le_of_ble_eq_true rfl, Nat.le_of_ble_eq_true rfl⟩) hK hP hS (by decide) (show kd 318 = 7 by decide) (by decide) rfl rfl rfl hl.1 (Nat.le_of_ble_eq_true rfl) (Nat.le_of_ble_eq_true rfl) (Nat.le_of_ble_eq_true rfl) dX7_opens_59 (fun H locs hP hS => ?_) rfl
          have hP : va_P D vwCl (VW K ad I9 G A16 L) H := hP
          refine lv_aload_n hx hb dX7_opens_62 rfl (lv_at hl 2 rfl) ?_
          refine vgC hx hb hts hi7 hown hK hP (318) (by decide) (show kd 318 = 7 by decide) (C := RX7) (T := TX7) (N := 79) rfl 63 (by decide) (by decide) (by decide) (by decide) (364) rfl (hts (.fieldLink RX7 159 "CrateHelpersModel" "now" "[I") (by decide +kernel)) (fun _ h9 => h9) dX7_opens_63 ?_
          refine lv_iload hx hb dX7_opens_66 (lv_at hl 1 rfl) ?_
          refine lv_iload hx hb dX7_opens_68 (lv_at hl 0 rfl) ?_
          obtain ⟨hn18, h⟩ := gk h
          refine xiast hx hb hK hP hap hS (364) (by decide) (show kd 364 = 8 by decide) (by rw [show ln 364 = 6 by decide]; exact hn18) dX7_opens_70 (fun H locs hP hS => ?_)
          obtain ⟨A19, eA19, h⟩ := bd_e h
          rw [← eA19] at hP
          have hP : va_P D vwCl (VW K ad I9 G A19 L) H := hP
          refine lv_aload_n hx hb dX7_opens_71 rfl (lv_at hl 2 rfl) ?_
          refine lv_iload_n hx hb dX7_opens_72 rfl (lv_at hl 3 rfl) ?_
          refine lv_iload hx hb dX7_opens_73 (lv_at hl 1 rfl) ?_
          refine lv_iconst (v := 1) hx hb dX7_opens_75 (by decide) ?_
          refine lv_iadd hx hb dX7_opens_76 ?_
          refine lv_iload_n hx hb dX7_opens_77 rfl (lv_at hl 5 rfl) ?_
          obtain ⟨⟨r20, I21, A22⟩, hc23, h⟩ := Option.bind_eq_some_iff.mp h
          refine ecV (As := [.int a1, .int (v8 + 1), .int a3]) (rest := []) ⟨hx, hb, hml, hown, hts⟩ (e_X7_whatIs l D K ad hap0 a1 (v8 + 1) a3 I9 G A19 L r20 I21 A22 hc23) (cwV 3 hts gX7_opens_X7_whatIs rfl rfl rfl (by decide +kernel) ⟨Nat.le_of_ble_eq_true rfl, Nat.le_of_ble_eq_true rfl⟩) hK hP hS (by decide) (show kd 318 = 7 by decide) (by decide) rfl rfl rfl hl.1 (Nat.le_of_ble_eq_true rfl) (Nat.le_of_ble_eq_true rfl) (Nat.le_of_ble_eq_true rfl) dX7_opens_78 (fun H locs hP hS => ?_) rfl
          have hP : va_P D vwCl (VW K ad I21 G A22 L) H := hP
          refine lv_istore (lv' := [(6, .int r20), (5, .int v7), (4, .int v8), (0, .ref (ad 318)), (1, .int a1), (2, .int a2), (3, .int a3)]) hx hb dX7_opens_81 hl (by decide) rfl (fun ls hl => ?_)
          refine lv_aload_n hx hb dX7_opens_83 rfl (lv_at hl 3 rfl) ?_
          refine vgC hx hb hts hi7 hown hK hP (318) (by decide) (show kd 318 = 7 by decide) (C := RX7) (T := TX7) (N := 79) rfl 41 (by decide) (by decide) (by decide) (by decide) (347) rfl (hts (.fieldLink RX7 102 "CrateHelpersModel" "closing" "[I") (by decide +kernel)) (fun _ h9 => h9) dX7_opens_84 ?_
          refine lv_bipush (v := 6) hx hb dX7_opens_87 (by decide) ?_
          refine lv_iload_n hx hb dX7_opens_89 rfl (lv_at hl 5 rfl) ?_
          refine lv_imul hx hb dX7_opens_90 ?_
          refine lv_iload hx hb dX7_opens_91 (lv_at hl 1 rfl) ?_
          refine lv_iadd hx hb dX7_opens_93 ?_
          refine lv_iload hx hb dX7_opens_94 (lv_at hl 0 rfl) ?_
          obtain ⟨hn24, h⟩ := gk h
          refine xiast hx hb hK hP hap hS (347) (by decide) (show kd 347 = 8 by decide) (by rw [show ln 347 = 12000 by decide]; exact hn24) dX7_opens_96 (fun H locs hP hS => ?_)
          obtain ⟨A25, eA25, h⟩ := bd_e h
          rw [← eA25] at hP
          have hP : va_P D vwCl (VW K ad I21 G A25 L) H := hP
          refine lv_aload_n hx hb dX7_opens_97 rfl (lv_at hl 3 rfl) ?_
          refine vgC hx hb hts hi7 hown hK hP (318) (by decide) (show kd 318 = 7 by decide) (C := RX7) (T := TX7) (N := 79) rfl 42 (by decide) (by decide) (by decide) (by decide) (348) rfl (hts (.fieldLink RX7 105 "CrateHelpersModel" "reason" "[I") (by decide +kernel)) (fun _ h9 => h9) dX7_opens_98 ?_
          refine lv_bipush (v := 6) hx hb dX7_opens_101 (by decide) ?_
          refine lv_iload_n hx hb dX7_opens_103 rfl (lv_at hl 5 rfl) ?_
          refine lv_imul hx hb dX7_opens_104 ?_
          refine lv_iload hx hb dX7_opens_105 (lv_at hl 1 rfl) ?_
          refine lv_iadd hx hb dX7_opens_107 ?_
          refine lv_iload hx hb dX7_opens_108 (lv_at hl 0 rfl) ?_
          obtain ⟨j27, ej27, h⟩ := bd_e h
          have kj27 : ∀ (z26 : Int32), j27 z26 = some (I0, A0) → ∀ (H : Heap) (locs : List Loc), va_P D vwCl (VW K ad I21 G A25 L) H → va_S (vF ad s.heap.size) s.heap H locs → ∀ (ls : Array Slot), lv_has ls 7 [(6, .int r20), (5, .int v7), (4, .int v8), (0, .ref (ad 318)), (1, .int a1), (2, .int a2), (3, .int a3)] → W p l e ({ frames := 5, cells := 0, slots := 0, locals := 143 }) s m ([.ref (ad 318), .int a1, .int a2, .int a3] : List Value).toArray below meth c H locs 0 0 (MQ below (va_Qv (fun (u : Mem) => u = (I0, G, A0, L)) (vB D K ad) (vF ad s.heap.size)) ([.ref (ad 318), .int a1, .int a2, .int a3] : List Value).toArray s 0 0 (vF ad s.heap.size)) (F0 m 122 ls [.int z26, .int ((6 * a2) + v7), .ref (ad 348)]) := by
            intro z26 h H locs hP hS ls hl
            subst ej27
            refine xiast hx hb hK hP hap hS (348) (by decide) (show kd 348 = 8 by decide) (by rw [show ln 348 = 12000 by decide]; exact hn24) dX7_opens_122 (fun H locs hP hS => ?_)
            obtain ⟨A28, eA28, h⟩ := bd_e h
            rw [← eA28] at hP
            have hP : va_P D vwCl (VW K ad I21 G A28 L) H := hP
            refine lv_iload hx hb dX7_opens_123 (lv_at hl 0 rfl) ?_
            refine lv_if_ne (tgt := 147) hx hb dX7_opens_125 (by decide) (fun c_29 => ?_) (fun c_29 => ?_)
            · have h := iN c_29 h
              refine lv_iinc (v := (v7 + 1)) (lv' := [(5, .int (v7 + 1)), (6, .int r20), (4, .int v8), (0, .ref (ad 318)), (1, .int a1), (2, .int a2), (3, .int a3)]) hx hb dX7_opens_147 hl (k := 1) rfl rfl (by decide) rfl (fun ls hl => ?_)
              refine lv_goto (tgt := 40) hx hb dX7_opens_150 (by decide) ?_
              exact ih6 (v7 + 1) v8 I21 A28 h _ _ hP hS ls (lv_sub hl [0, 2, 3, 4, 5, 6] rfl)
            · have h := ip c_29 h
              refine lv_aload_n hx hb dX7_opens_128 rfl (lv_at hl 3 rfl) ?_
              refine lv_iload hx hb dX7_opens_129 (lv_at hl 2 rfl) ?_
              refine lv_iconst (v := 1) hx hb dX7_opens_131 (by decide) ?_
              refine lv_iadd hx hb dX7_opens_132 ?_
              refine lv_iload_n hx hb dX7_opens_133 rfl (lv_at hl 5 rfl) ?_
              obtain ⟨⟨I30, A31⟩, hc32, h⟩ := Option.bind_eq_some_iff.mp h
              refine ecVv (As := [.int (v8 + 1), .int a2]) (rest := []) ⟨hx, hb, hml, hown, hts⟩ (e_X7_addNode l D K ad hap0 (v8 + 1) a2 I21 G A28 L I30 A31 hc32) (cwV 2 hts gX7_opens_X7_addNode rfl rfl rfl (by decide +kernel) ⟨Nat.le_of_ble_eq_true rfl, Nat.le_of_ble_eq_true rfl⟩) hK hP hS (by decide) (show kd 318 = 7 by decide) (by decide) rfl rfl rfl hl.1 (Nat.le_of_ble_eq_true rfl) (Nat.le_of_ble_eq_true rfl) (Nat.le_of_ble_eq_true rfl) dX7_opens_134 (fun H locs hP hS => ?_) rfl
              have hP : va_P D vwCl (VW K ad I30 G A31 L) H := hP
              refine lv_aload_n hx hb dX7_opens_137 rfl (lv_at hl 3 rfl) ?_
              refine vgC hx hb hts hi7 hown hK hP (318) (by decide) (show kd 318 = 7 by decide) (C := RX7) (T := TX7) (N := 79) rfl 43 (by decide) (by decide) (by decide) (by decide) (349) rfl (hts (.fieldLink RX7 108 "CrateHelpersModel" "openBelow" "[I") (by decide +kernel)) (fun _ h9 => h9) dX7_opens_138 ?_
              refine lv_iload_n hx hb dX7_opens_141 rfl (lv_at hl 5 rfl) ?_
              refine lv_dup2_11 hx hb dX7_opens_142 rfl rfl ?_
              refine xiald hx hb hK hP (349) (by decide) (show kd 349 = 8 by decide) (by rw [show ln 349 = 2000 by decide]; exact hn1) dX7_opens_143 ?_
              refine lv_iconst (v := 1) hx hb dX7_opens_144 (by decide) ?_
              refine lv_iadd hx hb dX7_opens_145 ?_
              refine xiast hx hb hK hP hap hS (349) (by decide) (show kd 349 = 8 by decide) (by rw [show ln 349 = 2000 by decide]; exact hn1) dX7_opens_146 (fun H locs hP hS => ?_)
              obtain ⟨A33, eA33, h⟩ := bd_e h
              rw [← eA33] at hP
              have hP : va_P D vwCl (VW K ad I30 G A33 L) H := hP
              refine lv_iinc (v := (v7 + 1)) (lv' := [(5, .int (v7 + 1)), (6, .int r20), (4, .int v8), (0, .ref (ad 318)), (1, .int a1), (2, .int a2), (3, .int a3)]) hx hb dX7_opens_147 hl (k := 1) rfl rfl (by decide) rfl (fun ls hl => ?_)
              refine lv_goto (tgt := 40) hx hb dX7_opens_150 (by decide) ?_
              exact ih6 (v7 + 1) v8 I30 A33 h _ _ hP hS ls (lv_sub hl [0, 2, 3, 4, 5, 6] rfl)
          refine lv_if_ne (tgt := 118) hx hb dX7_opens_110 (by decide) (fun c_34 => ?_) (fun c_34 => ?_)
          · have h := iN c_34 h
            refine lv_aload_n hx hb dX7_opens_118 rfl (lv_at hl 3 rfl) ?_
            refine vgI hx hb hts hi7 hown hK hP (318) (by decide) (show kd 318 = 7 by decide) (C := RX7) (T := TX7) (N := 79) rfl 64 (by decide) (by decide) (by decide) (by decide) (hts (.fieldLink RX7 272 "CrateHelpersModel" "why" "I") (by decide +kernel)) (fun _ h9 => h9) dX7_opens_119 ?_
            exact kj27 (I21 318 64) h _ _ hP hS ls (lv_sub hl [0, 1, 2, 3, 4, 5, 6] rfl)
          · have h := ip c_34 h
            refine lv_bipush (v := (-9)) hx hb dX7_opens_113 (by decide) ?_
            refine lv_goto (tgt := 122) hx hb dX7_opens_115 (by decide) ?_
            exact kj27 (-9) h _ _ hP hS ls (lv_sub hl [0, 1, 2, 3, 4, 5, 6] rfl)
    exact lp6 FU 0 (A2 338 a2.toNatClampNeg) I3 A2 h _ _ hP hS ls (lv_sub hl [0, 1, 2, 3, 4, 5] rfl)
  · have h := ip c_5 h
    exact W.vret hx hb hr (fun t9 ht9 hW9 => ⟨⟨(I3, G, A2, L), rfl, by cases h; rfl, by rw [ht9]; exact hP, va_K.moved hW9.alike hK⟩, hS.F ht9⟩) hS.2.2 dX7_opens_36
set_option maxHeartbeats 4000000 in
set_option maxRecDepth 100000 in
theorem e_X7_part (l : Launch) (D : va_G) (K : Nat → ClassId) (ad : Nat → Nat) (hap0 : apart ad (fun _ => True)) (a1 : Int32) (a2 : Int32) (a3 : Int32) (a4 : Int32) (I : Nat → Nat → Int32) (G : Nat → Nat → Nat) (A : Nat → Nat → Int32) (L : Nat → Nat → Int64) (r0 : Int32) (I0 : Nat → Nat → Int32) (A0 : Nat → Nat → Int32) (h : f_X7_part I A a1 a2 a3 a4 = some (r0, I0, A0)) : Ci l D K ad yX7_part wsX7_part 3 74 [.ref (ad 318), .int a1, .int a2, .int a3, .int a4] (I, G, A, L) (fun (r : Int32) (u : Mem) => r = r0 ∧ u = (I0, G, A0, L)) := by
  intro sz
  refine Met.ofW (cc := cX7_part) (maxL := 6) (ret := (some .int)) (by decide) rfl ?_
  intro p e s m args below meth c s₁ Bd hml hv0
  obtain ⟨rfl, hsz, hP, hK⟩ := hv0
  have hx := Bd.exec
  have hb := Bd.bytes
  have hr := Bd.returns
  have hts := atoms_spec (ws := wsX7_part) Bd.pre
  have hown : s.vm.findClass RX7 = some m.cls := findClass_of_methodNamed Bd.named
  have hlocks := Bd.notSynchronized
  have hi7 : ∀ w ∈ u_ws RX7 TX7 79, w ∈ wsX7_part := fun w h => List.mem_cons_of_mem _ (List.mem_append_right _ h)
  subst hsz
  have hap := vF_ap hap0 s.heap.size
  have hS : va_S (vF ad s.heap.size) s.heap s.heap [] := va_S.rf
  have hP : va_P D vwCl (VW K ad I G A L) s.heap := hP
  have hl := lv_entry ([.ref (ad 318), .int a1, .int a2, .int a3, .int a4]) (n := 6) (Nat.le_of_ble_eq_true rfl)
  rw [lg_entry_eq]
  generalize (lg_sl ([.ref (ad 318), .int a1, .int a2, .int a3, .int a4]) ++ List.replicate (6 - (lg_sl ([.ref (ad 318), .int a1, .int a2, .int a3, .int a4])).length) Slot.unset).toArray = ls at hl ⊢
  have hl : lv_has ls 6 [(0, .ref (ad 318)), (1, .int a1), (2, .int a2), (3, .int a3), (4, .int a4)] := hl
  rw [f_X7_part] at h
  refine lv_aload_n hx hb dX7_part_0 rfl (lv_at hl 0 rfl) ?_
  refine lv_iconst (v := 0) hx hb dX7_part_1 (by decide) ?_
  refine vpI (v := 0) (ty := .int) hx hb hts hi7 tyX7 tyX7_ok nmX7 hown hK hP hap hS (318) (by decide) (show kd 318 = 7 by decide) (C := RX7) (T := TX7) (N := 79) rfl 0 (by decide) (by decide) (by decide) (by decide) (hts (.fieldLink RX7 201 "CrateHelpersModel" "thrown" "I") (by decide +kernel)) (fun _ h9 => h9) rfl (by decide +kernel) rfl rfl dX7_part_2 (fun H locs hP hS => ?_)
  obtain ⟨I1, eI1, h⟩ := bd_e h
  rw [← eI1] at hP
  have hP : va_P D vwCl (VW K ad I1 G A L) H := hP
  refine lv_aload_n hx hb dX7_part_5 rfl (lv_at hl 0 rfl) ?_
  refine lv_iload_n hx hb dX7_part_6 rfl (lv_at hl 1 rfl) ?_
  refine lv_iload_n hx hb dX7_part_7 rfl (lv_at hl 2 rfl) ?_
  obtain ⟨r2, hc3, h⟩ := Option.bind_eq_some_iff.mp h
  refine ecV (As := [.int a1, .int a2]) (rest := []) ⟨hx, hb, hml, hown, hts⟩ (e_X7_isRule l D K ad hap0 a1 a2 I1 G A L r2 hc3) (cwV 2 hts gX7_part_X7_isRule rfl rfl rfl (by decide +kernel) ⟨Nat.le_of_ble_eq_true rfl, Nat.le_of_ble_eq_true rfl⟩) hK hP hS (by decide) (show kd 318 = 7 by decide) (by decide) rfl rfl rfl hl.1 (Nat.le_of_ble_eq_true rfl) (Nat.le_of_ble_eq_true rfl) (Nat.le_of_ble_eq_true rfl) dX7_part_8 (fun H locs hP hS => ?_) rfl
  have hP : va_P D vwCl (VW K ad I1 G A L) H := hP
  refine lv_if_eq (tgt := 42) hx hb dX7_part_11 (by decide) (fun c_4 => ?_) (fun c_4 => ?_)
  · have h := ip c_4 h
    refine lv_iconst (v := (-1)) hx hb dX7_part_42 (by decide) ?_
    exact W.iret (v := (-1)) hx hb hr (fun t9 ht9 hW9 => ⟨⟨(-1), (I1, G, A, L), rfl, by cases h; exact ⟨rfl, rfl⟩, by rw [ht9]; exact hP, va_K.moved hW9.alike hK⟩, hS.F ht9⟩) hS.2.2 dX7_part_43
  · have h := iN c_4 h
    refine lv_iload_n hx hb dX7_part_14 rfl (lv_at hl 3 rfl) ?_
    refine lv_iconst (v := 0) hx hb dX7_part_15 (by decide) ?_
    refine lv_aload_n hx hb dX7_part_16 rfl (lv_at hl 0 rfl) ?_
    refine vgC hx hb hts hi7 hown hK hP (318) (by decide) (show kd 318 = 7 by decide) (C := RX7) (T := TX7) (N := 79) rfl 3 (by decide) (by decide) (by decide) (by decide) (319) rfl (hts (.fieldLink RX7 7 "CrateHelpersModel" "variables" "[I") (by decide +kernel)) (fun _ h9 => h9) dX7_part_17 ?_
    refine lv_iload_n hx hb dX7_part_20 rfl (lv_at hl 1 rfl) ?_
    obtain ⟨hn5, h⟩ := gk h
    refine xiald hx hb hK hP (319) (by decide) (show kd 319 = 8 by decide) (by rw [show ln 319 = 5 by decide]; exact hn5) dX7_part_21 ?_
    refine lv_iconst (v := 1) hx hb dX7_part_22 (by decide) ?_
    refine lv_isub hx hb dX7_part_23 ?_
    obtain ⟨r6, hc7, h⟩ := Option.bind_eq_some_iff.mp h
    refine ecS (As := [.int a3, .int 0, .int ((A 319 a1.toNatClampNeg) - 1)]) (rest := []) ⟨hx, hb, hml, hown, hts⟩ (e_X7_in l D K ad hap0 a3 0 ((A 319 a1.toNatClampNeg) - 1) I1 G A L r6 hc7) (va_cwS 3 hts gX7_part_X7_in rfl rfl rfl (by decide +kernel) ⟨Nat.le_of_ble_eq_true rfl, Nat.le_of_ble_eq_true rfl⟩) hK hP hS rfl hl.1 (Nat.le_of_ble_eq_true rfl) (Nat.le_of_ble_eq_true rfl) (Nat.le_of_ble_eq_true rfl) dX7_part_24 (fun H locs hP hS => ?_) rfl
    have hP : va_P D vwCl (VW K ad I1 G A L) H := hP
    refine lv_if_eq (tgt := 42) hx hb dX7_part_27 (by decide) (fun c_8 => ?_) (fun c_8 => ?_)
    · have h := ip c_8 h
      refine lv_iconst (v := (-1)) hx hb dX7_part_42 (by decide) ?_
      exact W.iret (v := (-1)) hx hb hr (fun t9 ht9 hW9 => ⟨⟨(-1), (I1, G, A, L), rfl, by cases h; exact ⟨rfl, rfl⟩, by rw [ht9]; exact hP, va_K.moved hW9.alike hK⟩, hS.F ht9⟩) hS.2.2 dX7_part_43
    · have h := iN c_8 h
      refine lv_iload hx hb dX7_part_30 (lv_at hl 4 rfl) ?_
      refine lv_bipush (v := (-50)) hx hb dX7_part_32 (by decide) ?_
      refine lv_bipush (v := 50) hx hb dX7_part_34 (by decide) ?_
      obtain ⟨r9, hc10, h⟩ := Option.bind_eq_some_iff.mp h
      refine ecS (As := [.int a4, .int (-50), .int 50]) (rest := []) ⟨hx, hb, hml, hown, hts⟩ (e_X7_in l D K ad hap0 a4 (-50) 50 I1 G A L r9 hc10) (va_cwS 3 hts gX7_part_X7_in rfl rfl rfl (by decide +kernel) ⟨Nat.le_of_ble_eq_true rfl, Nat.le_of_ble_eq_true rfl⟩) hK hP hS rfl hl.1 (Nat.le_of_ble_eq_true rfl) (Nat.le_of_ble_eq_true rfl) (Nat.le_of_ble_eq_true rfl) dX7_part_36 (fun H locs hP hS => ?_) rfl
      have hP : va_P D vwCl (VW K ad I1 G A L) H := hP
      refine lv_if_ne (tgt := 44) hx hb dX7_part_39 (by decide) (fun c_11 => ?_) (fun c_11 => ?_)
      · have h := iN c_11 h
        refine lv_aload_n hx hb dX7_part_44 rfl (lv_at hl 0 rfl) ?_
        refine vgI hx hb hts hi7 hown hK hP (318) (by decide) (show kd 318 = 7 by decide) (C := RX7) (T := TX7) (N := 79) rfl 23 (by decide) (by decide) (by decide) (by decide) (hts (.fieldLink RX7 62 "CrateHelpersModel" "under" "I") (by decide +kernel)) (fun _ h9 => h9) dX7_part_45 ?_
        refine lv_bipush (v := (-9)) hx hb dX7_part_48 (by decide) ?_
        refine lv_icmp_ne (tgt := 65) hx hb dX7_part_50 (by decide) (fun c_12 => ?_) (fun c_12 => ?_)
        · have h := iN c_12 h
          refine lv_bipush (v := (-2)) hx hb dX7_part_65 (by decide) ?_
          exact W.iret (v := (-2)) hx hb hr (fun t9 ht9 hW9 => ⟨⟨(-2), (I1, G, A, L), rfl, by cases h; exact ⟨rfl, rfl⟩, by rw [ht9]; exact hP, va_K.moved hW9.alike hK⟩, hS.F ht9⟩) hS.2.2 dX7_part_67
        · have h := ip c_12 h
          refine lv_aload_n hx hb dX7_part_53 rfl (lv_at hl 0 rfl) ?_
          refine lv_iload_n hx hb dX7_part_54 rfl (lv_at hl 1 rfl) ?_
          refine lv_iload_n hx hb dX7_part_55 rfl (lv_at hl 2 rfl) ?_
          refine lv_iload_n hx hb dX7_part_56 rfl (lv_at hl 3 rfl) ?_
          obtain ⟨r13, hc14, h⟩ := Option.bind_eq_some_iff.mp h
          refine ecV (As := [.int a1, .int a2, .int a3]) (rest := []) ⟨hx, hb, hml, hown, hts⟩ (e_X7_partAt l D K ad hap0 a1 a2 a3 I1 G A L r13 hc14) (cwV 3 hts gX7_part_X7_partAt rfl rfl rfl (by decide +kernel) ⟨Nat.le_of_ble_eq_true rfl, Nat.le_of_ble_eq_true rfl⟩) hK hP hS (by decide) (show kd 318 = 7 by decide) (by decide) rfl rfl rfl hl.1 (Nat.le_of_ble_eq_true rfl) (Nat.le_of_ble_eq_true rfl) (Nat.le_of_ble_eq_true rfl) dX7_part_57 (fun H locs hP hS => ?_) rfl
          have hP : va_P D vwCl (VW K ad I1 G A L) H := hP
          refine lv_bipush (v := (-9)) hx hb dX7_part_60 (by decide) ?_
          refine lv_icmp_eq (tgt := 68) hx hb dX7_part_62 (by decide) (fun c_15 => ?_) (fun c_15 => ?_)
          · have h := ip c_15 h
            refine lv_bipush (v := 8) hx hb dX7_part_68 (by decide) ?_
            refine lv_iload_n hx hb dX7_part_70 rfl (lv_at hl 1 rfl) ?_
            refine lv_imul hx hb dX7_part_71 ?_
            refine lv_iload_n hx hb dX7_part_72 rfl (lv_at hl 2 rfl) ?_
            refine lv_iadd hx hb dX7_part_73 ?_
            refine lv_istore (lv' := [(5, .int ((8 * a1) + a2)), (0, .ref (ad 318)), (1, .int a1), (2, .int a2), (3, .int a3), (4, .int a4)]) hx hb dX7_part_74 hl (by decide) rfl (fun ls hl => ?_)
            refine lv_aload_n hx hb dX7_part_76 rfl (lv_at hl 1 rfl) ?_
            refine vgC hx hb hts hi7 hown hK hP (318) (by decide) (show kd 318 = 7 by decide) (C := RX7) (T := TX7) (N := 79) rfl 11 (by decide) (by decide) (by decide) (by decide) (327) rfl (hts (.fieldLink RX7 34 "CrateHelpersModel" "partOf" "[I") (by decide +kernel)) (fun _ h9 => h9) dX7_part_77 ?_
            refine lv_bipush (v := 6) hx hb dX7_part_80 (by decide) ?_
            refine lv_iload hx hb dX7_part_82 (lv_at hl 0 rfl) ?_
            refine lv_imul hx hb dX7_part_84 ?_
            refine lv_aload_n hx hb dX7_part_85 rfl (lv_at hl 1 rfl) ?_
            refine vgC hx hb hts hi7 hown hK hP (318) (by decide) (show kd 318 = 7 by decide) (C := RX7) (T := TX7) (N := 79) rfl 10 (by decide) (by decide) (by decide) (by decide) (326) rfl (hts (.fieldLink RX7 31 "CrateHelpersModel" "parts" "[I") (by decide +kernel)) (fun _ h9 => h9) dX7_part_86 ?_
            refine lv_iload hx hb dX7_part_89 (lv_at hl 0 rfl) ?_
            obtain ⟨hn16, h⟩ := gk h
            refine xiald hx hb hK hP (326) (by decide) (show kd 326 = 8 by decide) (by rw [show ln 326 = 40 by decide]; exact hn16) dX7_part_91 ?_
            refine lv_iadd hx hb dX7_part_92 ?_
            refine lv_iload_n hx hb dX7_part_93 rfl (lv_at hl 4 rfl) ?_
            obtain ⟨hn17, h⟩ := gk h
            refine xiast hx hb hK hP hap hS (327) (by decide) (show kd 327 = 8 by decide) (by rw [show ln 327 = 240 by decide]; exact hn17) dX7_part_94 (fun H locs hP hS => ?_)
            obtain ⟨A18, eA18, h⟩ := bd_e h
            rw [← eA18] at hP
            have hP : va_P D vwCl (VW K ad I1 G A18 L) H := hP
            refine lv_aload_n hx hb dX7_part_95 rfl (lv_at hl 1 rfl) ?_
            refine vgC hx hb hts hi7 hown hK hP (318) (by decide) (show kd 318 = 7 by decide) (C := RX7) (T := TX7) (N := 79) rfl 12 (by decide) (by decide) (by decide) (by decide) (328) rfl (hts (.fieldLink RX7 37 "CrateHelpersModel" "weight" "[I") (by decide +kernel)) (fun _ h9 => h9) dX7_part_96 ?_
            refine lv_bipush (v := 6) hx hb dX7_part_99 (by decide) ?_
            refine lv_iload hx hb dX7_part_101 (lv_at hl 0 rfl) ?_
            refine lv_imul hx hb dX7_part_103 ?_
            refine lv_aload_n hx hb dX7_part_104 rfl (lv_at hl 1 rfl) ?_
            refine vgC hx hb hts hi7 hown hK hP (318) (by decide) (show kd 318 = 7 by decide) (C := RX7) (T := TX7) (N := 79) rfl 10 (by decide) (by decide) (by decide) (by decide) (326) rfl (hts (.fieldLink RX7 31 "CrateHelpersModel" "parts" "[I") (by decide +kernel)) (fun _ h9 => h9) dX7_part_105 ?_
            refine lv_iload hx hb dX7_part_108 (lv_at hl 0 rfl) ?_
            refine xiald hx hb hK hP (326) (by decide) (show kd 326 = 8 by decide) (by rw [show ln 326 = 40 by decide]; exact hn16) dX7_part_110 ?_
            refine lv_iadd hx hb dX7_part_111 ?_
            refine lv_iload hx hb dX7_part_112 (lv_at hl 5 rfl) ?_
            obtain ⟨hn19, h⟩ := gk h
            refine xiast hx hb hK hP hap hS (328) (by decide) (show kd 328 = 8 by decide) (by rw [show ln 328 = 240 by decide]; exact hn19) dX7_part_114 (fun H locs hP hS => ?_)
            obtain ⟨A20, eA20, h⟩ := bd_e h
            rw [← eA20] at hP
            have hP : va_P D vwCl (VW K ad I1 G A20 L) H := hP
            refine lv_aload_n hx hb dX7_part_115 rfl (lv_at hl 1 rfl) ?_
            refine vgC hx hb hts hi7 hown hK hP (318) (by decide) (show kd 318 = 7 by decide) (C := RX7) (T := TX7) (N := 79) rfl 10 (by decide) (by decide) (by decide) (by decide) (326) rfl (hts (.fieldLink RX7 31 "CrateHelpersModel" "parts" "[I") (by decide +kernel)) (fun _ h9 => h9) dX7_part_116 ?_
            refine lv_iload hx hb dX7_part_119 (lv_at hl 0 rfl) ?_
            refine lv_dup2_11 hx hb dX7_part_121 rfl rfl ?_
            refine xiald hx hb hK hP (326) (by decide) (show kd 326 = 8 by decide) (by rw [show ln 326 = 40 by decide]; exact hn16) dX7_part_122 ?_
            refine lv_iconst (v := 1) hx hb dX7_part_123 (by decide) ?_
            refine lv_iadd hx hb dX7_part_124 ?_
            refine xiast hx hb hK hP hap hS (326) (by decide) (show kd 326 = 8 by decide) (by rw [show ln 326 = 40 by decide]; exact hn16) dX7_part_125 (fun H locs hP hS => ?_)
            obtain ⟨A21, eA21, h⟩ := bd_e h
            rw [← eA21] at hP
            have hP : va_P D vwCl (VW K ad I1 G A21 L) H := hP
            refine lv_aload_n hx hb dX7_part_126 rfl (lv_at hl 1 rfl) ?_
            refine lv_iload_n hx hb dX7_part_127 rfl (lv_at hl 2 rfl) ?_
            obtain ⟨⟨I22, A23⟩, hc24, h⟩ := Option.bind_eq_some_iff.mp h
            refine ecVv (As := [.int a1]) (rest := []) ⟨hx, hb, hml, hown, hts⟩ (e_X7_changes l D K ad hap0 a1 I1 G A21 L I22 A23 hc24) (cwV 1 hts gX7_part_X7_changes rfl rfl rfl (by decide +kernel) ⟨Nat.le_of_ble_eq_true rfl, Nat.le_of_ble_eq_true rfl⟩) hK hP hS (by decide) (show kd 318 = 7 by decide) (by decide) rfl rfl rfl hl.1 (Nat.le_of_ble_eq_true rfl) (Nat.le_of_ble_eq_true rfl) (Nat.le_of_ble_eq_true rfl) dX7_part_128 (fun H locs hP hS => ?_) rfl
            have hP : va_P D vwCl (VW K ad I22 G A23 L) H := hP
            refine lv_aload_n hx hb dX7_part_131 rfl (lv_at hl 1 rfl) ?_
            refine vgC hx hb hts hi7 hown hK hP (318) (by decide) (show kd 318 = 7 by decide) (C := RX7) (T := TX7) (N := 79) rfl 10 (by decide) (by decide) (by decide) (by decide) (326) rfl (hts (.fieldLink RX7 31 "CrateHelpersModel" "parts" "[I") (by decide +kernel)) (fun _ h9 => h9) dX7_part_132 ?_
            refine lv_iload hx hb dX7_part_135 (lv_at hl 0 rfl) ?_
            refine xiald hx hb hK hP (326) (by decide) (show kd 326 = 8 by decide) (by rw [show ln 326 = 40 by decide]; exact hn16) dX7_part_137 ?_
            exact W.iret (v := (A23 326 (((8 * a1) + a2).toNatClampNeg))) hx hb hr (fun t9 ht9 hW9 => ⟨⟨(A23 326 (((8 * a1) + a2).toNatClampNeg)), (I22, G, A23, L), rfl, by cases h; exact ⟨rfl, rfl⟩, by rw [ht9]; exact hP, va_K.moved hW9.alike hK⟩, hS.F ht9⟩) hS.2.2 dX7_part_138
          · have h := iN c_15 h
            refine lv_bipush (v := (-2)) hx hb dX7_part_65 (by decide) ?_
            exact W.iret (v := (-2)) hx hb hr (fun t9 ht9 hW9 => ⟨⟨(-2), (I1, G, A, L), rfl, by cases h; exact ⟨rfl, rfl⟩, by rw [ht9]; exact hP, va_K.moved hW9.alike hK⟩, hS.F ht9⟩) hS.2.2 dX7_part_67
      · have h := ip c_11 h
        refine lv_iconst (v := (-1)) hx hb dX7_part_42 (by decide) ?_
        exact W.iret (v := (-1)) hx hb hr (fun t9 ht9 hW9 => ⟨⟨(-1), (I1, G, A, L), rfl, by cases h; exact ⟨rfl, rfl⟩, by rw [ht9]; exact hP, va_K.moved hW9.alike hK⟩, hS.F ht9⟩) hS.2.2 dX7_part_43
set_option maxHeartbeats 4000000 in
set_option maxRecDepth 100000 in
theorem e_X7_plain (l : Launch) (D : va_G) (K : Nat → ClassId) (ad : Nat → Nat) (hap0 : apart ad (fun _ => True)) (I : Nat → Nat → Int32) (G : Nat → Nat → Nat) (A : Nat → Nat → Int32) (L : Nat → Nat → Int64) (r0 : Int32) (I0 : Nat → Nat → Int32) (h : f_X7_plain I = some (r0, I0)) : Ci l D K ad yX7_plain wsX7_plain 0 0 [.ref (ad 318)] (I, G, A, L) (fun (r : Int32) (u : Mem) => r = r0 ∧ u = (I0, G, A, L)) := by
  intro sz
  refine Met.ofW (cc := cX7_plain) (maxL := 2) (ret := (some .int)) (by decide) rfl ?_
  intro p e s m args below meth c s₁ Bd hml hv0
  obtain ⟨rfl, hsz, hP, hK⟩ := hv0
  have hx := Bd.exec
  have hb := Bd.bytes
  have hr := Bd.returns
  have hts := atoms_spec (ws := wsX7_plain) Bd.pre
  have hown : s.vm.findClass RX7 = some m.cls := findClass_of_methodNamed Bd.named
  have hlocks := Bd.notSynchronized
  have hi7 : ∀ w ∈ u_ws RX7 TX7 79, w ∈ wsX7_plain := fun w h => List.mem_cons_of_mem _ (List.mem_append_right _ h)
  subst hsz
  have hap := vF_ap hap0 s.heap.size
  have hS : va_S (vF ad s.heap.size) s.heap s.heap [] := va_S.rf
  have hP : va_P D vwCl (VW K ad I G A L) s.heap := hP
  have hl := lv_entry ([.ref (ad 318)]) (n := 2) (Nat.le_of_ble_eq_true rfl)
  rw [lg_entry_eq]
  generalize (lg_sl ([.ref (ad 318)]) ++ List.replicate (2 - (lg_sl ([.ref (ad 318)])).length) Slot.unset).toArray = ls at hl ⊢
  have hl : lv_has ls 2 [(0, .ref (ad 318))] := hl
  rw [f_X7_plain] at h
  refine lv_aload_n hx hb dX7_plain_0 rfl (lv_at hl 0 rfl) ?_
  refine lv_iconst (v := 0) hx hb dX7_plain_1 (by decide) ?_
  refine vpI (v := 0) (ty := .int) hx hb hts hi7 tyX7 tyX7_ok nmX7 hown hK hP hap hS (318) (by decide) (show kd 318 = 7 by decide) (C := RX7) (T := TX7) (N := 79) rfl 0 (by decide) (by decide) (by decide) (by decide) (hts (.fieldLink RX7 201 "CrateHelpersModel" "thrown" "I") (by decide +kernel)) (fun _ h9 => h9) rfl (by decide +kernel) rfl rfl dX7_plain_2 (fun H locs hP hS => ?_)
  obtain ⟨I1, eI1, h⟩ := bd_e h
  rw [← eI1] at hP
  have hP : va_P D vwCl (VW K ad I1 G A L) H := hP
  refine lv_aload_n hx hb dX7_plain_5 rfl (lv_at hl 0 rfl) ?_
  refine vgI hx hb hts hi7 hown hK hP (318) (by decide) (show kd 318 = 7 by decide) (C := RX7) (T := TX7) (N := 79) rfl 23 (by decide) (by decide) (by decide) (by decide) (hts (.fieldLink RX7 62 "CrateHelpersModel" "under" "I") (by decide +kernel)) (fun _ h9 => h9) dX7_plain_6 ?_
  refine lv_bipush (v := (-9)) hx hb dX7_plain_9 (by decide) ?_
  refine lv_icmp_eq (tgt := 17) hx hb dX7_plain_11 (by decide) (fun c_2 => ?_) (fun c_2 => ?_)
  · have h := ip c_2 h
    refine lv_aload_n hx hb dX7_plain_17 rfl (lv_at hl 0 rfl) ?_
    refine vgI hx hb hts hi7 hown hK hP (318) (by decide) (show kd 318 = 7 by decide) (C := RX7) (T := TX7) (N := 79) rfl 18 (by decide) (by decide) (by decide) (by decide) (hts (.fieldLink RX7 243 "CrateHelpersModel" "scheduled" "I") (by decide +kernel)) (fun _ h9 => h9) dX7_plain_18 ?_
    refine lv_istore_n (lv' := [(1, .int (I1 318 18)), (0, .ref (ad 318))]) hx hb dX7_plain_21 rfl hl (by decide) rfl (fun ls hl => ?_)
    refine lv_aload_n hx hb dX7_plain_22 rfl (lv_at hl 1 rfl) ?_
    refine lv_iconst (v := 0) hx hb dX7_plain_23 (by decide) ?_
    refine vpI (v := 0) (ty := .int) hx hb hts hi7 tyX7 tyX7_ok nmX7 hown hK hP hap hS (318) (by decide) (show kd 318 = 7 by decide) (C := RX7) (T := TX7) (N := 79) rfl 18 (by decide) (by decide) (by decide) (by decide) (hts (.fieldLink RX7 243 "CrateHelpersModel" "scheduled" "I") (by decide +kernel)) (fun _ h9 => h9) rfl (by decide +kernel) rfl rfl dX7_plain_24 (fun H locs hP hS => ?_)
    obtain ⟨I3, eI3, h⟩ := bd_e h
    rw [← eI3] at hP
    have hP : va_P D vwCl (VW K ad I3 G A L) H := hP
    refine lv_iload_n hx hb dX7_plain_27 rfl (lv_at hl 0 rfl) ?_
    exact W.iret (v := (I1 318 18)) hx hb hr (fun t9 ht9 hW9 => ⟨⟨(I1 318 18), (I3, G, A, L), rfl, by cases h; exact ⟨rfl, rfl⟩, by rw [ht9]; exact hP, va_K.moved hW9.alike hK⟩, hS.F ht9⟩) hS.2.2 dX7_plain_28
  · have h := iN c_2 h
    refine lv_bipush (v := (-2)) hx hb dX7_plain_14 (by decide) ?_
    exact W.iret (v := (-2)) hx hb hr (fun t9 ht9 hW9 => ⟨⟨(-2), (I1, G, A, L), rfl, by cases h; exact ⟨rfl, rfl⟩, by rw [ht9]; exact hP, va_K.moved hW9.alike hK⟩, hS.F ht9⟩) hS.2.2 dX7_plain_16
set_option maxHeartbeats 4000000 in
set_option maxRecDepth 100000 in
theorem e_X7_problem (l : Launch) (D : va_G) (K : Nat → ClassId) (ad : Nat → Nat) (hap0 : apart ad (fun _ => True)) (I : Nat → Nat → Int32) (G : Nat → Nat → Nat) (A : Nat → Nat → Int32) (L : Nat → Nat → Int64) (r0 : Int32) (I0 : Nat → Nat → Int32) (h : f_X7_problem I = some (r0, I0)) : Ci l D K ad yX7_problem wsX7_problem 0 0 [.ref (ad 318)] (I, G, A, L) (fun (r : Int32) (u : Mem) => r = r0 ∧ u = (I0, G, A, L)) := by
  intro sz
  refine Met.ofW (cc := cX7_problem) (maxL := 1) (ret := (some .int)) (by decide) rfl ?_
  intro p e s m args below meth c s₁ Bd hml hv0
  obtain ⟨rfl, hsz, hP, hK⟩ := hv0
  have hx := Bd.exec
  have hb := Bd.bytes
  have hr := Bd.returns
  have hts := atoms_spec (ws := wsX7_problem) Bd.pre
  have hown : s.vm.findClass RX7 = some m.cls := findClass_of_methodNamed Bd.named
  have hlocks := Bd.notSynchronized
  have hi7 : ∀ w ∈ u_ws RX7 TX7 79, w ∈ wsX7_problem := fun w h => List.mem_cons_of_mem _ (List.mem_append_right _ h)
  subst hsz
  have hap := vF_ap hap0 s.heap.size
  have hS : va_S (vF ad s.heap.size) s.heap s.heap [] := va_S.rf
  have hP : va_P D vwCl (VW K ad I G A L) s.heap := hP
  have hl := lv_entry ([.ref (ad 318)]) (n := 1) (Nat.le_of_ble_eq_true rfl)
  rw [lg_entry_eq]
  generalize (lg_sl ([.ref (ad 318)]) ++ List.replicate (1 - (lg_sl ([.ref (ad 318)])).length) Slot.unset).toArray = ls at hl ⊢
  have hl : lv_has ls 1 [(0, .ref (ad 318))] := hl
  rw [f_X7_problem] at h
  refine lv_aload_n hx hb dX7_problem_0 rfl (lv_at hl 0 rfl) ?_
  refine lv_iconst (v := 0) hx hb dX7_problem_1 (by decide) ?_
  refine vpI (v := 0) (ty := .int) hx hb hts hi7 tyX7 tyX7_ok nmX7 hown hK hP hap hS (318) (by decide) (show kd 318 = 7 by decide) (C := RX7) (T := TX7) (N := 79) rfl 0 (by decide) (by decide) (by decide) (by decide) (hts (.fieldLink RX7 201 "CrateHelpersModel" "thrown" "I") (by decide +kernel)) (fun _ h9 => h9) rfl (by decide +kernel) rfl rfl dX7_problem_2 (fun H locs hP hS => ?_)
  obtain ⟨I1, eI1, h⟩ := bd_e h
  rw [← eI1] at hP
  have hP : va_P D vwCl (VW K ad I1 G A L) H := hP
  refine lv_aload_n hx hb dX7_problem_5 rfl (lv_at hl 0 rfl) ?_
  refine vgI hx hb hts hi7 hown hK hP (318) (by decide) (show kd 318 = 7 by decide) (C := RX7) (T := TX7) (N := 79) rfl 23 (by decide) (by decide) (by decide) (by decide) (hts (.fieldLink RX7 62 "CrateHelpersModel" "under" "I") (by decide +kernel)) (fun _ h9 => h9) dX7_problem_6 ?_
  refine lv_bipush (v := (-9)) hx hb dX7_problem_9 (by decide) ?_
  refine lv_icmp_eq (tgt := 17) hx hb dX7_problem_11 (by decide) (fun c_2 => ?_) (fun c_2 => ?_)
  · have h := ip c_2 h
    refine lv_aload_n hx hb dX7_problem_17 rfl (lv_at hl 0 rfl) ?_
    refine vgI hx hb hts hi7 hown hK hP (318) (by decide) (show kd 318 = 7 by decide) (C := RX7) (T := TX7) (N := 79) rfl 2 (by decide) (by decide) (by decide) (by decide) (hts (.fieldLink RX7 204 "CrateHelpersModel" "problems" "I") (by decide +kernel)) (fun _ h9 => h9) dX7_problem_18 ?_
    refine lv_iconst (v := 5) hx hb dX7_problem_21 (by decide) ?_
    refine lv_icmp_ne (tgt := 28) hx hb dX7_problem_22 (by decide) (fun c_3 => ?_) (fun c_3 => ?_)
    · have h := iN c_3 h
      refine lv_aload_n hx hb dX7_problem_28 rfl (lv_at hl 0 rfl) ?_
      refine lv_dup hx hb dX7_problem_29 rfl ?_
      refine vgI hx hb hts hi7 hown hK hP (318) (by decide) (show kd 318 = 7 by decide) (C := RX7) (T := TX7) (N := 79) rfl 2 (by decide) (by decide) (by decide) (by decide) (hts (.fieldLink RX7 204 "CrateHelpersModel" "problems" "I") (by decide +kernel)) (fun _ h9 => h9) dX7_problem_30 ?_
      refine lv_iconst (v := 1) hx hb dX7_problem_33 (by decide) ?_
      refine lv_iadd hx hb dX7_problem_34 ?_
      refine vpI (v := ((I1 318 2) + 1)) (ty := .int) hx hb hts hi7 tyX7 tyX7_ok nmX7 hown hK hP hap hS (318) (by decide) (show kd 318 = 7 by decide) (C := RX7) (T := TX7) (N := 79) rfl 2 (by decide) (by decide) (by decide) (by decide) (hts (.fieldLink RX7 204 "CrateHelpersModel" "problems" "I") (by decide +kernel)) (fun _ h9 => h9) rfl (by decide +kernel) rfl rfl dX7_problem_35 (fun H locs hP hS => ?_)
      obtain ⟨I4, eI4, h⟩ := bd_e h
      rw [← eI4] at hP
      have hP : va_P D vwCl (VW K ad I4 G A L) H := hP
      refine lv_aload_n hx hb dX7_problem_38 rfl (lv_at hl 0 rfl) ?_
      refine vgI hx hb hts hi7 hown hK hP (318) (by decide) (show kd 318 = 7 by decide) (C := RX7) (T := TX7) (N := 79) rfl 2 (by decide) (by decide) (by decide) (by decide) (hts (.fieldLink RX7 204 "CrateHelpersModel" "problems" "I") (by decide +kernel)) (fun _ h9 => h9) dX7_problem_39 ?_
      refine lv_iconst (v := 1) hx hb dX7_problem_42 (by decide) ?_
      refine lv_isub hx hb dX7_problem_43 ?_
      exact W.iret (v := ((I4 318 2) - 1)) hx hb hr (fun t9 ht9 hW9 => ⟨⟨((I4 318 2) - 1), (I4, G, A, L), rfl, by cases h; exact ⟨rfl, rfl⟩, by rw [ht9]; exact hP, va_K.moved hW9.alike hK⟩, hS.F ht9⟩) hS.2.2 dX7_problem_44
    · have h := ip c_3 h
      refine lv_bipush (v := (-3)) hx hb dX7_problem_25 (by decide) ?_
      exact W.iret (v := (-3)) hx hb hr (fun t9 ht9 hW9 => ⟨⟨(-3), (I1, G, A, L), rfl, by cases h; exact ⟨rfl, rfl⟩, by rw [ht9]; exact hP, va_K.moved hW9.alike hK⟩, hS.F ht9⟩) hS.2.2 dX7_problem_27
  · have h := iN c_2 h
    refine lv_bipush (v := (-2)) hx hb dX7_problem_14 (by decide) ?_
    exact W.iret (v := (-2)) hx hb hr (fun t9 ht9 hW9 => ⟨⟨(-2), (I1, G, A, L), rfl, by cases h; exact ⟨rfl, rfl⟩, by rw [ht9]; exact hP, va_K.moved hW9.alike hK⟩, hS.F ht9⟩) hS.2.2 dX7_problem_16
