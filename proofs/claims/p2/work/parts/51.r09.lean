set_option maxHeartbeats 4000000 in
set_option maxRecDepth 100000 in
theorem e_X7_solve (l : Launch) (D : va_G) (K : Nat → ClassId) (ad : Nat → Nat) (hap0 : apart ad (fun _ => True)) (a1 : Int32) (a2 : Int32) (I : Nat → Nat → Int32) (G : Nat → Nat → Nat) (A : Nat → Nat → Int32) (L : Nat → Nat → Int64) (r0 : Int32) (I0 : Nat → Nat → Int32) (A0 : Nat → Nat → Int32) (h : f_X7_solve I A a1 a2 = some (r0, I0, A0)) : Ci l D K ad yX7_solve wsX7_solve 7 199 [.ref (ad 318), .int a1, .int a2] (I, G, A, L) (fun (r : Int32) (u : Mem) => r = r0 ∧ u = (I0, G, A0, L)) := by
  intro sz
  refine Met.ofW (cc := cX7_solve) (maxL := 6) (ret := (some .int)) (by decide) rfl ?_
  intro p e s m args below meth c s₁ Bd hml hv0
  obtain ⟨rfl, hsz, hP, hK⟩ := hv0
  have hx := Bd.exec
  have hb := Bd.bytes
  have hr := Bd.returns
  have hts := atoms_spec (ws := wsX7_solve) Bd.pre
  have hown : s.vm.findClass RX7 = some m.cls := findClass_of_methodNamed Bd.named
  have hlocks := Bd.notSynchronized
  have hi7 : ∀ w ∈ u_ws RX7 TX7 79, w ∈ wsX7_solve := fun w h => List.mem_cons_of_mem _ (List.mem_append_right _ h)
  subst hsz
  have hap := vF_ap hap0 s.heap.size
  have hS : va_S (vF ad s.heap.size) s.heap s.heap [] := va_S.rf
  have hP : va_P D vwCl (VW K ad I G A L) s.heap := hP
  have hl := lv_entry ([.ref (ad 318), .int a1, .int a2]) (n := 6) (Nat.le_of_ble_eq_true rfl)
  rw [lg_entry_eq]
  generalize (lg_sl ([.ref (ad 318), .int a1, .int a2]) ++ List.replicate (6 - (lg_sl ([.ref (ad 318), .int a1, .int a2])).length) Slot.unset).toArray = ls at hl ⊢
  have hl : lv_has ls 6 [(0, .ref (ad 318)), (1, .int a1), (2, .int a2)] := hl
  rw [f_X7_solve] at h
  refine lv_aload_n hx hb dX7_solve_0 rfl (lv_at hl 0 rfl) ?_
  refine lv_iconst (v := 0) hx hb dX7_solve_1 (by decide) ?_
  refine vpI (v := 0) (ty := .int) hx hb hts hi7 tyX7 tyX7_ok nmX7 hown hK hP hap hS (318) (by decide) (show kd 318 = 7 by decide) (C := RX7) (T := TX7) (N := 79) rfl 0 (by decide) (by decide) (by decide) (by decide) (hts (.fieldLink RX7 201 "CrateHelpersModel" "thrown" "I") (by decide +kernel)) (fun _ h9 => h9) rfl (by decide +kernel) rfl rfl dX7_solve_2 (fun H locs hP hS => ?_)
  obtain ⟨I1, eI1, h⟩ := bd_e h
  rw [← eI1] at hP
  have hP : va_P D vwCl (VW K ad I1 G A L) H := hP
  refine lv_aload_n hx hb dX7_solve_5 rfl (lv_at hl 0 rfl) ?_
  refine lv_iload_n hx hb dX7_solve_6 rfl (lv_at hl 1 rfl) ?_
  obtain ⟨r2, hc3, h⟩ := Option.bind_eq_some_iff.mp h
  refine ecV (As := [.int a1]) (rest := []) ⟨hx, hb, hml, hown, hts⟩ (e_X7_isProblem l D K ad hap0 a1 I1 G A L r2 hc3) (cwV 1 hts gX7_solve_X7_isProblem rfl rfl rfl (by decide +kernel) ⟨Nat.le_of_ble_eq_true rfl, Nat.le_of_ble_eq_true rfl⟩) hK hP hS (by decide) (show kd 318 = 7 by decide) (by decide) rfl rfl rfl hl.1 (Nat.le_of_ble_eq_true rfl) (Nat.le_of_ble_eq_true rfl) (Nat.le_of_ble_eq_true rfl) dX7_solve_7 (fun H locs hP hS => ?_) rfl
  have hP : va_P D vwCl (VW K ad I1 G A L) H := hP
  refine lv_if_eq (tgt := 24) hx hb dX7_solve_10 (by decide) (fun c_4 => ?_) (fun c_4 => ?_)
  · have h := ip c_4 h
    refine lv_iconst (v := (-1)) hx hb dX7_solve_24 (by decide) ?_
    exact W.iret (v := (-1)) hx hb hr (fun t9 ht9 hW9 => ⟨⟨(-1), (I1, G, A, L), rfl, by cases h; exact ⟨rfl, rfl⟩, by rw [ht9]; exact hP, va_K.moved hW9.alike hK⟩, hS.F ht9⟩) hS.2.2 dX7_solve_25
  · have h := iN c_4 h
    refine lv_iload_n hx hb dX7_solve_13 rfl (lv_at hl 2 rfl) ?_
    refine lv_iconst (v := 1) hx hb dX7_solve_14 (by decide) ?_
    refine lv_sipush (v := 500) hx hb dX7_solve_15 (by decide) ?_
    obtain ⟨r5, hc6, h⟩ := Option.bind_eq_some_iff.mp h
    refine ecS (As := [.int a2, .int 1, .int 500]) (rest := []) ⟨hx, hb, hml, hown, hts⟩ (e_X7_in l D K ad hap0 a2 1 500 I1 G A L r5 hc6) (va_cwS 3 hts gX7_solve_X7_in rfl rfl rfl (by decide +kernel) ⟨Nat.le_of_ble_eq_true rfl, Nat.le_of_ble_eq_true rfl⟩) hK hP hS rfl hl.1 (Nat.le_of_ble_eq_true rfl) (Nat.le_of_ble_eq_true rfl) (Nat.le_of_ble_eq_true rfl) dX7_solve_18 (fun H locs hP hS => ?_) rfl
    have hP : va_P D vwCl (VW K ad I1 G A L) H := hP
    refine lv_if_ne (tgt := 26) hx hb dX7_solve_21 (by decide) (fun c_7 => ?_) (fun c_7 => ?_)
    · have h := iN c_7 h
      refine lv_aload_n hx hb dX7_solve_26 rfl (lv_at hl 0 rfl) ?_
      refine vgI hx hb hts hi7 hown hK hP (318) (by decide) (show kd 318 = 7 by decide) (C := RX7) (T := TX7) (N := 79) rfl 23 (by decide) (by decide) (by decide) (by decide) (hts (.fieldLink RX7 62 "CrateHelpersModel" "under" "I") (by decide +kernel)) (fun _ h9 => h9) dX7_solve_27 ?_
      refine lv_bipush (v := (-9)) hx hb dX7_solve_30 (by decide) ?_
      refine lv_icmp_eq (tgt := 46) hx hb dX7_solve_32 (by decide) (fun c_8 => ?_) (fun c_8 => ?_)
      · have h := ip c_8 h
        refine lv_aload_n hx hb dX7_solve_46 rfl (lv_at hl 0 rfl) ?_
        refine vgI hx hb hts hi7 hown hK hP (318) (by decide) (show kd 318 = 7 by decide) (C := RX7) (T := TX7) (N := 79) rfl 23 (by decide) (by decide) (by decide) (by decide) (hts (.fieldLink RX7 62 "CrateHelpersModel" "under" "I") (by decide +kernel)) (fun _ h9 => h9) dX7_solve_47 ?_
        refine lv_bipush (v := (-9)) hx hb dX7_solve_50 (by decide) ?_
        refine lv_icmp_ne (tgt := 141) hx hb dX7_solve_52 (by decide) (fun c_9 => ?_) (fun c_9 => ?_)
        · have h := iN c_9 h
          refine lv_iconst (v := 0) hx hb dX7_solve_141 (by decide) ?_
          refine lv_istore_n (lv' := [(3, .int 0), (0, .ref (ad 318)), (1, .int a1), (2, .int a2)]) hx hb dX7_solve_142 rfl hl (by decide) rfl (fun ls hl => ?_)
          obtain ⟨k14, ek14, h⟩ := bd_e h
          have kk14 : ∀ (v15 : Int32) (I16 : Nat → Nat → Int32) (A17 : Nat → Nat → Int32), k14 v15 I16 A17 = some (r0, I0, A0) → ∀ (H : Heap) (locs : List Loc), va_P D vwCl (VW K ad I16 G A17 L) H → va_S (vF ad s.heap.size) s.heap H locs → ∀ (ls : Array Slot), lv_has ls 6 [(0, .ref (ad 318)), (1, .int a1), (5, .int v15)] → W p l e ({ frames := 7, cells := 0, slots := 0, locals := 199 }) s m ([.ref (ad 318), .int a1, .int a2] : List Value).toArray below meth c H locs 0 0 (MQ below (va_Qi (fun (r : Int32) (u : Mem) => r = r0 ∧ u = (I0, G, A0, L)) (vB D K ad) (vF ad s.heap.size)) ([.ref (ad 318), .int a1, .int a2] : List Value).toArray s 0 0 (vF ad s.heap.size)) (F0 m 229 ls []) := by
            intro v15 I16 A17 h H locs hP hS ls hl
            subst ek14
            refine lv_aload_n hx hb dX7_solve_229 rfl (lv_at hl 0 rfl) ?_
            refine lv_iload_n hx hb dX7_solve_230 rfl (lv_at hl 1 rfl) ?_
            refine lv_iload hx hb dX7_solve_231 (lv_at hl 2 rfl) ?_
            obtain ⟨⟨I18, A19⟩, hc20, h⟩ := Option.bind_eq_some_iff.mp h
            refine ecVv (As := [.int a1, .int v15]) (rest := []) ⟨hx, hb, hml, hown, hts⟩ (e_X7_endsAs l D K ad hap0 a1 v15 I16 G A17 L I18 A19 hc20) (cwV 2 hts gX7_solve_X7_endsAs rfl rfl rfl (by decide +kernel) ⟨Nat.le_of_ble_eq_true rfl, Nat.le_of_ble_eq_true rfl⟩) hK hP hS (by decide) (show kd 318 = 7 by decide) (by decide) rfl rfl rfl hl.1 (Nat.le_of_ble_eq_true rfl) (Nat.le_of_ble_eq_true rfl) (Nat.le_of_ble_eq_true rfl) dX7_solve_233 (fun H locs hP hS => ?_) rfl
            have hP : va_P D vwCl (VW K ad I18 G A19 L) H := hP
            refine lv_iload hx hb dX7_solve_236 (lv_at hl 2 rfl) ?_
            exact W.iret (v := v15) hx hb hr (fun t9 ht9 hW9 => ⟨⟨v15, (I18, G, A19, L), rfl, by cases h; exact ⟨rfl, rfl⟩, by rw [ht9]; exact hP, va_K.moved hW9.alike hK⟩, hS.F ht9⟩) hS.2.2 dX7_solve_238
          obtain ⟨k21, ek21, h⟩ := bd_e h
          have kk21 : ∀ (I22 : Nat → Nat → Int32) (A23 : Nat → Nat → Int32), k21 I22 A23 = some (r0, I0, A0) → ∀ (H : Heap) (locs : List Loc), va_P D vwCl (VW K ad I22 G A23 L) H → va_S (vF ad s.heap.size) s.heap H locs → ∀ (ls : Array Slot), lv_has ls 6 [] → W p l e ({ frames := 7, cells := 0, slots := 0, locals := 199 }) s m ([.ref (ad 318), .int a1, .int a2] : List Value).toArray below meth c H locs 0 0 (MQ below (va_Qi (fun (r : Int32) (u : Mem) => r = r0 ∧ u = (I0, G, A0, L)) (vB D K ad) (vF ad s.heap.size)) ([.ref (ad 318), .int a1, .int a2] : List Value).toArray s 0 0 (vF ad s.heap.size)) (F0 m 245 ls []) := by
            intro I22 A23 h H locs hP hS ls hl
            subst ek21
            refine lv_iconst (v := 0) hx hb dX7_solve_245 (by decide) ?_
            exact W.iret (v := 0) hx hb hr (fun t9 ht9 hW9 => ⟨⟨0, (I22, G, A23, L), rfl, by cases h; exact ⟨rfl, rfl⟩, by rw [ht9]; exact hP, va_K.moved hW9.alike hK⟩, hS.F ht9⟩) hS.2.2 dX7_solve_246
          have lp10 : ∀ (n : Nat) (v11 : Int32) (I12 : Nat → Nat → Int32) (A13 : Nat → Nat → Int32), f_X7_solve_L143 a1 a2 k14 k21 n v11 I12 A13 = some (r0, I0, A0) → ∀ (H : Heap) (locs : List Loc), va_P D vwCl (VW K ad I12 G A13 L) H → va_S (vF ad s.heap.size) s.heap H locs → ∀ (ls : Array Slot), lv_has ls 6 [(3, .int v11), (0, .ref (ad 318)), (1, .int a1), (2, .int a2)] → W p l e ({ frames := 7, cells := 0, slots := 0, locals := 199 }) s m ([.ref (ad 318), .int a1, .int a2] : List Value).toArray below meth c H locs 0 0 (MQ below (va_Qi (fun (r : Int32) (u : Mem) => r = r0 ∧ u = (I0, G, A0, L)) (vB D K ad) (vF ad s.heap.size)) ([.ref (ad 318), .int a1, .int a2] : List Value).toArray s 0 0 (vF ad s.heap.size)) (F0 m 143 ls []) := by
            intro n
            induction n with
            | zero => intro v11 I12 A13 h; exact absurd h (by rw [f_X7_solve_L143]; exact nofun)
            | succ n ih10 =>
              intro v11 I12 A13 h H locs hP hS ls hl
              rw [f_X7_solve_L143] at h
              refine lv_iload_n hx hb dX7_solve_143 rfl (lv_at hl 0 rfl) ?_
              refine lv_iload_n hx hb dX7_solve_144 rfl (lv_at hl 3 rfl) ?_
              refine lv_icmp_ge (tgt := 245) hx hb dX7_solve_145 (by decide) (fun c_24 => ?_) (fun c_24 => ?_)
              · have h := iN (Int32.not_lt.mpr c_24) h
                exact kk21 I12 A13 h _ _ hP hS ls (lv_sub hl [] rfl)
              · have h := ip (Int32.not_le.mp c_24) h
                refine lv_aload_n hx hb dX7_solve_148 rfl (lv_at hl 1 rfl) ?_
                refine vgI hx hb hts hi7 hown hK hP (318) (by decide) (show kd 318 = 7 by decide) (C := RX7) (T := TX7) (N := 79) rfl 28 (by decide) (by decide) (by decide) (by decide) (hts (.fieldLink RX7 310 "CrateHelpersModel" "turns" "I") (by decide +kernel)) (fun _ h9 => h9) dX7_solve_149 ?_
                refine lv_aload_n hx hb dX7_solve_152 rfl (lv_at hl 1 rfl) ?_
                refine vgI hx hb hts hi7 hown hK hP (318) (by decide) (show kd 318 = 7 by decide) (C := RX7) (T := TX7) (N := 79) rfl 18 (by decide) (by decide) (by decide) (by decide) (hts (.fieldLink RX7 243 "CrateHelpersModel" "scheduled" "I") (by decide +kernel)) (fun _ h9 => h9) dX7_solve_153 ?_
                obtain ⟨j28, ej28, h⟩ := bd_e h
                have kj28 : ∀ (z27 : Int32), j28 z27 = some (r0, I0, A0) → ∀ (H : Heap) (locs : List Loc), va_P D vwCl (VW K ad I12 G A13 L) H → va_S (vF ad s.heap.size) s.heap H locs → ∀ (ls : Array Slot), lv_has ls 6 [(3, .int v11), (0, .ref (ad 318)), (1, .int a1), (2, .int a2)] → W p l e ({ frames := 7, cells := 0, slots := 0, locals := 199 }) s m ([.ref (ad 318), .int a1, .int a2] : List Value).toArray below meth c H locs 0 0 (MQ below (va_Qi (fun (r : Int32) (u : Mem) => r = r0 ∧ u = (I0, G, A0, L)) (vB D K ad) (vF ad s.heap.size)) ([.ref (ad 318), .int a1, .int a2] : List Value).toArray s 0 0 (vF ad s.heap.size)) (F0 m 185 ls [.int z27]) := by
                  intro z27 h H locs hP hS ls hl
                  subst ej28
                  refine lv_istore (lv' := [(4, .int z27), (3, .int v11), (0, .ref (ad 318)), (1, .int a1), (2, .int a2)]) hx hb dX7_solve_185 hl (by decide) rfl (fun ls hl => ?_)
                  refine lv_aload_n hx hb dX7_solve_187 rfl (lv_at hl 2 rfl) ?_
                  refine lv_dup hx hb dX7_solve_188 rfl ?_
                  refine vgI hx hb hts hi7 hown hK hP (318) (by decide) (show kd 318 = 7 by decide) (C := RX7) (T := TX7) (N := 79) rfl 28 (by decide) (by decide) (by decide) (by decide) (hts (.fieldLink RX7 310 "CrateHelpersModel" "turns" "I") (by decide +kernel)) (fun _ h9 => h9) dX7_solve_189 ?_
                  refine lv_iconst (v := 1) hx hb dX7_solve_192 (by decide) ?_
                  refine lv_iadd hx hb dX7_solve_193 ?_
                  refine vpI (v := ((I12 318 28) + 1)) (ty := .int) hx hb hts hi7 tyX7 tyX7_ok nmX7 hown hK hP hap hS (318) (by decide) (show kd 318 = 7 by decide) (C := RX7) (T := TX7) (N := 79) rfl 28 (by decide) (by decide) (by decide) (by decide) (hts (.fieldLink RX7 310 "CrateHelpersModel" "turns" "I") (by decide +kernel)) (fun _ h9 => h9) rfl (by decide +kernel) rfl rfl dX7_solve_194 (fun H locs hP hS => ?_)
                  obtain ⟨I29, eI29, h⟩ := bd_e h
                  rw [← eI29] at hP
                  have hP : va_P D vwCl (VW K ad I29 G A13 L) H := hP
                  refine lv_aload_n hx hb dX7_solve_197 rfl (lv_at hl 2 rfl) ?_
                  refine lv_iload_n hx hb dX7_solve_198 rfl (lv_at hl 3 rfl) ?_
                  refine lv_iload hx hb dX7_solve_199 (lv_at hl 0 rfl) ?_
                  refine lv_aload_n hx hb dX7_solve_201 rfl (lv_at hl 2 rfl) ?_
                  refine vgI hx hb hts hi7 hown hK hP (318) (by decide) (show kd 318 = 7 by decide) (C := RX7) (T := TX7) (N := 79) rfl 15 (by decide) (by decide) (by decide) (by decide) (hts (.fieldLink RX7 43 "CrateHelpersModel" "helpers" "I") (by decide +kernel)) (fun _ h9 => h9) dX7_solve_202 ?_
                  refine lv_icmp_ge (tgt := 213) hx hb dX7_solve_205 (by decide) (fun c_30 => ?_) (fun c_30 => ?_)
                  · have h := iN (Int32.not_lt.mpr c_30) h
                    refine lv_iconst (v := 0) hx hb dX7_solve_213 (by decide) ?_
                    obtain ⟨⟨I31, A32⟩, hc33, h⟩ := Option.bind_eq_some_iff.mp h
                    refine ecVv (As := [.int a1, .int 0]) (rest := []) ⟨hx, hb, hml, hown, hts⟩ (e_X7_turnOf l D K ad hap0 a1 0 I29 G A13 L I31 A32 hc33) (cwV 2 hts gX7_solve_X7_turnOf rfl rfl rfl (by decide +kernel) ⟨Nat.le_of_ble_eq_true rfl, Nat.le_of_ble_eq_true rfl⟩) hK hP hS (by decide) (show kd 318 = 7 by decide) (by decide) rfl rfl rfl hl.1 (Nat.le_of_ble_eq_true rfl) (Nat.le_of_ble_eq_true rfl) (Nat.le_of_ble_eq_true rfl) dX7_solve_214 (fun H locs hP hS => ?_) rfl
                    have hP : va_P D vwCl (VW K ad I31 G A32 L) H := hP
                    refine lv_aload_n hx hb dX7_solve_217 rfl (lv_at hl 2 rfl) ?_
                    refine lv_iload_n hx hb dX7_solve_218 rfl (lv_at hl 3 rfl) ?_
                    obtain ⟨⟨r34, I35, A36⟩, hc37, h⟩ := Option.bind_eq_some_iff.mp h
                    refine ecV (As := [.int a1]) (rest := []) ⟨hx, hb, hml, hown, hts⟩ (e_X7_walks l D K ad hap0 a1 I31 G A32 L r34 I35 A36 hc37) (cwV 1 hts gX7_solve_X7_walks rfl rfl rfl (by decide +kernel) ⟨Nat.le_of_ble_eq_true rfl, Nat.le_of_ble_eq_true rfl⟩) hK hP hS (by decide) (show kd 318 = 7 by decide) (by decide) rfl rfl rfl hl.1 (Nat.le_of_ble_eq_true rfl) (Nat.le_of_ble_eq_true rfl) (Nat.le_of_ble_eq_true rfl) dX7_solve_219 (fun H locs hP hS => ?_) rfl
                    have hP : va_P D vwCl (VW K ad I35 G A36 L) H := hP
                    refine lv_istore (lv' := [(5, .int r34), (4, .int z27), (3, .int v11), (0, .ref (ad 318)), (1, .int a1), (2, .int a2)]) hx hb dX7_solve_222 hl (by decide) rfl (fun ls hl => ?_)
                    refine lv_iload hx hb dX7_solve_224 (lv_at hl 0 rfl) ?_
                    refine lv_if_le (tgt := 239) hx hb dX7_solve_226 (by decide) (fun c_38 => ?_) (fun c_38 => ?_)
                    · have h := iN (Int32.not_lt.mpr c_38) h
                      refine lv_iinc (v := (v11 + 1)) (lv' := [(3, .int (v11 + 1)), (5, .int r34), (4, .int z27), (0, .ref (ad 318)), (1, .int a1), (2, .int a2)]) hx hb dX7_solve_239 hl (k := 2) rfl rfl (by decide) rfl (fun ls hl => ?_)
                      refine lv_goto (tgt := 143) hx hb dX7_solve_242 (by decide) ?_
                      exact ih10 (v11 + 1) I35 A36 h _ _ hP hS ls (lv_sub hl [0, 3, 4, 5] rfl)
                    · have h := ip (Int32.not_le.mp c_38) h
                      exact kk14 r34 I35 A36 h _ _ hP hS ls (lv_sub hl [3, 4, 0] rfl)
                  · have h := ip (Int32.not_le.mp c_30) h
                    refine lv_iload hx hb dX7_solve_208 (lv_at hl 0 rfl) ?_
                    refine lv_goto (tgt := 214) hx hb dX7_solve_210 (by decide) ?_
                    obtain ⟨⟨I39, A40⟩, hc41, h⟩ := Option.bind_eq_some_iff.mp h
                    refine ecVv (As := [.int a1, .int z27]) (rest := []) ⟨hx, hb, hml, hown, hts⟩ (e_X7_turnOf l D K ad hap0 a1 z27 I29 G A13 L I39 A40 hc41) (cwV 2 hts gX7_solve_X7_turnOf rfl rfl rfl (by decide +kernel) ⟨Nat.le_of_ble_eq_true rfl, Nat.le_of_ble_eq_true rfl⟩) hK hP hS (by decide) (show kd 318 = 7 by decide) (by decide) rfl rfl rfl hl.1 (Nat.le_of_ble_eq_true rfl) (Nat.le_of_ble_eq_true rfl) (Nat.le_of_ble_eq_true rfl) dX7_solve_214 (fun H locs hP hS => ?_) rfl
                    have hP : va_P D vwCl (VW K ad I39 G A40 L) H := hP
                    refine lv_aload_n hx hb dX7_solve_217 rfl (lv_at hl 2 rfl) ?_
                    refine lv_iload_n hx hb dX7_solve_218 rfl (lv_at hl 3 rfl) ?_
                    obtain ⟨⟨r42, I43, A44⟩, hc45, h⟩ := Option.bind_eq_some_iff.mp h
                    refine ecV (As := [.int a1]) (rest := []) ⟨hx, hb, hml, hown, hts⟩ (e_X7_walks l D K ad hap0 a1 I39 G A40 L r42 I43 A44 hc45) (cwV 1 hts gX7_solve_X7_walks rfl rfl rfl (by decide +kernel) ⟨Nat.le_of_ble_eq_true rfl, Nat.le_of_ble_eq_true rfl⟩) hK hP hS (by decide) (show kd 318 = 7 by decide) (by decide) rfl rfl rfl hl.1 (Nat.le_of_ble_eq_true rfl) (Nat.le_of_ble_eq_true rfl) (Nat.le_of_ble_eq_true rfl) dX7_solve_219 (fun H locs hP hS => ?_) rfl
                    have hP : va_P D vwCl (VW K ad I43 G A44 L) H := hP
                    refine lv_istore (lv' := [(5, .int r42), (4, .int z27), (3, .int v11), (0, .ref (ad 318)), (1, .int a1), (2, .int a2)]) hx hb dX7_solve_222 hl (by decide) rfl (fun ls hl => ?_)
                    refine lv_iload hx hb dX7_solve_224 (lv_at hl 0 rfl) ?_
                    refine lv_if_le (tgt := 239) hx hb dX7_solve_226 (by decide) (fun c_46 => ?_) (fun c_46 => ?_)
                    · have h := iN (Int32.not_lt.mpr c_46) h
                      refine lv_iinc (v := (v11 + 1)) (lv' := [(3, .int (v11 + 1)), (5, .int r42), (4, .int z27), (0, .ref (ad 318)), (1, .int a1), (2, .int a2)]) hx hb dX7_solve_239 hl (k := 2) rfl rfl (by decide) rfl (fun ls hl => ?_)
                      refine lv_goto (tgt := 143) hx hb dX7_solve_242 (by decide) ?_
                      exact ih10 (v11 + 1) I43 A44 h _ _ hP hS ls (lv_sub hl [0, 3, 4, 5] rfl)
                    · have h := ip (Int32.not_le.mp c_46) h
                      exact kk14 r42 I43 A44 h _ _ hP hS ls (lv_sub hl [3, 4, 0] rfl)
                refine lv_icmp_ge (tgt := 171) hx hb dX7_solve_156 (by decide) (fun c_47 => ?_) (fun c_47 => ?_)
                · have h := iN (Int32.not_lt.mpr c_47) h
                  refine lv_aload_n hx hb dX7_solve_171 rfl (lv_at hl 1 rfl) ?_
                  refine vgI hx hb hts hi7 hown hK hP (318) (by decide) (show kd 318 = 7 by decide) (C := RX7) (T := TX7) (N := 79) rfl 28 (by decide) (by decide) (by decide) (by decide) (hts (.fieldLink RX7 310 "CrateHelpersModel" "turns" "I") (by decide +kernel)) (fun _ h9 => h9) dX7_solve_172 ?_
                  refine lv_aload_n hx hb dX7_solve_175 rfl (lv_at hl 1 rfl) ?_
                  refine vgI hx hb hts hi7 hown hK hP (318) (by decide) (show kd 318 = 7 by decide) (C := RX7) (T := TX7) (N := 79) rfl 18 (by decide) (by decide) (by decide) (by decide) (hts (.fieldLink RX7 243 "CrateHelpersModel" "scheduled" "I") (by decide +kernel)) (fun _ h9 => h9) dX7_solve_176 ?_
                  refine lv_isub hx hb dX7_solve_179 ?_
                  refine lv_aload_n hx hb dX7_solve_180 rfl (lv_at hl 1 rfl) ?_
                  refine vgI hx hb hts hi7 hown hK hP (318) (by decide) (show kd 318 = 7 by decide) (C := RX7) (T := TX7) (N := 79) rfl 15 (by decide) (by decide) (by decide) (by decide) (hts (.fieldLink RX7 43 "CrateHelpersModel" "helpers" "I") (by decide +kernel)) (fun _ h9 => h9) dX7_solve_181 ?_
                  obtain ⟨hz48, h⟩ := gk h
                  refine lv_irem hx hb dX7_solve_184 hz48 ?_
                  exact kj28 (((I12 318 28) - (I12 318 18)) - ((I12 318 28) - (I12 318 18)) / (I12 318 15) * (I12 318 15)) h _ _ hP hS ls (lv_sub hl [0, 1, 2, 3] rfl)
                · have h := ip (Int32.not_le.mp c_47) h
                  refine lv_aload_n hx hb dX7_solve_159 rfl (lv_at hl 1 rfl) ?_
                  refine vgC hx hb hts hi7 hown hK hP (318) (by decide) (show kd 318 = 7 by decide) (C := RX7) (T := TX7) (N := 79) rfl 17 (by decide) (by decide) (by decide) (by decide) (331) rfl (hts (.fieldLink RX7 50 "CrateHelpersModel" "schedule" "[I") (by decide +kernel)) (fun _ h9 => h9) dX7_solve_160 ?_
                  refine lv_aload_n hx hb dX7_solve_163 rfl (lv_at hl 1 rfl) ?_
                  refine vgI hx hb hts hi7 hown hK hP (318) (by decide) (show kd 318 = 7 by decide) (C := RX7) (T := TX7) (N := 79) rfl 28 (by decide) (by decide) (by decide) (by decide) (hts (.fieldLink RX7 310 "CrateHelpersModel" "turns" "I") (by decide +kernel)) (fun _ h9 => h9) dX7_solve_164 ?_
                  obtain ⟨hn49, h⟩ := gk h
                  refine xiald hx hb hK hP (331) (by decide) (show kd 331 = 8 by decide) (by rw [show ln 331 = 200 by decide]; exact hn49) dX7_solve_167 ?_
                  refine lv_goto (tgt := 185) hx hb dX7_solve_168 (by decide) ?_
                  exact kj28 (A13 331 ((I12 318 28).toNatClampNeg)) h _ _ hP hS ls (lv_sub hl [0, 1, 2, 3] rfl)
          exact lp10 FU 0 I1 A h _ _ hP hS ls (lv_sub hl [0, 1, 2, 3] rfl)
        · have h := ip c_9 h
          refine lv_aload_n hx hb dX7_solve_55 rfl (lv_at hl 0 rfl) ?_
          refine lv_iload_n hx hb dX7_solve_56 rfl (lv_at hl 1 rfl) ?_
          refine vpI (v := a1) (ty := .int) hx hb hts hi7 tyX7 tyX7_ok nmX7 hown hK hP hap hS (318) (by decide) (show kd 318 = 7 by decide) (C := RX7) (T := TX7) (N := 79) rfl 23 (by decide) (by decide) (by decide) (by decide) (hts (.fieldLink RX7 62 "CrateHelpersModel" "under" "I") (by decide +kernel)) (fun _ h9 => h9) rfl (by decide +kernel) rfl rfl dX7_solve_57 (fun H locs hP hS => ?_)
          obtain ⟨I50, eI50, h⟩ := bd_e h
          rw [← eI50] at hP
          have hP : va_P D vwCl (VW K ad I50 G A L) H := hP
          refine lv_aload_n hx hb dX7_solve_60 rfl (lv_at hl 0 rfl) ?_
          refine lv_aload_n hx hb dX7_solve_61 rfl (lv_at hl 0 rfl) ?_
          refine vgI hx hb hts hi7 hown hK hP (318) (by decide) (show kd 318 = 7 by decide) (C := RX7) (T := TX7) (N := 79) rfl 19 (by decide) (by decide) (by decide) (by decide) (hts (.fieldLink RX7 246 "CrateHelpersModel" "limit" "I") (by decide +kernel)) (fun _ h9 => h9) dX7_solve_62 ?_
          refine vpI (v := (I50 318 19)) (ty := .int) hx hb hts hi7 tyX7 tyX7_ok nmX7 hown hK hP hap hS (318) (by decide) (show kd 318 = 7 by decide) (C := RX7) (T := TX7) (N := 79) rfl 24 (by decide) (by decide) (by decide) (by decide) (hts (.fieldLink RX7 319 "CrateHelpersModel" "limitNow" "I") (by decide +kernel)) (fun _ h9 => h9) rfl (by decide +kernel) rfl rfl dX7_solve_65 (fun H locs hP hS => ?_)
          obtain ⟨I51, eI51, h⟩ := bd_e h
          rw [← eI51] at hP
          have hP : va_P D vwCl (VW K ad I51 G A L) H := hP
          refine lv_aload_n hx hb dX7_solve_68 rfl (lv_at hl 0 rfl) ?_
          refine lv_iconst (v := 0) hx hb dX7_solve_69 (by decide) ?_
          refine vpI (v := 0) (ty := .int) hx hb hts hi7 tyX7 tyX7_ok nmX7 hown hK hP hap hS (318) (by decide) (show kd 318 = 7 by decide) (C := RX7) (T := TX7) (N := 79) rfl 28 (by decide) (by decide) (by decide) (by decide) (hts (.fieldLink RX7 310 "CrateHelpersModel" "turns" "I") (by decide +kernel)) (fun _ h9 => h9) rfl (by decide +kernel) rfl rfl dX7_solve_70 (fun H locs hP hS => ?_)
          obtain ⟨I52, eI52, h⟩ := bd_e h
          rw [← eI52] at hP
          have hP : va_P D vwCl (VW K ad I52 G A L) H := hP
          refine lv_iconst (v := 0) hx hb dX7_solve_73 (by decide) ?_
          refine lv_istore_n (lv' := [(3, .int 0), (0, .ref (ad 318)), (1, .int a1), (2, .int a2)]) hx hb dX7_solve_74 rfl hl (by decide) rfl (fun ls hl => ?_)
          obtain ⟨k56, ek56, h⟩ := bd_e h
          have kk56 : ∀ (A57 : Nat → Nat → Int32), k56 A57 = some (r0, I0, A0) → ∀ (H : Heap) (locs : List Loc), va_P D vwCl (VW K ad I52 G A57 L) H → va_S (vF ad s.heap.size) s.heap H locs → ∀ (ls : Array Slot), lv_has ls 6 [(0, .ref (ad 318)), (1, .int a1), (2, .int a2)] → W p l e ({ frames := 7, cells := 0, slots := 0, locals := 199 }) s m ([.ref (ad 318), .int a1, .int a2] : List Value).toArray below meth c H locs 0 0 (MQ below (va_Qi (fun (r : Int32) (u : Mem) => r = r0 ∧ u = (I0, G, A0, L)) (vB D K ad) (vF ad s.heap.size)) ([.ref (ad 318), .int a1, .int a2] : List Value).toArray s 0 0 (vF ad s.heap.size)) (F0 m 120 ls []) := by
            intro A57 h H locs hP hS ls hl
            subst ek56
            refine lv_aload_n hx hb dX7_solve_120 rfl (lv_at hl 0 rfl) ?_
            refine lv_iload_n hx hb dX7_solve_121 rfl (lv_at hl 1 rfl) ?_
            refine lv_iconst (v := 1) hx hb dX7_solve_122 (by decide) ?_
            obtain ⟨⟨I58, A59⟩, hc60, h⟩ := Option.bind_eq_some_iff.mp h
            refine ecVv (As := [.int a1, .int 1]) (rest := []) ⟨hx, hb, hml, hown, hts⟩ (e_X7_begins l D K ad hap0 a1 1 I52 G A57 L I58 A59 hc60) (cwV 2 hts gX7_solve_X7_begins rfl rfl rfl (by decide +kernel) ⟨Nat.le_of_ble_eq_true rfl, Nat.le_of_ble_eq_true rfl⟩) hK hP hS (by decide) (show kd 318 = 7 by decide) (by decide) rfl rfl rfl hl.1 (Nat.le_of_ble_eq_true rfl) (Nat.le_of_ble_eq_true rfl) (Nat.le_of_ble_eq_true rfl) dX7_solve_123 (fun H locs hP hS => ?_) rfl
            have hP : va_P D vwCl (VW K ad I58 G A59 L) H := hP
            refine lv_aload_n hx hb dX7_solve_126 rfl (lv_at hl 0 rfl) ?_
            refine vgI hx hb hts hi7 hown hK hP (318) (by decide) (show kd 318 = 7 by decide) (C := RX7) (T := TX7) (N := 79) rfl 29 (by decide) (by decide) (by decide) (by decide) (hts (.fieldLink RX7 284 "CrateHelpersModel" "nodes" "I") (by decide +kernel)) (fun _ h9 => h9) dX7_solve_127 ?_
            refine lv_if_ne (tgt := 141) hx hb dX7_solve_130 (by decide) (fun c_61 => ?_) (fun c_61 => ?_)
            · have h := iN c_61 h
              refine lv_iconst (v := 0) hx hb dX7_solve_141 (by decide) ?_
              refine lv_istore_n (lv' := [(3, .int 0), (0, .ref (ad 318)), (1, .int a1), (2, .int a2)]) hx hb dX7_solve_142 rfl hl (by decide) rfl (fun ls hl => ?_)
              obtain ⟨k66, ek66, h⟩ := bd_e h
              have kk66 : ∀ (v67 : Int32) (I68 : Nat → Nat → Int32) (A69 : Nat → Nat → Int32), k66 v67 I68 A69 = some (r0, I0, A0) → ∀ (H : Heap) (locs : List Loc), va_P D vwCl (VW K ad I68 G A69 L) H → va_S (vF ad s.heap.size) s.heap H locs → ∀ (ls : Array Slot), lv_has ls 6 [(0, .ref (ad 318)), (1, .int a1), (5, .int v67)] → W p l e ({ frames := 7, cells := 0, slots := 0, locals := 199 }) s m ([.ref (ad 318), .int a1, .int a2] : List Value).toArray below meth c H locs 0 0 (MQ below (va_Qi (fun (r : Int32) (u : Mem) => r = r0 ∧ u = (I0, G, A0, L)) (vB D K ad) (vF ad s.heap.size)) ([.ref (ad 318), .int a1, .int a2] : List Value).toArray s 0 0 (vF ad s.heap.size)) (F0 m 229 ls []) := by
                intro v67 I68 A69 h H locs hP hS ls hl
                subst ek66
                refine lv_aload_n hx hb dX7_solve_229 rfl (lv_at hl 0 rfl) ?_
                refine lv_iload_n hx hb dX7_solve_230 rfl (lv_at hl 1 rfl) ?_
                refine lv_iload hx hb dX7_solve_231 (lv_at hl 2 rfl) ?_
                obtain ⟨⟨I70, A71⟩, hc72, h⟩ := Option.bind_eq_some_iff.mp h
                refine ecVv (As := [.int a1, .int v67]) (rest := []) ⟨hx, hb, hml, hown, hts⟩ (e_X7_endsAs l D K ad hap0 a1 v67 I68 G A69 L I70 A71 hc72) (cwV 2 hts gX7_solve_X7_endsAs rfl rfl rfl (by decide +kernel) ⟨Nat.le_of_ble_eq_true rfl, Nat.le_of_ble_eq_true rfl⟩) hK hP hS (by decide) (show kd 318 = 7 by decide) (by decide) rfl rfl rfl hl.1 (Nat.le_of_ble_eq_true rfl) (Nat.le_of_ble_eq_true rfl) (Nat.le_of_ble_eq_true rfl) dX7_solve_233 (fun H locs hP hS => ?_) rfl
                have hP : va_P D vwCl (VW K ad I70 G A71 L) H := hP
                refine lv_iload hx hb dX7_solve_236 (lv_at hl 2 rfl) ?_
                exact W.iret (v := v67) hx hb hr (fun t9 ht9 hW9 => ⟨⟨v67, (I70, G, A71, L), rfl, by cases h; exact ⟨rfl, rfl⟩, by rw [ht9]; exact hP, va_K.moved hW9.alike hK⟩, hS.F ht9⟩) hS.2.2 dX7_solve_238
              obtain ⟨k73, ek73, h⟩ := bd_e h
              have kk73 : ∀ (I74 : Nat → Nat → Int32) (A75 : Nat → Nat → Int32), k73 I74 A75 = some (r0, I0, A0) → ∀ (H : Heap) (locs : List Loc), va_P D vwCl (VW K ad I74 G A75 L) H → va_S (vF ad s.heap.size) s.heap H locs → ∀ (ls : Array Slot), lv_has ls 6 [] → W p l e ({ frames := 7, cells := 0, slots := 0, locals := 199 }) s m ([.ref (ad 318), .int a1, .int a2] : List Value).toArray below meth c H locs 0 0 (MQ below (va_Qi (fun (r : Int32) (u : Mem) => r = r0 ∧ u = (I0, G, A0, L)) (vB D K ad) (vF ad s.heap.size)) ([.ref (ad 318), .int a1, .int a2] : List Value).toArray s 0 0 (vF ad s.heap.size)) (F0 m 245 ls []) := by
                intro I74 A75 h H locs hP hS ls hl
                subst ek73
                refine lv_iconst (v := 0) hx hb dX7_solve_245 (by decide) ?_
                exact W.iret (v := 0) hx hb hr (fun t9 ht9 hW9 => ⟨⟨0, (I74, G, A75, L), rfl, by cases h; exact ⟨rfl, rfl⟩, by rw [ht9]; exact hP, va_K.moved hW9.alike hK⟩, hS.F ht9⟩) hS.2.2 dX7_solve_246
              have lp62 : ∀ (n : Nat) (v63 : Int32) (I64 : Nat → Nat → Int32) (A65 : Nat → Nat → Int32), f_X7_solve_L143_62 a1 a2 k66 k73 n v63 I64 A65 = some (r0, I0, A0) → ∀ (H : Heap) (locs : List Loc), va_P D vwCl (VW K ad I64 G A65 L) H → va_S (vF ad s.heap.size) s.heap H locs → ∀ (ls : Array Slot), lv_has ls 6 [(3, .int v63), (0, .ref (ad 318)), (1, .int a1), (2, .int a2)] → W p l e ({ frames := 7, cells := 0, slots := 0, locals := 199 }) s m ([.ref (ad 318), .int a1, .int a2] : List Value).toArray below meth c H locs 0 0 (MQ below (va_Qi (fun (r : Int32) (u : Mem) => r = r0 ∧ u = (I0, G, A0, L)) (vB D K ad) (vF ad s.heap.size)) ([.ref (ad 318), .int a1, .int a2] : List Value).toArray s 0 0 (vF ad s.heap.size)) (F0 m 143 ls []) := by
                intro n
                induction n with
                | zero => intro v63 I64 A65 h; exact absurd h (by rw [f_X7_solve_L143_62]; exact nofun)
                | succ n ih62 =>
                  intro v63 I64 A65 h H locs hP hS ls hl
                  rw [f_X7_solve_L143_62] at h
                  refine lv_iload_n hx hb dX7_solve_143 rfl (lv_at hl 0 rfl) ?_
                  refine lv_iload_n hx hb dX7_solve_144 rfl (lv_at hl 3 rfl) ?_
                  refine lv_icmp_ge (tgt := 245) hx hb dX7_solve_145 (by decide) (fun c_76 => ?_) (fun c_76 => ?_)
                  · have h := iN (Int32.not_lt.mpr c_76) h
                    exact kk73 I64 A65 h _ _ hP hS ls (lv_sub hl [] rfl)
                  · have h := ip (Int32.not_le.mp c_76) h
                    refine lv_aload_n hx hb dX7_solve_148 rfl (lv_at hl 1 rfl) ?_
                    refine vgI hx hb hts hi7 hown hK hP (318) (by decide) (show kd 318 = 7 by decide) (C := RX7) (T := TX7) (N := 79) rfl 28 (by decide) (by decide) (by decide) (by decide) (hts (.fieldLink RX7 310 "CrateHelpersModel" "turns" "I") (by decide +kernel)) (fun _ h9 => h9) dX7_solve_149 ?_
                    refine lv_aload_n hx hb dX7_solve_152 rfl (lv_at hl 1 rfl) ?_
                    refine vgI hx hb hts hi7 hown hK hP (318) (by decide) (show kd 318 = 7 by decide) (C := RX7) (T := TX7) (N := 79) rfl 18 (by decide) (by decide) (by decide) (by decide) (hts (.fieldLink RX7 243 "CrateHelpersModel" "scheduled" "I") (by decide +kernel)) (fun _ h9 => h9) dX7_solve_153 ?_
                    obtain ⟨j80, ej80, h⟩ := bd_e h
                    have kj80 : ∀ (z79 : Int32), j80 z79 = some (r0, I0, A0) → ∀ (H : Heap) (locs : List Loc), va_P D vwCl (VW K ad I64 G A65 L) H → va_S (vF ad s.heap.size) s.heap H locs → ∀ (ls : Array Slot), lv_has ls 6 [(3, .int v63), (0, .ref (ad 318)), (1, .int a1), (2, .int a2)] → W p l e ({ frames := 7, cells := 0, slots := 0, locals := 199 }) s m ([.ref (ad 318), .int a1, .int a2] : List Value).toArray below meth c H locs 0 0 (MQ below (va_Qi (fun (r : Int32) (u : Mem) => r = r0 ∧ u = (I0, G, A0, L)) (vB D K ad) (vF ad s.heap.size)) ([.ref (ad 318), .int a1, .int a2] : List Value).toArray s 0 0 (vF ad s.heap.size)) (F0 m 185 ls [.int z79]) := by
                      intro z79 h H locs hP hS ls hl
                      subst ej80
                      refine lv_istore (lv' := [(4, .int z79), (3, .int v63), (0, .ref (ad 318)), (1, .int a1), (2, .int a2)]) hx hb dX7_solve_185 hl (by decide) rfl (fun ls hl => ?_)
                      refine lv_aload_n hx hb dX7_solve_187 rfl (lv_at hl 2 rfl) ?_
                      refine lv_dup hx hb dX7_solve_188 rfl ?_
                      refine vgI hx hb hts hi7 hown hK hP (318) (by decide) (show kd 318 = 7 by decide) (C := RX7) (T := TX7) (N := 79) rfl 28 (by decide) (by decide) (by decide) (by decide) (hts (.fieldLink RX7 310 "CrateHelpersModel" "turns" "I") (by decide +kernel)) (fun _ h9 => h9) dX7_solve_189 ?_
                      refine lv_iconst (v := 1) hx hb dX7_solve_192 (by decide) ?_
                      refine lv_iadd hx hb dX7_solve_193 ?_
                      refine vpI (v := ((I64 318 28) + 1)) (ty := .int) hx hb hts hi7 tyX7 tyX7_ok nmX7 hown hK hP hap hS (318) (by decide) (show kd 318 = 7 by decide) (C := RX7) (T := TX7) (N := 79) rfl 28 (by decide) (by decide) (by decide) (by decide) (hts (.fieldLink RX7 310 "CrateHelpersModel" "turns" "I") (by decide +kernel)) (fun _ h9 => h9) rfl (by decide +kernel) rfl rfl dX7_solve_194 (fun H locs hP hS => ?_)
                      obtain ⟨I81, eI81, h⟩ := bd_e h
                      rw [← eI81] at hP
                      have hP : va_P D vwCl (VW K ad I81 G A65 L) H := hP
                      refine lv_aload_n hx hb dX7_solve_197 rfl (lv_at hl 2 rfl) ?_
                      refine lv_iload_n hx hb dX7_solve_198 rfl (lv_at hl 3 rfl) ?_
                      refine lv_iload hx hb dX7_solve_199 (lv_at hl 0 rfl) ?_
                      refine lv_aload_n hx hb dX7_solve_201 rfl (lv_at hl 2 rfl) ?_
                      refine vgI hx hb hts hi7 hown hK hP (318) (by decide) (show kd 318 = 7 by decide) (C := RX7) (T := TX7) (N := 79) rfl 15 (by decide) (by decide) (by decide) (by decide) (hts (.fieldLink RX7 43 "CrateHelpersModel" "helpers" "I") (by decide +kernel)) (fun _ h9 => h9) dX7_solve_202 ?_
                      refine lv_icmp_ge (tgt := 213) hx hb dX7_solve_205 (by decide) (fun c_82 => ?_) (fun c_82 => ?_)
                      · have h := iN (Int32.not_lt.mpr c_82) h
                        refine lv_iconst (v := 0) hx hb dX7_solve_213 (by decide) ?_
                        obtain ⟨⟨I83, A84⟩, hc85, h⟩ := Option.bind_eq_some_iff.mp h
                        refine ecVv (As := [.int a1, .int 0]) (rest := []) ⟨hx, hb, hml, hown, hts⟩ (e_X7_turnOf l D K ad hap0 a1 0 I81 G A65 L I83 A84 hc85) (cwV 2 hts gX7_solve_X7_turnOf rfl rfl rfl (by decide +kernel) ⟨Nat.le_of_ble_eq_true rfl, Nat.le_of_ble_eq_true rfl⟩) hK hP hS (by decide) (show kd 318 = 7 by decide) (by decide) rfl rfl rfl hl.1 (Nat.le_of_ble_eq_true rfl) (Nat.le_of_ble_eq_true rfl) (Nat.le_of_ble_eq_true rfl) dX7_solve_214 (fun H locs hP hS => ?_) rfl
                        have hP : va_P D vwCl (VW K ad I83 G A84 L) H := hP
                        refine lv_aload_n hx hb dX7_solve_217 rfl (lv_at hl 2 rfl) ?_
                        refine lv_iload_n hx hb dX7_solve_218 rfl (lv_at hl 3 rfl) ?_
                        obtain ⟨⟨r86, I87, A88⟩, hc89, h⟩ := Option.bind_eq_some_iff.mp h
                        refine ecV (As := [.int a1]) (rest := []) ⟨hx, hb, hml, hown, hts⟩ (e_X7_walks l D K ad hap0 a1 I83 G A84 L r86 I87 A88 hc89) (cwV 1 hts gX7_solve_X7_walks rfl rfl rfl (by decide +kernel) ⟨Nat.le_of_ble_eq_true rfl, Nat.le_of_ble_eq_true rfl⟩) hK hP hS (by decide) (show kd 318 = 7 by decide) (by decide) rfl rfl rfl hl.1 (Nat.le_of_ble_eq_true rfl) (Nat.le_of_ble_eq_true rfl) (Nat.le_of_ble_eq_true rfl) dX7_solve_219 (fun H locs hP hS => ?_) rfl
                        have hP : va_P D vwCl (VW K ad I87 G A88 L) H := hP
                        refine lv_istore (lv' := [(5, .int r86), (4, .int z79), (3, .int v63), (0, .ref (ad 318)), (1, .int a1), (2, .int a2)]) hx hb dX7_solve_222 hl (by decide) rfl (fun ls hl => ?_)
                        refine lv_iload hx hb dX7_solve_224 (lv_at hl 0 rfl) ?_
                        refine lv_if_le (tgt := 239) hx hb dX7_solve_226 (by decide) (fun c_90 => ?_) (fun c_90 => ?_)
                        · have h := iN (Int32.not_lt.mpr c_90) h
                          refine lv_iinc (v := (v63 + 1)) (lv' := [(3, .int (v63 + 1)), (5, .int r86), (4, .int z79), (0, .ref (ad 318)), (1, .int a1), (2, .int a2)]) hx hb dX7_solve_239 hl (k := 2) rfl rfl (by decide) rfl (fun ls hl => ?_)
                          refine lv_goto (tgt := 143) hx hb dX7_solve_242 (by decide) ?_
                          exact ih62 (v63 + 1) I87 A88 h _ _ hP hS ls (lv_sub hl [0, 3, 4, 5] rfl)
                        · have h := ip (Int32.not_le.mp c_90) h
                          exact kk66 r86 I87 A88 h _ _ hP hS ls (lv_sub hl [3, 4, 0] rfl)
                      · have h := ip (Int32.not_le.mp c_82) h
                        refine lv_iload hx hb dX7_solve_208 (lv_at hl 0 rfl) ?_
                        refine lv_goto (tgt := 214) hx hb dX7_solve_210 (by decide) ?_
                        obtain ⟨⟨I91, A92⟩, hc93, h⟩ := Option.bind_eq_some_iff.mp h
                        refine ecVv (As := [.int a1, .int z79]) (rest := []) ⟨hx, hb, hml, hown, hts⟩ (e_X7_turnOf l D K ad hap0 a1 z79 I81 G A65 L I91 A92 hc93) (cwV 2 hts gX7_solve_X7_turnOf rfl rfl rfl (by decide +kernel) ⟨Nat.le_of_ble_eq_true rfl, Nat.le_of_ble_eq_true rfl⟩) hK hP hS (by decide) (show kd 318 = 7 by decide) (by decide) rfl rfl rfl hl.1 (Nat.le_of_ble_eq_true rfl) (Nat.le_of_ble_eq_true rfl) (Nat.le_of_ble_eq_true rfl) dX7_solve_214 (fun H locs hP hS => ?_) rfl
                        have hP : va_P D vwCl (VW K ad I91 G A92 L) H := hP
                        refine lv_aload_n hx hb dX7_solve_217 rfl (lv_at hl 2 rfl) ?_
                        refine lv_iload_n hx hb dX7_solve_218 rfl (lv_at hl 3 rfl) ?_
                        obtain ⟨⟨r94, I95, A96⟩, hc97, h⟩ := Option.bind_eq_some_iff.mp h
                        refine ecV (As := [.int a1]) (rest := []) ⟨hx, hb, hml, hown, hts⟩ (e_X7_walks l D K ad hap0 a1 I91 G A92 L r94 I95 A96 hc97) (cwV 1 hts gX7_solve_X7_walks rfl rfl rfl (by decide +kernel) ⟨Nat.le_of_ble_eq_true rfl, Nat.le_of_ble_eq_true rfl⟩) hK hP hS (by decide) (show kd 318 = 7 by decide) (by decide) rfl rfl rfl hl.1 (Nat.le_of_ble_eq_true rfl) (Nat.le_of_ble_eq_true rfl) (Nat.le_of_ble_eq_true rfl) dX7_solve_219 (fun H locs hP hS => ?_) rfl
                        have hP : va_P D vwCl (VW K ad I95 G A96 L) H := hP
                        refine lv_istore (lv' := [(5, .int r94), (4, .int z79), (3, .int v63), (0, .ref (ad 318)), (1, .int a1), (2, .int a2)]) hx hb dX7_solve_222 hl (by decide) rfl (fun ls hl => ?_)
                        refine lv_iload hx hb dX7_solve_224 (lv_at hl 0 rfl) ?_
                        refine lv_if_le (tgt := 239) hx hb dX7_solve_226 (by decide) (fun c_98 => ?_) (fun c_98 => ?_)
                        · have h := iN (Int32.not_lt.mpr c_98) h
                          refine lv_iinc (v := (v63 + 1)) (lv' := [(3, .int (v63 + 1)), (5, .int r94), (4, .int z79), (0, .ref (ad 318)), (1, .int a1), (2, .int a2)]) hx hb dX7_solve_239 hl (k := 2) rfl rfl (by decide) rfl (fun ls hl => ?_)
                          refine lv_goto (tgt := 143) hx hb dX7_solve_242 (by decide) ?_
                          exact ih62 (v63 + 1) I95 A96 h _ _ hP hS ls (lv_sub hl [0, 3, 4, 5] rfl)
                        · have h := ip (Int32.not_le.mp c_98) h
                          exact kk66 r94 I95 A96 h _ _ hP hS ls (lv_sub hl [3, 4, 0] rfl)
                    refine lv_icmp_ge (tgt := 171) hx hb dX7_solve_156 (by decide) (fun c_99 => ?_) (fun c_99 => ?_)
                    · have h := iN (Int32.not_lt.mpr c_99) h
                      refine lv_aload_n hx hb dX7_solve_171 rfl (lv_at hl 1 rfl) ?_
                      refine vgI hx hb hts hi7 hown hK hP (318) (by decide) (show kd 318 = 7 by decide) (C := RX7) (T := TX7) (N := 79) rfl 28 (by decide) (by decide) (by decide) (by decide) (hts (.fieldLink RX7 310 "CrateHelpersModel" "turns" "I") (by decide +kernel)) (fun _ h9 => h9) dX7_solve_172 ?_
                      refine lv_aload_n hx hb dX7_solve_175 rfl (lv_at hl 1 rfl) ?_
                      refine vgI hx hb hts hi7 hown hK hP (318) (by decide) (show kd 318 = 7 by decide) (C := RX7) (T := TX7) (N := 79) rfl 18 (by decide) (by decide) (by decide) (by decide) (hts (.fieldLink RX7 243 "CrateHelpersModel" "scheduled" "I") (by decide +kernel)) (fun _ h9 => h9) dX7_solve_176 ?_
                      refine lv_isub hx hb dX7_solve_179 ?_
                      refine lv_aload_n hx hb dX7_solve_180 rfl (lv_at hl 1 rfl) ?_
                      refine vgI hx hb hts hi7 hown hK hP (318) (by decide) (show kd 318 = 7 by decide) (C := RX7) (T := TX7) (N := 79) rfl 15 (by decide) (by decide) (by decide) (by decide) (hts (.fieldLink RX7 43 "CrateHelpersModel" "helpers" "I") (by decide +kernel)) (fun _ h9 => h9) dX7_solve_181 ?_
                      obtain ⟨hz100, h⟩ := gk h
                      refine lv_irem hx hb dX7_solve_184 hz100 ?_
                      exact kj80 (((I64 318 28) - (I64 318 18)) - ((I64 318 28) - (I64 318 18)) / (I64 318 15) * (I64 318 15)) h _ _ hP hS ls (lv_sub hl [0, 1, 2, 3] rfl)
                    · have h := ip (Int32.not_le.mp c_99) h
                      refine lv_aload_n hx hb dX7_solve_159 rfl (lv_at hl 1 rfl) ?_
                      refine vgC hx hb hts hi7 hown hK hP (318) (by decide) (show kd 318 = 7 by decide) (C := RX7) (T := TX7) (N := 79) rfl 17 (by decide) (by decide) (by decide) (by decide) (331) rfl (hts (.fieldLink RX7 50 "CrateHelpersModel" "schedule" "[I") (by decide +kernel)) (fun _ h9 => h9) dX7_solve_160 ?_
                      refine lv_aload_n hx hb dX7_solve_163 rfl (lv_at hl 1 rfl) ?_
                      refine vgI hx hb hts hi7 hown hK hP (318) (by decide) (show kd 318 = 7 by decide) (C := RX7) (T := TX7) (N := 79) rfl 28 (by decide) (by decide) (by decide) (by decide) (hts (.fieldLink RX7 310 "CrateHelpersModel" "turns" "I") (by decide +kernel)) (fun _ h9 => h9) dX7_solve_164 ?_
                      obtain ⟨hn101, h⟩ := gk h
                      refine xiald hx hb hK hP (331) (by decide) (show kd 331 = 8 by decide) (by rw [show ln 331 = 200 by decide]; exact hn101) dX7_solve_167 ?_
                      refine lv_goto (tgt := 185) hx hb dX7_solve_168 (by decide) ?_
                      exact kj80 (A65 331 ((I64 318 28).toNatClampNeg)) h _ _ hP hS ls (lv_sub hl [0, 1, 2, 3] rfl)
              exact lp62 FU 0 I58 A59 h _ _ hP hS ls (lv_sub hl [0, 1, 2, 3] rfl)
            · have h := ip c_61 h
              refine lv_aload_n hx hb dX7_solve_133 rfl (lv_at hl 0 rfl) ?_
              refine lv_iload_n hx hb dX7_solve_134 rfl (lv_at hl 1 rfl) ?_
              refine lv_iconst (v := 2) hx hb dX7_solve_135 (by decide) ?_
              obtain ⟨⟨I102, A103⟩, hc104, h⟩ := Option.bind_eq_some_iff.mp h
              refine ecVv (As := [.int a1, .int 2]) (rest := []) ⟨hx, hb, hml, hown, hts⟩ (e_X7_endsAs l D K ad hap0 a1 2 I58 G A59 L I102 A103 hc104) (cwV 2 hts gX7_solve_X7_endsAs rfl rfl rfl (by decide +kernel) ⟨Nat.le_of_ble_eq_true rfl, Nat.le_of_ble_eq_true rfl⟩) hK hP hS (by decide) (show kd 318 = 7 by decide) (by decide) rfl rfl rfl hl.1 (Nat.le_of_ble_eq_true rfl) (Nat.le_of_ble_eq_true rfl) (Nat.le_of_ble_eq_true rfl) dX7_solve_136 (fun H locs hP hS => ?_) rfl
              have hP : va_P D vwCl (VW K ad I102 G A103 L) H := hP
              refine lv_iconst (v := 2) hx hb dX7_solve_139 (by decide) ?_
              exact W.iret (v := 2) hx hb hr (fun t9 ht9 hW9 => ⟨⟨2, (I102, G, A103, L), rfl, by cases h; exact ⟨rfl, rfl⟩, by rw [ht9]; exact hP, va_K.moved hW9.alike hK⟩, hS.F ht9⟩) hS.2.2 dX7_solve_140
          have lp53 : ∀ (n : Nat) (v54 : Int32) (A55 : Nat → Nat → Int32), f_X7_solve_L75 a1 a2 I52 k56 n v54 A55 = some (r0, I0, A0) → ∀ (H : Heap) (locs : List Loc), va_P D vwCl (VW K ad I52 G A55 L) H → va_S (vF ad s.heap.size) s.heap H locs → ∀ (ls : Array Slot), lv_has ls 6 [(3, .int v54), (0, .ref (ad 318)), (1, .int a1), (2, .int a2)] → W p l e ({ frames := 7, cells := 0, slots := 0, locals := 199 }) s m ([.ref (ad 318), .int a1, .int a2] : List Value).toArray below meth c H locs 0 0 (MQ below (va_Qi (fun (r : Int32) (u : Mem) => r = r0 ∧ u = (I0, G, A0, L)) (vB D K ad) (vF ad s.heap.size)) ([.ref (ad 318), .int a1, .int a2] : List Value).toArray s 0 0 (vF ad s.heap.size)) (F0 m 75 ls []) := by
            intro n
            induction n with
            | zero => intro v54 A55 h; exact absurd h (by rw [f_X7_solve_L75]; exact nofun)
            | succ n ih53 =>
              intro v54 A55 h H locs hP hS ls hl
              rw [f_X7_solve_L75] at h
              refine lv_iload_n hx hb dX7_solve_75 rfl (lv_at hl 0 rfl) ?_
              refine lv_iconst (v := 5) hx hb dX7_solve_76 (by decide) ?_
              refine lv_icmp_ge (tgt := 120) hx hb dX7_solve_77 (by decide) (fun c_105 => ?_) (fun c_105 => ?_)
              · have h := iN (Int32.not_lt.mpr c_105) h
                exact kk56 A55 h _ _ hP hS ls (lv_sub hl [1, 2, 3] rfl)
              · have h := ip (Int32.not_le.mp c_105) h
                refine lv_aload_n hx hb dX7_solve_80 rfl (lv_at hl 1 rfl) ?_
                refine vgC hx hb hts hi7 hown hK hP (318) (by decide) (show kd 318 = 7 by decide) (C := RX7) (T := TX7) (N := 79) rfl 25 (by decide) (by decide) (by decide) (by decide) (335) rfl (hts (.fieldLink RX7 65 "CrateHelpersModel" "failNow" "[I") (by decide +kernel)) (fun _ h9 => h9) dX7_solve_81 ?_
                refine lv_iload_n hx hb dX7_solve_84 rfl (lv_at hl 0 rfl) ?_
                refine lv_aload_n hx hb dX7_solve_85 rfl (lv_at hl 1 rfl) ?_
                refine vgC hx hb hts hi7 hown hK hP (318) (by decide) (show kd 318 = 7 by decide) (C := RX7) (T := TX7) (N := 79) rfl 16 (by decide) (by decide) (by decide) (by decide) (330) rfl (hts (.fieldLink RX7 47 "CrateHelpersModel" "failAt" "[I") (by decide +kernel)) (fun _ h9 => h9) dX7_solve_86 ?_
                refine lv_iload_n hx hb dX7_solve_89 rfl (lv_at hl 0 rfl) ?_
                obtain ⟨hn106, h⟩ := gk h
                refine xiald hx hb hK hP (330) (by decide) (show kd 330 = 8 by decide) (by rw [show ln 330 = 5 by decide]; exact hn106) dX7_solve_90 ?_
                refine xiast hx hb hK hP hap hS (335) (by decide) (show kd 335 = 8 by decide) (by rw [show ln 335 = 5 by decide]; exact hn106) dX7_solve_91 (fun H locs hP hS => ?_)
                obtain ⟨A107, eA107, h⟩ := bd_e h
                rw [← eA107] at hP
                have hP : va_P D vwCl (VW K ad I52 G A107 L) H := hP
                refine lv_aload_n hx hb dX7_solve_92 rfl (lv_at hl 1 rfl) ?_
                refine vgC hx hb hts hi7 hown hK hP (318) (by decide) (show kd 318 = 7 by decide) (C := RX7) (T := TX7) (N := 79) rfl 26 (by decide) (by decide) (by decide) (by decide) (336) rfl (hts (.fieldLink RX7 68 "CrateHelpersModel" "hadNow" "[I") (by decide +kernel)) (fun _ h9 => h9) dX7_solve_93 ?_
                refine lv_iload_n hx hb dX7_solve_96 rfl (lv_at hl 0 rfl) ?_
                refine lv_iconst (v := 0) hx hb dX7_solve_97 (by decide) ?_
                refine xiast hx hb hK hP hap hS (336) (by decide) (show kd 336 = 8 by decide) (by rw [show ln 336 = 5 by decide]; exact hn106) dX7_solve_98 (fun H locs hP hS => ?_)
                obtain ⟨A108, eA108, h⟩ := bd_e h
                rw [← eA108] at hP
                have hP : va_P D vwCl (VW K ad I52 G A108 L) H := hP
                refine lv_aload_n hx hb dX7_solve_99 rfl (lv_at hl 1 rfl) ?_
                refine vgC hx hb hts hi7 hown hK hP (318) (by decide) (show kd 318 = 7 by decide) (C := RX7) (T := TX7) (N := 79) rfl 22 (by decide) (by decide) (by decide) (by decide) (334) rfl (hts (.fieldLink RX7 59 "CrateHelpersModel" "didNow" "[I") (by decide +kernel)) (fun _ h9 => h9) dX7_solve_100 ?_
                refine lv_iload_n hx hb dX7_solve_103 rfl (lv_at hl 0 rfl) ?_
                refine lv_iconst (v := 0) hx hb dX7_solve_104 (by decide) ?_
                refine xiast hx hb hK hP hap hS (334) (by decide) (show kd 334 = 8 by decide) (by rw [show ln 334 = 5 by decide]; exact hn106) dX7_solve_105 (fun H locs hP hS => ?_)
                obtain ⟨A109, eA109, h⟩ := bd_e h
                rw [← eA109] at hP
                have hP : va_P D vwCl (VW K ad I52 G A109 L) H := hP
                refine lv_aload_n hx hb dX7_solve_106 rfl (lv_at hl 1 rfl) ?_
                refine vgC hx hb hts hi7 hown hK hP (318) (by decide) (show kd 318 = 7 by decide) (C := RX7) (T := TX7) (N := 79) rfl 27 (by decide) (by decide) (by decide) (by decide) (337) rfl (hts (.fieldLink RX7 71 "CrateHelpersModel" "holds" "[I") (by decide +kernel)) (fun _ h9 => h9) dX7_solve_107 ?_
                refine lv_iload_n hx hb dX7_solve_110 rfl (lv_at hl 0 rfl) ?_
                refine lv_bipush (v := (-9)) hx hb dX7_solve_111 (by decide) ?_
                refine xiast hx hb hK hP hap hS (337) (by decide) (show kd 337 = 8 by decide) (by rw [show ln 337 = 5 by decide]; exact hn106) dX7_solve_113 (fun H locs hP hS => ?_)
                obtain ⟨A110, eA110, h⟩ := bd_e h
                rw [← eA110] at hP
                have hP : va_P D vwCl (VW K ad I52 G A110 L) H := hP
                refine lv_iinc (v := (v54 + 1)) (lv' := [(3, .int (v54 + 1)), (0, .ref (ad 318)), (1, .int a1), (2, .int a2)]) hx hb dX7_solve_114 hl (k := 0) rfl rfl (by decide) rfl (fun ls hl => ?_)
                refine lv_goto (tgt := 75) hx hb dX7_solve_117 (by decide) ?_
                exact ih53 (v54 + 1) A110 h _ _ hP hS ls (lv_sub hl [0, 1, 2, 3] rfl)
          exact lp53 FU 0 A h _ _ hP hS ls (lv_sub hl [0, 1, 2, 3] rfl)
      · have h := iN c_8 h
        refine lv_aload_n hx hb dX7_solve_35 rfl (lv_at hl 0 rfl) ?_
        refine vgI hx hb hts hi7 hown hK hP (318) (by decide) (show kd 318 = 7 by decide) (C := RX7) (T := TX7) (N := 79) rfl 23 (by decide) (by decide) (by decide) (by decide) (hts (.fieldLink RX7 62 "CrateHelpersModel" "under" "I") (by decide +kernel)) (fun _ h9 => h9) dX7_solve_36 ?_
        refine lv_iload_n hx hb dX7_solve_39 rfl (lv_at hl 1 rfl) ?_
        refine lv_icmp_eq (tgt := 46) hx hb dX7_solve_40 (by decide) (fun c_111 => ?_) (fun c_111 => ?_)
        · have h := ip c_111 h
          refine lv_aload_n hx hb dX7_solve_46 rfl (lv_at hl 0 rfl) ?_
          refine vgI hx hb hts hi7 hown hK hP (318) (by decide) (show kd 318 = 7 by decide) (C := RX7) (T := TX7) (N := 79) rfl 23 (by decide) (by decide) (by decide) (by decide) (hts (.fieldLink RX7 62 "CrateHelpersModel" "under" "I") (by decide +kernel)) (fun _ h9 => h9) dX7_solve_47 ?_
          refine lv_bipush (v := (-9)) hx hb dX7_solve_50 (by decide) ?_
          refine lv_icmp_ne (tgt := 141) hx hb dX7_solve_52 (by decide) (fun c_112 => ?_) (fun c_112 => ?_)
          · have h := iN c_112 h
            refine lv_iconst (v := 0) hx hb dX7_solve_141 (by decide) ?_
            refine lv_istore_n (lv' := [(3, .int 0), (0, .ref (ad 318)), (1, .int a1), (2, .int a2)]) hx hb dX7_solve_142 rfl hl (by decide) rfl (fun ls hl => ?_)
            obtain ⟨k117, ek117, h⟩ := bd_e h
            have kk117 : ∀ (v118 : Int32) (I119 : Nat → Nat → Int32) (A120 : Nat → Nat → Int32), k117 v118 I119 A120 = some (r0, I0, A0) → ∀ (H : Heap) (locs : List Loc), va_P D vwCl (VW K ad I119 G A120 L) H → va_S (vF ad s.heap.size) s.heap H locs → ∀ (ls : Array Slot), lv_has ls 6 [(0, .ref (ad 318)), (1, .int a1), (5, .int v118)] → W p l e ({ frames := 7, cells := 0, slots := 0, locals := 199 }) s m ([.ref (ad 318), .int a1, .int a2] : List Value).toArray below meth c H locs 0 0 (MQ below (va_Qi (fun (r : Int32) (u : Mem) => r = r0 ∧ u = (I0, G, A0, L)) (vB D K ad) (vF ad s.heap.size)) ([.ref (ad 318), .int a1, .int a2] : List Value).toArray s 0 0 (vF ad s.heap.size)) (F0 m 229 ls []) := by
              intro v118 I119 A120 h H locs hP hS ls hl
              subst ek117
              refine lv_aload_n hx hb dX7_solve_229 rfl (lv_at hl 0 rfl) ?_
              refine lv_iload_n hx hb dX7_solve_230 rfl (lv_at hl 1 rfl) ?_
              refine lv_iload hx hb dX7_solve_231 (lv_at hl 2 rfl) ?_
              obtain ⟨⟨I121, A122⟩, hc123, h⟩ := Option.bind_eq_some_iff.mp h
              refine ecVv (As := [.int a1, .int v118]) (rest := []) ⟨hx, hb, hml, hown, hts⟩ (e_X7_endsAs l D K ad hap0 a1 v118 I119 G A120 L I121 A122 hc123) (cwV 2 hts gX7_solve_X7_endsAs rfl rfl rfl (by decide +kernel) ⟨Nat.le_of_ble_eq_true rfl, Nat.le_of_ble_eq_true rfl⟩) hK hP hS (by decide) (show kd 318 = 7 by decide) (by decide) rfl rfl rfl hl.1 (Nat.le_of_ble_eq_true rfl) (Nat.le_of_ble_eq_true rfl) (Nat.le_of_ble_eq_true rfl) dX7_solve_233 (fun H locs hP hS => ?_) rfl
              have hP : va_P D vwCl (VW K ad I121 G A122 L) H := hP
              refine lv_iload hx hb dX7_solve_236 (lv_at hl 2 rfl) ?_
              exact W.iret (v := v118) hx hb hr (fun t9 ht9 hW9 => ⟨⟨v118, (I121, G, A122, L), rfl, by cases h; exact ⟨rfl, rfl⟩, by rw [ht9]; exact hP, va_K.moved hW9.alike hK⟩, hS.F ht9⟩) hS.2.2 dX7_solve_238
            obtain ⟨k124, ek124, h⟩ := bd_e h
            have kk124 : ∀ (I125 : Nat → Nat → Int32) (A126 : Nat → Nat → Int32), k124 I125 A126 = some (r0, I0, A0) → ∀ (H : Heap) (locs : List Loc), va_P D vwCl (VW K ad I125 G A126 L) H → va_S (vF ad s.heap.size) s.heap H locs → ∀ (ls : Array Slot), lv_has ls 6 [] → W p l e ({ frames := 7, cells := 0, slots := 0, locals := 199 }) s m ([.ref (ad 318), .int a1, .int a2] : List Value).toArray below meth c H locs 0 0 (MQ below (va_Qi (fun (r : Int32) (u : Mem) => r = r0 ∧ u = (I0, G, A0, L)) (vB D K ad) (vF ad s.heap.size)) ([.ref (ad 318), .int a1, .int a2] : List Value).toArray s 0 0 (vF ad s.heap.size)) (F0 m 245 ls []) := by
              intro I125 A126 h H locs hP hS ls hl
              subst ek124
              refine lv_iconst (v := 0) hx hb dX7_solve_245 (by decide) ?_
              exact W.iret (v := 0) hx hb hr (fun t9 ht9 hW9 => ⟨⟨0, (I125, G, A126, L), rfl, by cases h; exact ⟨rfl, rfl⟩, by rw [ht9]; exact hP, va_K.moved hW9.alike hK⟩, hS.F ht9⟩) hS.2.2 dX7_solve_246
            have lp113 : ∀ (n : Nat) (v114 : Int32) (I115 : Nat → Nat → Int32) (A116 : Nat → Nat → Int32), f_X7_solve_L143_113 a1 a2 k117 k124 n v114 I115 A116 = some (r0, I0, A0) → ∀ (H : Heap) (locs : List Loc), va_P D vwCl (VW K ad I115 G A116 L) H → va_S (vF ad s.heap.size) s.heap H locs → ∀ (ls : Array Slot), lv_has ls 6 [(3, .int v114), (0, .ref (ad 318)), (1, .int a1), (2, .int a2)] → W p l e ({ frames := 7, cells := 0, slots := 0, locals := 199 }) s m ([.ref (ad 318), .int a1, .int a2] : List Value).toArray below meth c H locs 0 0 (MQ below (va_Qi (fun (r : Int32) (u : Mem) => r = r0 ∧ u = (I0, G, A0, L)) (vB D K ad) (vF ad s.heap.size)) ([.ref (ad 318), .int a1, .int a2] : List Value).toArray s 0 0 (vF ad s.heap.size)) (F0 m 143 ls []) := by
              intro n
              induction n with
              | zero => intro v114 I115 A116 h; exact absurd h (by rw [f_X7_solve_L143_113]; exact nofun)
              | succ n ih113 =>
                intro v114 I115 A116 h H locs hP hS ls hl
                rw [f_X7_solve_L143_113] at h
                refine lv_iload_n hx hb dX7_solve_143 rfl (lv_at hl 0 rfl) ?_
                refine lv_iload_n hx hb dX7_solve_144 rfl (lv_at hl 3 rfl) ?_
                refine lv_icmp_ge (tgt := 245) hx hb dX7_solve_145 (by decide) (fun c_127 => ?_) (fun c_127 => ?_)
                · have h := iN (Int32.not_lt.mpr c_127) h
                  exact kk124 I115 A116 h _ _ hP hS ls (lv_sub hl [] rfl)
                · have h := ip (Int32.not_le.mp c_127) h
                  refine lv_aload_n hx hb dX7_solve_148 rfl (lv_at hl 1 rfl) ?_
                  refine vgI hx hb hts hi7 hown hK hP (318) (by decide) (show kd 318 = 7 by decide) (C := RX7) (T := TX7) (N := 79) rfl 28 (by decide) (by decide) (by decide) (by decide) (hts (.fieldLink RX7 310 "CrateHelpersModel" "turns" "I") (by decide +kernel)) (fun _ h9 => h9) dX7_solve_149 ?_
                  refine lv_aload_n hx hb dX7_solve_152 rfl (lv_at hl 1 rfl) ?_
                  refine vgI hx hb hts hi7 hown hK hP (318) (by decide) (show kd 318 = 7 by decide) (C := RX7) (T := TX7) (N := 79) rfl 18 (by decide) (by decide) (by decide) (by decide) (hts (.fieldLink RX7 243 "CrateHelpersModel" "scheduled" "I") (by decide +kernel)) (fun _ h9 => h9) dX7_solve_153 ?_
                  obtain ⟨j131, ej131, h⟩ := bd_e h
                  have kj131 : ∀ (z130 : Int32), j131 z130 = some (r0, I0, A0) → ∀ (H : Heap) (locs : List Loc), va_P D vwCl (VW K ad I115 G A116 L) H → va_S (vF ad s.heap.size) s.heap H locs → ∀ (ls : Array Slot), lv_has ls 6 [(3, .int v114), (0, .ref (ad 318)), (1, .int a1), (2, .int a2)] → W p l e ({ frames := 7, cells := 0, slots := 0, locals := 199 }) s m ([.ref (ad 318), .int a1, .int a2] : List Value).toArray below meth c H locs 0 0 (MQ below (va_Qi (fun (r : Int32) (u : Mem) => r = r0 ∧ u = (I0, G, A0, L)) (vB D K ad) (vF ad s.heap.size)) ([.ref (ad 318), .int a1, .int a2] : List Value).toArray s 0 0 (vF ad s.heap.size)) (F0 m 185 ls [.int z130]) := by
                    intro z130 h H locs hP hS ls hl
                    subst ej131
                    refine lv_istore (lv' := [(4, .int z130), (3, .int v114), (0, .ref (ad 318)), (1, .int a1), (2, .int a2)]) hx hb dX7_solve_185 hl (by decide) rfl (fun ls hl => ?_)
                    refine lv_aload_n hx hb dX7_solve_187 rfl (lv_at hl 2 rfl) ?_
                    refine lv_dup hx hb dX7_solve_188 rfl ?_
                    refine vgI hx hb hts hi7 hown hK hP (318) (by decide) (show kd 318 = 7 by decide) (C := RX7) (T := TX7) (N := 79) rfl 28 (by decide) (by decide) (by decide) (by decide) (hts (.fieldLink RX7 310 "CrateHelpersModel" "turns" "I") (by decide +kernel)) (fun _ h9 => h9) dX7_solve_189 ?_
                    refine lv_iconst (v := 1) hx hb dX7_solve_192 (by decide) ?_
                    refine lv_iadd hx hb dX7_solve_193 ?_
                    refine vpI (v := ((I115 318 28) + 1)) (ty := .int) hx hb hts hi7 tyX7 tyX7_ok nmX7 hown hK hP hap hS (318) (by decide) (show kd 318 = 7 by decide) (C := RX7) (T := TX7) (N := 79) rfl 28 (by decide) (by decide) (by decide) (by decide) (hts (.fieldLink RX7 310 "CrateHelpersModel" "turns" "I") (by decide +kernel)) (fun _ h9 => h9) rfl (by decide +kernel) rfl rfl dX7_solve_194 (fun H locs hP hS => ?_)
                    obtain ⟨I132, eI132, h⟩ := bd_e h
                    rw [← eI132] at hP
                    have hP : va_P D vwCl (VW K ad I132 G A116 L) H := hP
                    refine lv_aload_n hx hb dX7_solve_197 rfl (lv_at hl 2 rfl) ?_
                    refine lv_iload_n hx hb dX7_solve_198 rfl (lv_at hl 3 rfl) ?_
                    refine lv_iload hx hb dX7_solve_199 (lv_at hl 0 rfl) ?_
                    refine lv_aload_n hx hb dX7_solve_201 rfl (lv_at hl 2 rfl) ?_
                    refine vgI hx hb hts hi7 hown hK hP (318) (by decide) (show kd 318 = 7 by decide) (C := RX7) (T := TX7) (N := 79) rfl 15 (by decide) (by decide) (by decide) (by decide) (hts (.fieldLink RX7 43 "CrateHelpersModel" "helpers" "I") (by decide +kernel)) (fun _ h9 => h9) dX7_solve_202 ?_
                    refine lv_icmp_ge (tgt := 213) hx hb dX7_solve_205 (by decide) (fun c_133 => ?_) (fun c_133 => ?_)
                    · have h := iN (Int32.not_lt.mpr c_133) h
                      refine lv_iconst (v := 0) hx hb dX7_solve_213 (by decide) ?_
                      obtain ⟨⟨I134, A135⟩, hc136, h⟩ := Option.bind_eq_some_iff.mp h
                      refine ecVv (As := [.int a1, .int 0]) (rest := []) ⟨hx, hb, hml, hown, hts⟩ (e_X7_turnOf l D K ad hap0 a1 0 I132 G A116 L I134 A135 hc136) (cwV 2 hts gX7_solve_X7_turnOf rfl rfl rfl (by decide +kernel) ⟨Nat.le_of_ble_eq_true rfl, Nat.le_of_ble_eq_true rfl⟩) hK hP hS (by decide) (show kd 318 = 7 by decide) (by decide) rfl rfl rfl hl.1 (Nat.le_of_ble_eq_true rfl) (Nat.le_of_ble_eq_true rfl) (Nat.le_of_ble_eq_true rfl) dX7_solve_214 (fun H locs hP hS => ?_) rfl
                      have hP : va_P D vwCl (VW K ad I134 G A135 L) H := hP
                      refine lv_aload_n hx hb dX7_solve_217 rfl (lv_at hl 2 rfl) ?_
                      refine lv_iload_n hx hb dX7_solve_218 rfl (lv_at hl 3 rfl) ?_
                      obtain ⟨⟨r137, I138, A139⟩, hc140, h⟩ := Option.bind_eq_some_iff.mp h
                      refine ecV (As := [.int a1]) (rest := []) ⟨hx, hb, hml, hown, hts⟩ (e_X7_walks l D K ad hap0 a1 I134 G A135 L r137 I138 A139 hc140) (cwV 1 hts gX7_solve_X7_walks rfl rfl rfl (by decide +kernel) ⟨Nat.le_of_ble_eq_true rfl, Nat.le_of_ble_eq_true rfl⟩) hK hP hS (by decide) (show kd 318 = 7 by decide) (by decide) rfl rfl rfl hl.1 (Nat.le_of_ble_eq_true rfl) (Nat.le_of_ble_eq_true rfl) (Nat.le_of_ble_eq_true rfl) dX7_solve_219 (fun H locs hP hS => ?_) rfl
                      have hP : va_P D vwCl (VW K ad I138 G A139 L) H := hP
                      refine lv_istore (lv' := [(5, .int r137), (4, .int z130), (3, .int v114), (0, .ref (ad 318)), (1, .int a1), (2, .int a2)]) hx hb dX7_solve_222 hl (by decide) rfl (fun ls hl => ?_)
                      refine lv_iload hx hb dX7_solve_224 (lv_at hl 0 rfl) ?_
                      refine lv_if_le (tgt := 239) hx hb dX7_solve_226 (by decide) (fun c_141 => ?_) (fun c_141 => ?_)
                      · have h := iN (Int32.not_lt.mpr c_141) h
                        refine lv_iinc (v := (v114 + 1)) (lv' := [(3, .int (v114 + 1)), (5, .int r137), (4, .int z130), (0, .ref (ad 318)), (1, .int a1), (2, .int a2)]) hx hb dX7_solve_239 hl (k := 2) rfl rfl (by decide) rfl (fun ls hl => ?_)
                        refine lv_goto (tgt := 143) hx hb dX7_solve_242 (by decide) ?_
                        exact ih113 (v114 + 1) I138 A139 h _ _ hP hS ls (lv_sub hl [0, 3, 4, 5] rfl)
                      · have h := ip (Int32.not_le.mp c_141) h
                        exact kk117 r137 I138 A139 h _ _ hP hS ls (lv_sub hl [3, 4, 0] rfl)
                    · have h := ip (Int32.not_le.mp c_133) h
                      refine lv_iload hx hb dX7_solve_208 (lv_at hl 0 rfl) ?_
                      refine lv_goto (tgt := 214) hx hb dX7_solve_210 (by decide) ?_
                      obtain ⟨⟨I142, A143⟩, hc144, h⟩ := Option.bind_eq_some_iff.mp h
                      refine ecVv (As := [.int a1, .int z130]) (rest := []) ⟨hx, hb, hml, hown, hts⟩ (e_X7_turnOf l D K ad hap0 a1 z130 I132 G A116 L I142 A143 hc144) (cwV 2 hts gX7_solve_X7_turnOf rfl rfl rfl (by decide +kernel) ⟨Nat.le_of_ble_eq_true rfl, Nat.le_of_ble_eq_true rfl⟩) hK hP hS (by decide) (show kd 318 = 7 by decide) (by decide) rfl rfl rfl hl.1 (Nat.le_of_ble_eq_true rfl) (Nat.le_of_ble_eq_true rfl) (Nat.le_of_ble_eq_true rfl) dX7_solve_214 (fun H locs hP hS => ?_) rfl
                      have hP : va_P D vwCl (VW K ad I142 G A143 L) H := hP
                      refine lv_aload_n hx hb dX7_solve_217 rfl (lv_at hl 2 rfl) ?_
                      refine lv_iload_n hx hb dX7_solve_218 rfl (lv_at hl 3 rfl) ?_
                      obtain ⟨⟨r145, I146, A147⟩, hc148, h⟩ := Option.bind_eq_some_iff.mp h
                      refine ecV (As := [.int a1]) (rest := []) ⟨hx, hb, hml, hown, hts⟩ (e_X7_walks l D K ad hap0 a1 I142 G A143 L r145 I146 A147 hc148) (cwV 1 hts gX7_solve_X7_walks rfl rfl rfl (by decide +kernel) ⟨Nat.le_of_ble_eq_true rfl, Nat.le_of_ble_eq_true rfl⟩) hK hP hS (by decide) (show kd 318 = 7 by decide) (by decide) rfl rfl rfl hl.1 (Nat.le_of_ble_eq_true rfl) (Nat.le_of_ble_eq_true rfl) (Nat.le_of_ble_eq_true rfl) dX7_solve_219 (fun H locs hP hS => ?_) rfl
                      have hP : va_P D vwCl (VW K ad I146 G A147 L) H := hP
                      refine lv_istore (lv' := [(5, .int r145), (4, .int z130), (3, .int v114), (0, .ref (ad 318)), (1, .int a1), (2, .int a2)]) hx hb dX7_solve_222 hl (by decide) rfl (fun ls hl => ?_)
                      refine lv_iload hx hb dX7_solve_224 (lv_at hl 0 rfl) ?_
                      refine lv_if_le (tgt := 239) hx hb dX7_solve_226 (by decide) (fun c_149 => ?_) (fun c_149 => ?_)
                      · have h := iN (Int32.not_lt.mpr c_149) h
                        refine lv_iinc (v := (v114 + 1)) (lv' := [(3, .int (v114 + 1)), (5, .int r145), (4, .int z130), (0, .ref (ad 318)), (1, .int a1), (2, .int a2)]) hx hb dX7_solve_239 hl (k := 2) rfl rfl (by decide) rfl (fun ls hl => ?_)
                        refine lv_goto (tgt := 143) hx hb dX7_solve_242 (by decide) ?_
                        exact ih113 (v114 + 1) I146 A147 h _ _ hP hS ls (lv_sub hl [0, 3, 4, 5] rfl)
                      · have h := ip (Int32.not_le.mp c_149) h
                        exact kk117 r145 I146 A147 h _ _ hP hS ls (lv_sub hl [3, 4, 0] rfl)
                  refine lv_icmp_ge (tgt := 171) hx hb dX7_solve_156 (by decide) (fun c_150 => ?_) (fun c_150 => ?_)
                  · have h := iN (Int32.not_lt.mpr c_150) h
                    refine lv_aload_n hx hb dX7_solve_171 rfl (lv_at hl 1 rfl) ?_
                    refine vgI hx hb hts hi7 hown hK hP (318) (by decide) (show kd 318 = 7 by decide) (C := RX7) (T := TX7) (N := 79) rfl 28 (by decide) (by decide) (by decide) (by decide) (hts (.fieldLink RX7 310 "CrateHelpersModel" "turns" "I") (by decide +kernel)) (fun _ h9 => h9) dX7_solve_172 ?_
                    refine lv_aload_n hx hb dX7_solve_175 rfl (lv_at hl 1 rfl) ?_
                    refine vgI hx hb hts hi7 hown hK hP (318) (by decide) (show kd 318 = 7 by decide) (C := RX7) (T := TX7) (N := 79) rfl 18 (by decide) (by decide) (by decide) (by decide) (hts (.fieldLink RX7 243 "CrateHelpersModel" "scheduled" "I") (by decide +kernel)) (fun _ h9 => h9) dX7_solve_176 ?_
                    refine lv_isub hx hb dX7_solve_179 ?_
                    refine lv_aload_n hx hb dX7_solve_180 rfl (lv_at hl 1 rfl) ?_
                    refine vgI hx hb hts hi7 hown hK hP (318) (by decide) (show kd 318 = 7 by decide) (C := RX7) (T := TX7) (N := 79) rfl 15 (by decide) (by decide) (by decide) (by decide) (hts (.fieldLink RX7 43 "CrateHelpersModel" "helpers" "I") (by decide +kernel)) (fun _ h9 => h9) dX7_solve_181 ?_
                    obtain ⟨hz151, h⟩ := gk h
                    refine lv_irem hx hb dX7_solve_184 hz151 ?_
                    exact kj131 (((I115 318 28) - (I115 318 18)) - ((I115 318 28) - (I115 318 18)) / (I115 318 15) * (I115 318 15)) h _ _ hP hS ls (lv_sub hl [0, 1, 2, 3] rfl)
                  · have h := ip (Int32.not_le.mp c_150) h
                    refine lv_aload_n hx hb dX7_solve_159 rfl (lv_at hl 1 rfl) ?_
                    refine vgC hx hb hts hi7 hown hK hP (318) (by decide) (show kd 318 = 7 by decide) (C := RX7) (T := TX7) (N := 79) rfl 17 (by decide) (by decide) (by decide) (by decide) (331) rfl (hts (.fieldLink RX7 50 "CrateHelpersModel" "schedule" "[I") (by decide +kernel)) (fun _ h9 => h9) dX7_solve_160 ?_
                    refine lv_aload_n hx hb dX7_solve_163 rfl (lv_at hl 1 rfl) ?_
                    refine vgI hx hb hts hi7 hown hK hP (318) (by decide) (show kd 318 = 7 by decide) (C := RX7) (T := TX7) (N := 79) rfl 28 (by decide) (by decide) (by decide) (by decide) (hts (.fieldLink RX7 310 "CrateHelpersModel" "turns" "I") (by decide +kernel)) (fun _ h9 => h9) dX7_solve_164 ?_
                    obtain ⟨hn152, h⟩ := gk h
                    refine xiald hx hb hK hP (331) (by decide) (show kd 331 = 8 by decide) (by rw [show ln 331 = 200 by decide]; exact hn152) dX7_solve_167 ?_
                    refine lv_goto (tgt := 185) hx hb dX7_solve_168 (by decide) ?_
                    exact kj131 (A116 331 ((I115 318 28).toNatClampNeg)) h _ _ hP hS ls (lv_sub hl [0, 1, 2, 3] rfl)
            exact lp113 FU 0 I1 A h _ _ hP hS ls (lv_sub hl [0, 1, 2, 3] rfl)
          · have h := ip c_112 h
            refine lv_aload_n hx hb dX7_solve_55 rfl (lv_at hl 0 rfl) ?_
            refine lv_iload_n hx hb dX7_solve_56 rfl (lv_at hl 1 rfl) ?_
            refine vpI (v := a1) (ty := .int) hx hb hts hi7 tyX7 tyX7_ok nmX7 hown hK hP hap hS (318) (by decide) (show kd 318 = 7 by decide) (C := RX7) (T := TX7) (N := 79) rfl 23 (by decide) (by decide) (by decide) (by decide) (hts (.fieldLink RX7 62 "CrateHelpersModel" "under" "I") (by decide +kernel)) (fun _ h9 => h9) rfl (by decide +kernel) rfl rfl dX7_solve_57 (fun H locs hP hS => ?_)
            obtain ⟨I153, eI153, h⟩ := bd_e h
            rw [← eI153] at hP
            have hP : va_P D vwCl (VW K ad I153 G A L) H := hP
            refine lv_aload_n hx hb dX7_solve_60 rfl (lv_at hl 0 rfl) ?_
            refine lv_aload_n hx hb dX7_solve_61 rfl (lv_at hl 0 rfl) ?_
            refine vgI hx hb hts hi7 hown hK hP (318) (by decide) (show kd 318 = 7 by decide) (C := RX7) (T := TX7) (N := 79) rfl 19 (by decide) (by decide) (by decide) (by decide) (hts (.fieldLink RX7 246 "CrateHelpersModel" "limit" "I") (by decide +kernel)) (fun _ h9 => h9) dX7_solve_62 ?_
            refine vpI (v := (I153 318 19)) (ty := .int) hx hb hts hi7 tyX7 tyX7_ok nmX7 hown hK hP hap hS (318) (by decide) (show kd 318 = 7 by decide) (C := RX7) (T := TX7) (N := 79) rfl 24 (by decide) (by decide) (by decide) (by decide) (hts (.fieldLink RX7 319 "CrateHelpersModel" "limitNow" "I") (by decide +kernel)) (fun _ h9 => h9) rfl (by decide +kernel) rfl rfl dX7_solve_65 (fun H locs hP hS => ?_)
            obtain ⟨I154, eI154, h⟩ := bd_e h
            rw [← eI154] at hP
            have hP : va_P D vwCl (VW K ad I154 G A L) H := hP
            refine lv_aload_n hx hb dX7_solve_68 rfl (lv_at hl 0 rfl) ?_
            refine lv_iconst (v := 0) hx hb dX7_solve_69 (by decide) ?_
            refine vpI (v := 0) (ty := .int) hx hb hts hi7 tyX7 tyX7_ok nmX7 hown hK hP hap hS (318) (by decide) (show kd 318 = 7 by decide) (C := RX7) (T := TX7) (N := 79) rfl 28 (by decide) (by decide) (by decide) (by decide) (hts (.fieldLink RX7 310 "CrateHelpersModel" "turns" "I") (by decide +kernel)) (fun _ h9 => h9) rfl (by decide +kernel) rfl rfl dX7_solve_70 (fun H locs hP hS => ?_)
            obtain ⟨I155, eI155, h⟩ := bd_e h
            rw [← eI155] at hP
            have hP : va_P D vwCl (VW K ad I155 G A L) H := hP
            refine lv_iconst (v := 0) hx hb dX7_solve_73 (by decide) ?_
            refine lv_istore_n (lv' := [(3, .int 0), (0, .ref (ad 318)), (1, .int a1), (2, .int a2)]) hx hb dX7_solve_74 rfl hl (by decide) rfl (fun ls hl => ?_)
            obtain ⟨k159, ek159, h⟩ := bd_e h
            have kk159 : ∀ (A160 : Nat → Nat → Int32), k159 A160 = some (r0, I0, A0) → ∀ (H : Heap) (locs : List Loc), va_P D vwCl (VW K ad I155 G A160 L) H → va_S (vF ad s.heap.size) s.heap H locs → ∀ (ls : Array Slot), lv_has ls 6 [(0, .ref (ad 318)), (1, .int a1), (2, .int a2)] → W p l e ({ frames := 7, cells := 0, slots := 0, locals := 199 }) s m ([.ref (ad 318), .int a1, .int a2] : List Value).toArray below meth c H locs 0 0 (MQ below (va_Qi (fun (r : Int32) (u : Mem) => r = r0 ∧ u = (I0, G, A0, L)) (vB D K ad) (vF ad s.heap.size)) ([.ref (ad 318), .int a1, .int a2] : List Value).toArray s 0 0 (vF ad s.heap.size)) (F0 m 120 ls []) := by
              intro A160 h H locs hP hS ls hl
              subst ek159
              refine lv_aload_n hx hb dX7_solve_120 rfl (lv_at hl 0 rfl) ?_
              refine lv_iload_n hx hb dX7_solve_121 rfl (lv_at hl 1 rfl) ?_
              refine lv_iconst (v := 1) hx hb dX7_solve_122 (by decide) ?_
              obtain ⟨⟨I161, A162⟩, hc163, h⟩ := Option.bind_eq_some_iff.mp h
              refine ecVv (As := [.int a1, .int 1]) (rest := []) ⟨hx, hb, hml, hown, hts⟩ (e_X7_begins l D K ad hap0 a1 1 I155 G A160 L I161 A162 hc163) (cwV 2 hts gX7_solve_X7_begins rfl rfl rfl (by decide +kernel) ⟨Nat.le_of_ble_eq_true rfl, Nat.le_of_ble_eq_true rfl⟩) hK hP hS (by decide) (show kd 318 = 7 by decide) (by decide) rfl rfl rfl hl.1 (Nat.le_of_ble_eq_true rfl) (Nat.le_of_ble_eq_true rfl) (Nat.le_of_ble_eq_true rfl) dX7_solve_123 (fun H locs hP hS => ?_) rfl
              have hP : va_P D vwCl (VW K ad I161 G A162 L) H := hP
              refine lv_aload_n hx hb dX7_solve_126 rfl (lv_at hl 0 rfl) ?_
              refine vgI hx hb hts hi7 hown hK hP (318) (by decide) (show kd 318 = 7 by decide) (C := RX7) (T := TX7) (N := 79) rfl 29 (by decide) (by decide) (by decide) (by decide) (hts (.fieldLink RX7 284 "CrateHelpersModel" "nodes" "I") (by decide +kernel)) (fun _ h9 => h9) dX7_solve_127 ?_
              refine lv_if_ne (tgt := 141) hx hb dX7_solve_130 (by decide) (fun c_164 => ?_) (fun c_164 => ?_)
              · have h := iN c_164 h
                refine lv_iconst (v := 0) hx hb dX7_solve_141 (by decide) ?_
                refine lv_istore_n (lv' := [(3, .int 0), (0, .ref (ad 318)), (1, .int a1), (2, .int a2)]) hx hb dX7_solve_142 rfl hl (by decide) rfl (fun ls hl => ?_)
                obtain ⟨k169, ek169, h⟩ := bd_e h
                have kk169 : ∀ (v170 : Int32) (I171 : Nat → Nat → Int32) (A172 : Nat → Nat → Int32), k169 v170 I171 A172 = some (r0, I0, A0) → ∀ (H : Heap) (locs : List Loc), va_P D vwCl (VW K ad I171 G A172 L) H → va_S (vF ad s.heap.size) s.heap H locs → ∀ (ls : Array Slot), lv_has ls 6 [(0, .ref (ad 318)), (1, .int a1), (5, .int v170)] → W p l e ({ frames := 7, cells := 0, slots := 0, locals := 199 }) s m ([.ref (ad 318), .int a1, .int a2] : List Value).toArray below meth c H locs 0 0 (MQ below (va_Qi (fun (r : Int32) (u : Mem) => r = r0 ∧ u = (I0, G, A0, L)) (vB D K ad) (vF ad s.heap.size)) ([.ref (ad 318), .int a1, .int a2] : List Value).toArray s 0 0 (vF ad s.heap.size)) (F0 m 229 ls []) := by
                  intro v170 I171 A172 h H locs hP hS ls hl
                  subst ek169
                  refine lv_aload_n hx hb dX7_solve_229 rfl (lv_at hl 0 rfl) ?_
                  refine lv_iload_n hx hb dX7_solve_230 rfl (lv_at hl 1 rfl) ?_
                  refine lv_iload hx hb dX7_solve_231 (lv_at hl 2 rfl) ?_
                  obtain ⟨⟨I173, A174⟩, hc175, h⟩ := Option.bind_eq_some_iff.mp h
                  refine ecVv (As := [.int a1, .int v170]) (rest := []) ⟨hx, hb, hml, hown, hts⟩ (e_X7_endsAs l D K ad hap0 a1 v170 I171 G A172 L I173 A174 hc175) (cwV 2 hts gX7_solve_X7_endsAs rfl rfl rfl (by decide +kernel) ⟨Nat.le_of_ble_eq_true rfl, Nat.le_of_ble_eq_true rfl⟩) hK hP hS (by decide) (show kd 318 = 7 by decide) (by decide) rfl rfl rfl hl.1 (Nat.le_of_ble_eq_true rfl) (Nat.le_of_ble_eq_true rfl) (Nat.le_of_ble_eq_true rfl) dX7_solve_233 (fun H locs hP hS => ?_) rfl
                  have hP : va_P D vwCl (VW K ad I173 G A174 L) H := hP
                  refine lv_iload hx hb dX7_solve_236 (lv_at hl 2 rfl) ?_
                  exact W.iret (v := v170) hx hb hr (fun t9 ht9 hW9 => ⟨⟨v170, (I173, G, A174, L), rfl, by cases h; exact ⟨rfl, rfl⟩, by rw [ht9]; exact hP, va_K.moved hW9.alike hK⟩, hS.F ht9⟩) hS.2.2 dX7_solve_238
                obtain ⟨k176, ek176, h⟩ := bd_e h
                have kk176 : ∀ (I177 : Nat → Nat → Int32) (A178 : Nat → Nat → Int32), k176 I177 A178 = some (r0, I0, A0) → ∀ (H : Heap) (locs : List Loc), va_P D vwCl (VW K ad I177 G A178 L) H → va_S (vF ad s.heap.size) s.heap H locs → ∀ (ls : Array Slot), lv_has ls 6 [] → W p l e ({ frames := 7, cells := 0, slots := 0, locals := 199 }) s m ([.ref (ad 318), .int a1, .int a2] : List Value).toArray below meth c H locs 0 0 (MQ below (va_Qi (fun (r : Int32) (u : Mem) => r = r0 ∧ u = (I0, G, A0, L)) (vB D K ad) (vF ad s.heap.size)) ([.ref (ad 318), .int a1, .int a2] : List Value).toArray s 0 0 (vF ad s.heap.size)) (F0 m 245 ls []) := by
                  intro I177 A178 h H locs hP hS ls hl
                  subst ek176
                  refine lv_iconst (v := 0) hx hb dX7_solve_245 (by decide) ?_
                  exact W.iret (v := 0) hx hb hr (fun t9 ht9 hW9 => ⟨⟨0, (I177, G, A178, L), rfl, by cases h; exact ⟨rfl, rfl⟩, by rw [ht9]; exact hP, va_K.moved hW9.alike hK⟩, hS.F ht9⟩) hS.2.2 dX7_solve_246
                have lp165 : ∀ (n : Nat) (v166 : Int32) (I167 : Nat → Nat → Int32) (A168 : Nat → Nat → Int32), f_X7_solve_L143_165 a1 a2 k169 k176 n v166 I167 A168 = some (r0, I0, A0) → ∀ (H : Heap) (locs : List Loc), va_P D vwCl (VW K ad I167 G A168 L) H → va_S (vF ad s.heap.size) s.heap H locs → ∀ (ls : Array Slot), lv_has ls 6 [(3, .int v166), (0, .ref (ad 318)), (1, .int a1), (2, .int a2)] → W p l e ({ frames := 7, cells := 0, slots := 0, locals := 199 }) s m ([.ref (ad 318), .int a1, .int a2] : List Value).toArray below meth c H locs 0 0 (MQ below (va_Qi (fun (r : Int32) (u : Mem) => r = r0 ∧ u = (I0, G, A0, L)) (vB D K ad) (vF ad s.heap.size)) ([.ref (ad 318), .int a1, .int a2] : List Value).toArray s 0 0 (vF ad s.heap.size)) (F0 m 143 ls []) := by
                  intro n
                  induction n with
                  | zero => intro v166 I167 A168 h; exact absurd h (by rw [f_X7_solve_L143_165]; exact nofun)
                  | succ n ih165 =>
                    intro v166 I167 A168 h H locs hP hS ls hl
                    rw [f_X7_solve_L143_165] at h
                    refine lv_iload_n hx hb dX7_solve_143 rfl (lv_at hl 0 rfl) ?_
                    refine lv_iload_n hx hb dX7_solve_144 rfl (lv_at hl 3 rfl) ?_
                    refine lv_icmp_ge (tgt := 245) hx hb dX7_solve_145 (by decide) (fun c_179 => ?_) (fun c_179 => ?_)
                    · have h := iN (Int32.not_lt.mpr c_179) h
                      exact kk176 I167 A168 h _ _ hP hS ls (lv_sub hl [] rfl)
                    · have h := ip (Int32.not_le.mp c_179) h
                      refine lv_aload_n hx hb dX7_solve_148 rfl (lv_at hl 1 rfl) ?_
                      refine vgI hx hb hts hi7 hown hK hP (318) (by decide) (show kd 318 = 7 by decide) (C := RX7) (T := TX7) (N := 79) rfl 28 (by decide) (by decide) (by decide) (by decide) (hts (.fieldLink RX7 310 "CrateHelpersModel" "turns" "I") (by decide +kernel)) (fun _ h9 => h9) dX7_solve_149 ?_
                      refine lv_aload_n hx hb dX7_solve_152 rfl (lv_at hl 1 rfl) ?_
                      refine vgI hx hb hts hi7 hown hK hP (318) (by decide) (show kd 318 = 7 by decide) (C := RX7) (T := TX7) (N := 79) rfl 18 (by decide) (by decide) (by decide) (by decide) (hts (.fieldLink RX7 243 "CrateHelpersModel" "scheduled" "I") (by decide +kernel)) (fun _ h9 => h9) dX7_solve_153 ?_
                      obtain ⟨j183, ej183, h⟩ := bd_e h
                      have kj183 : ∀ (z182 : Int32), j183 z182 = some (r0, I0, A0) → ∀ (H : Heap) (locs : List Loc), va_P D vwCl (VW K ad I167 G A168 L) H → va_S (vF ad s.heap.size) s.heap H locs → ∀ (ls : Array Slot), lv_has ls 6 [(3, .int v166), (0, .ref (ad 318)), (1, .int a1), (2, .int a2)] → W p l e ({ frames := 7, cells := 0, slots := 0, locals := 199 }) s m ([.ref (ad 318), .int a1, .int a2] : List Value).toArray below meth c H locs 0 0 (MQ below (va_Qi (fun (r : Int32) (u : Mem) => r = r0 ∧ u = (I0, G, A0, L)) (vB D K ad) (vF ad s.heap.size)) ([.ref (ad 318), .int a1, .int a2] : List Value).toArray s 0 0 (vF ad s.heap.size)) (F0 m 185 ls [.int z182]) := by
                        intro z182 h H locs hP hS ls hl
                        subst ej183
                        refine lv_istore (lv' := [(4, .int z182), (3, .int v166), (0, .ref (ad 318)), (1, .int a1), (2, .int a2)]) hx hb dX7_solve_185 hl (by decide) rfl (fun ls hl => ?_)
                        refine lv_aload_n hx hb dX7_solve_187 rfl (lv_at hl 2 rfl) ?_
                        refine lv_dup hx hb dX7_solve_188 rfl ?_
                        refine vgI hx hb hts hi7 hown hK hP (318) (by decide) (show kd 318 = 7 by decide) (C := RX7) (T := TX7) (N := 79) rfl 28 (by decide) (by decide) (by decide) (by decide) (hts (.fieldLink RX7 310 "CrateHelpersModel" "turns" "I") (by decide +kernel)) (fun _ h9 => h9) dX7_solve_189 ?_
                        refine lv_iconst (v := 1) hx hb dX7_solve_192 (by decide) ?_
                        refine lv_iadd hx hb dX7_solve_193 ?_
                        refine vpI (v := ((I167 318 28) + 1)) (ty := .int) hx hb hts hi7 tyX7 tyX7_ok nmX7 hown hK hP hap hS (318) (by decide) (show kd 318 = 7 by decide) (C := RX7) (T := TX7) (N := 79) rfl 28 (by decide) (by decide) (by decide) (by decide) (hts (.fieldLink RX7 310 "CrateHelpersModel" "turns" "I") (by decide +kernel)) (fun _ h9 => h9) rfl (by decide +kernel) rfl rfl dX7_solve_194 (fun H locs hP hS => ?_)
                        obtain ⟨I184, eI184, h⟩ := bd_e h
                        rw [← eI184] at hP
                        have hP : va_P D vwCl (VW K ad I184 G A168 L) H := hP
                        refine lv_aload_n hx hb dX7_solve_197 rfl (lv_at hl 2 rfl) ?_
                        refine lv_iload_n hx hb dX7_solve_198 rfl (lv_at hl 3 rfl) ?_
                        refine lv_iload hx hb dX7_solve_199 (lv_at hl 0 rfl) ?_
                        refine lv_aload_n hx hb dX7_solve_201 rfl (lv_at hl 2 rfl) ?_
                        refine vgI hx hb hts hi7 hown hK hP (318) (by decide) (show kd 318 = 7 by decide) (C := RX7) (T := TX7) (N := 79) rfl 15 (by decide) (by decide) (by decide) (by decide) (hts (.fieldLink RX7 43 "CrateHelpersModel" "helpers" "I") (by decide +kernel)) (fun _ h9 => h9) dX7_solve_202 ?_
                        refine lv_icmp_ge (tgt := 213) hx hb dX7_solve_205 (by decide) (fun c_185 => ?_) (fun c_185 => ?_)
                        · have h := iN (Int32.not_lt.mpr c_185) h
                          refine lv_iconst (v := 0) hx hb dX7_solve_213 (by decide) ?_
                          obtain ⟨⟨I186, A187⟩, hc188, h⟩ := Option.bind_eq_some_iff.mp h
                          refine ecVv (As := [.int a1, .int 0]) (rest := []) ⟨hx, hb, hml, hown, hts⟩ (e_X7_turnOf l D K ad hap0 a1 0 I184 G A168 L I186 A187 hc188) (cwV 2 hts gX7_solve_X7_turnOf rfl rfl rfl (by decide +kernel) ⟨Nat.le_of_ble_eq_true rfl, Nat.le_of_ble_eq_true rfl⟩) hK hP hS (by decide) (show kd 318 = 7 by decide) (by decide) rfl rfl rfl hl.1 (Nat.le_of_ble_eq_true rfl) (Nat.le_of_ble_eq_true rfl) (Nat.le_of_ble_eq_true rfl) dX7_solve_214 (fun H locs hP hS => ?_) rfl
                          have hP : va_P D vwCl (VW K ad I186 G A187 L) H := hP
                          refine lv_aload_n hx hb dX7_solve_217 rfl (lv_at hl 2 rfl) ?_
                          refine lv_iload_n hx hb dX7_solve_218 rfl (lv_at hl 3 rfl) ?_
                          obtain ⟨⟨r189, I190, A191⟩, hc192, h⟩ := Option.bind_eq_some_iff.mp h
                          refine ecV (As := [.int a1]) (rest := []) ⟨hx, hb, hml, hown, hts⟩ (e_X7_walks l D K ad hap0 a1 I186 G A187 L r189 I190 A191 hc192) (cwV 1 hts gX7_solve_X7_walks rfl rfl rfl (by decide +kernel) ⟨Nat.le_of_ble_eq_true rfl, Nat.le_of_ble_eq_true rfl⟩) hK hP hS (by decide) (show kd 318 = 7 by decide) (by decide) rfl rfl rfl hl.1 (Nat.le_of_ble_eq_true rfl) (Nat.le_of_ble_eq_true rfl) (Nat.le_of_ble_eq_true rfl) dX7_solve_219 (fun H locs hP hS => ?_) rfl
                          have hP : va_P D vwCl (VW K ad I190 G A191 L) H := hP
                          refine lv_istore (lv' := [(5, .int r189), (4, .int z182), (3, .int v166), (0, .ref (ad 318)), (1, .int a1), (2, .int a2)]) hx hb dX7_solve_222 hl (by decide) rfl (fun ls hl => ?_)
                          refine lv_iload hx hb dX7_solve_224 (lv_at hl 0 rfl) ?_
                          refine lv_if_le (tgt := 239) hx hb dX7_solve_226 (by decide) (fun c_193 => ?_) (fun c_193 => ?_)
                          · have h := iN (Int32.not_lt.mpr c_193) h
                            refine lv_iinc (v := (v166 + 1)) (lv' := [(3, .int (v166 + 1)), (5, .int r189), (4, .int z182), (0, .ref (ad 318)), (1, .int a1), (2, .int a2)]) hx hb dX7_solve_239 hl (k := 2) rfl rfl (by decide) rfl (fun ls hl => ?_)
                            refine lv_goto (tgt := 143) hx hb dX7_solve_242 (by decide) ?_
                            exact ih165 (v166 + 1) I190 A191 h _ _ hP hS ls (lv_sub hl [0, 3, 4, 5] rfl)
                          · have h := ip (Int32.not_le.mp c_193) h
                            exact kk169 r189 I190 A191 h _ _ hP hS ls (lv_sub hl [3, 4, 0] rfl)
                        · have h := ip (Int32.not_le.mp c_185) h
                          refine lv_iload hx hb dX7_solve_208 (lv_at hl 0 rfl) ?_
                          refine lv_goto (tgt := 214) hx hb dX7_solve_210 (by decide) ?_
                          obtain ⟨⟨I194, A195⟩, hc196, h⟩ := Option.bind_eq_some_iff.mp h
                          refine ecVv (As := [.int a1, .int z182]) (rest := []) ⟨hx, hb, hml, hown, hts⟩ (e_X7_turnOf l D K ad hap0 a1 z182 I184 G A168 L I194 A195 hc196) (cwV 2 hts gX7_solve_X7_turnOf rfl rfl rfl (by decide +kernel) ⟨Nat.le_of_ble_eq_true rfl, Nat.le_of_ble_eq_true rfl⟩) hK hP hS (by decide) (show kd 318 = 7 by decide) (by decide) rfl rfl rfl hl.1 (Nat.le_of_ble_eq_true rfl) (Nat.le_of_ble_eq_true rfl) (Nat.le_of_ble_eq_true rfl) dX7_solve_214 (fun H locs hP hS => ?_) rfl
                          have hP : va_P D vwCl (VW K ad I194 G A195 L) H := hP
                          refine lv_aload_n hx hb dX7_solve_217 rfl (lv_at hl 2 rfl) ?_
                          refine lv_iload_n hx hb dX7_solve_218 rfl (lv_at hl 3 rfl) ?_
                          obtain ⟨⟨r197, I198, A199⟩, hc200, h⟩ := Option.bind_eq_some_iff.mp h
                          refine ecV (As := [.int a1]) (rest := []) ⟨hx, hb, hml, hown, hts⟩ (e_X7_walks l D K ad hap0 a1 I194 G A195 L r197 I198 A199 hc200) (cwV 1 hts gX7_solve_X7_walks rfl rfl rfl (by decide +kernel) ⟨Nat.le_of_ble_eq_true rfl, Nat.le_of_ble_eq_true rfl⟩) hK hP hS (by decide) (show kd 318 = 7 by decide) (by decide) rfl rfl rfl hl.1 (Nat.le_of_ble_eq_true rfl) (Nat.le_of_ble_eq_true rfl) (Nat.le_of_ble_eq_true rfl) dX7_solve_219 (fun H locs hP hS => ?_) rfl
                          have hP : va_P D vwCl (VW K ad I198 G A199 L) H := hP
                          refine lv_istore (lv' := [(5, .int r197), (4, .int z182), (3, .int v166), (0, .ref (ad 318)), (1, .int a1), (2, .int a2)]) hx hb dX7_solve_222 hl (by decide) rfl (fun ls hl => ?_)
                          refine lv_iload hx hb dX7_solve_224 (lv_at hl 0 rfl) ?_
                          refine lv_if_le (tgt := 239) hx hb dX7_solve_226 (by decide) (fun c_201 => ?_) (fun c_201 => ?_)
                          · have h := iN (Int32.not_lt.mpr c_201) h
                            refine lv_iinc (v := (v166 + 1)) (lv' := [(3, .int (v166 + 1)), (5, .int r197), (4, .int z182), (0, .ref (ad 318)), (1, .int a1), (2, .int a2)]) hx hb dX7_solve_239 hl (k := 2) rfl rfl (by decide) rfl (fun ls hl => ?_)
                            refine lv_goto (tgt := 143) hx hb dX7_solve_242 (by decide) ?_
                            exact ih165 (v166 + 1) I198 A199 h _ _ hP hS ls (lv_sub hl [0, 3, 4, 5] rfl)
                          · have h := ip (Int32.not_le.mp c_201) h
                            exact kk169 r197 I198 A199 h _ _ hP hS ls (lv_sub hl [3, 4, 0] rfl)
                      refine lv_icmp_ge (tgt := 171) hx hb dX7_solve_156 (by decide) (fun c_202 => ?_) (fun c_202 => ?_)
                      · have h := iN (Int32.not_lt.mpr c_202) h
                        refine lv_aload_n hx hb dX7_solve_171 rfl (lv_at hl 1 rfl) ?_
                        refine vgI hx hb hts hi7 hown hK hP (318) (by decide) (show kd 318 = 7 by decide) (C := RX7) (T := TX7) (N := 79) rfl 28 (by decide) (by decide) (by decide) (by decide) (hts (.fieldLink RX7 310 "CrateHelpersModel" "turns" "I") (by decide +kernel)) (fun _ h9 => h9) dX7_solve_172 ?_
                        refine lv_aload_n hx hb dX7_solve_175 rfl (lv_at hl 1 rfl) ?_
                        refine vgI hx hb hts hi7 hown hK hP (318) (by decide) (show kd 318 = 7 by decide) (C := RX7) (T := TX7) (N := 79) rfl 18 (by decide) (by decide) (by decide) (by decide) (hts (.fieldLink RX7 243 "CrateHelpersModel" "scheduled" "I") (by decide +kernel)) (fun _ h9 => h9) dX7_solve_176 ?_
                        refine lv_isub hx hb dX7_solve_179 ?_
                        refine lv_aload_n hx hb dX7_solve_180 rfl (lv_at hl 1 rfl) ?_
                        refine vgI hx hb hts hi7 hown hK hP (318) (by decide) (show kd 318 = 7 by decide) (C := RX7) (T := TX7) (N := 79) rfl 15 (by decide) (by decide) (by decide) (by decide) (hts (.fieldLink RX7 43 "CrateHelpersModel" "helpers" "I") (by decide +kernel)) (fun _ h9 => h9) dX7_solve_181 ?_
                        obtain ⟨hz203, h⟩ := gk h
                        refine lv_irem hx hb dX7_solve_184 hz203 ?_
                        exact kj183 (((I167 318 28) - (I167 318 18)) - ((I167 318 28) - (I167 318 18)) / (I167 318 15) * (I167 318 15)) h _ _ hP hS ls (lv_sub hl [0, 1, 2, 3] rfl)
                      · have h := ip (Int32.not_le.mp c_202) h
                        refine lv_aload_n hx hb dX7_solve_159 rfl (lv_at hl 1 rfl) ?_
                        refine vgC hx hb hts hi7 hown hK hP (318) (by decide) (show kd 318 = 7 by decide) (C := RX7) (T := TX7) (N := 79) rfl 17 (by decide) (by decide) (by decide) (by decide) (331) rfl (hts (.fieldLink RX7 50 "CrateHelpersModel" "schedule" "[I") (by decide +kernel)) (fun _ h9 => h9) dX7_solve_160 ?_
                        refine lv_aload_n hx hb dX7_solve_163 rfl (lv_at hl 1 rfl) ?_
                        refine vgI hx hb hts hi7 hown hK hP (318) (by decide) (show kd 318 = 7 by decide) (C := RX7) (T := TX7) (N := 79) rfl 28 (by decide) (by decide) (by decide) (by decide) (hts (.fieldLink RX7 310 "CrateHelpersModel" "turns" "I") (by decide +kernel)) (fun _ h9 => h9) dX7_solve_164 ?_
                        obtain ⟨hn204, h⟩ := gk h
                        refine xiald hx hb hK hP (331) (by decide) (show kd 331 = 8 by decide) (by rw [show ln 331 = 200 by decide]; exact hn204) dX7_solve_167 ?_
                        refine lv_goto (tgt := 185) hx hb dX7_solve_168 (by decide) ?_
                        exact kj183 (A168 331 ((I167 318 28).toNatClampNeg)) h _ _ hP hS ls (lv_sub hl [0, 1, 2, 3] rfl)
                exact lp165 FU 0 I161 A162 h _ _ hP hS ls (lv_sub hl [0, 1, 2, 3] rfl)
              · have h := ip c_164 h
                refine lv_aload_n hx hb dX7_solve_133 rfl (lv_at hl 0 rfl) ?_
                refine lv_iload_n hx hb dX7_solve_134 rfl (lv_at hl 1 rfl) ?_
                refine lv_iconst (v := 2) hx hb dX7_solve_135 (by decide) ?_
                obtain ⟨⟨I205, A206⟩, hc207, h⟩ := Option.bind_eq_some_iff.mp h
                refine ecVv (As := [.int a1, .int 2]) (rest := []) ⟨hx, hb, hml, hown, hts⟩ (e_X7_endsAs l D K ad hap0 a1 2 I161 G A162 L I205 A206 hc207) (cwV 2 hts gX7_solve_X7_endsAs rfl rfl rfl (by decide +kernel) ⟨Nat.le_of_ble_eq_true rfl, Nat.le_of_ble_eq_true rfl⟩) hK hP hS (by decide) (show kd 318 = 7 by decide) (by decide) rfl rfl rfl hl.1 (Nat.le_of_ble_eq_true rfl) (Nat.le_of_ble_eq_true rfl) (Nat.le_of_ble_eq_true rfl) dX7_solve_136 (fun H locs hP hS => ?_) rfl
                have hP : va_P D vwCl (VW K ad I205 G A206 L) H := hP
                refine lv_iconst (v := 2) hx hb dX7_solve_139 (by decide) ?_
                exact W.iret (v := 2) hx hb hr (fun t9 ht9 hW9 => ⟨⟨2, (I205, G, A206, L), rfl, by cases h; exact ⟨rfl, rfl⟩, by rw [ht9]; exact hP, va_K.moved hW9.alike hK⟩, hS.F ht9⟩) hS.2.2 dX7_solve_140
            have lp156 : ∀ (n : Nat) (v157 : Int32) (A158 : Nat → Nat → Int32), f_X7_solve_L75_156 a1 a2 I155 k159 n v157 A158 = some (r0, I0, A0) → ∀ (H : Heap) (locs : List Loc), va_P D vwCl (VW K ad I155 G A158 L) H → va_S (vF ad s.heap.size) s.heap H locs → ∀ (ls : Array Slot), lv_has ls 6 [(3, .int v157), (0, .ref (ad 318)), (1, .int a1), (2, .int a2)] → W p l e ({ frames := 7, cells := 0, slots := 0, locals := 199 }) s m ([.ref (ad 318), .int a1, .int a2] : List Value).toArray below meth c H locs 0 0 (MQ below (va_Qi (fun (r : Int32) (u : Mem) => r = r0 ∧ u = (I0, G, A0, L)) (vB D K ad) (vF ad s.heap.size)) ([.ref (ad 318), .int a1, .int a2] : List Value).toArray s 0 0 (vF ad s.heap.size)) (F0 m 75 ls []) := by
              intro n
              induction n with
              | zero => intro v157 A158 h; exact absurd h (by rw [f_X7_solve_L75_156]; exact nofun)
              | succ n ih156 =>
                intro v157 A158 h H locs hP hS ls hl
                rw [f_X7_solve_L75_156] at h
                refine lv_iload_n hx hb dX7_solve_75 rfl (lv_at hl 0 rfl) ?_
                refine lv_iconst (v := 5) hx hb dX7_solve_76 (by decide) ?_
                refine lv_icmp_ge (tgt := 120) hx hb dX7_solve_77 (by decide) (fun c_208 => ?_) (fun c_208 => ?_)
                · have h := iN (Int32.not_lt.mpr c_208) h
                  exact kk159 A158 h _ _ hP hS ls (lv_sub hl [1, 2, 3] rfl)
                · have h := ip (Int32.not_le.mp c_208) h
                  refine lv_aload_n hx hb dX7_solve_80 rfl (lv_at hl 1 rfl) ?_
                  refine vgC hx hb hts hi7 hown hK hP (318) (by decide) (show kd 318 = 7 by decide) (C := RX7) (T := TX7) (N := 79) rfl 25 (by decide) (by decide) (by decide) (by decide) (335) rfl (hts (.fieldLink RX7 65 "CrateHelpersModel" "failNow" "[I") (by decide +kernel)) (fun _ h9 => h9) dX7_solve_81 ?_
                  refine lv_iload_n hx hb dX7_solve_84 rfl (lv_at hl 0 rfl) ?_
                  refine lv_aload_n hx hb dX7_solve_85 rfl (lv_at hl 1 rfl) ?_
                  refine vgC hx hb hts hi7 hown hK hP (318) (by decide) (show kd 318 = 7 by decide) (C := RX7) (T := TX7) (N := 79) rfl 16 (by decide) (by decide) (by decide) (by decide) (330) rfl (hts (.fieldLink RX7 47 "CrateHelpersModel" "failAt" "[I") (by decide +kernel)) (fun _ h9 => h9) dX7_solve_86 ?_
                  refine lv_iload_n hx hb dX7_solve_89 rfl (lv_at hl 0 rfl) ?_
                  obtain ⟨hn209, h⟩ := gk h
                  refine xiald hx hb hK hP (330) (by decide) (show kd 330 = 8 by decide) (by rw [show ln 330 = 5 by decide]; exact hn209) dX7_solve_90 ?_
                  refine xiast hx hb hK hP hap hS (335) (by decide) (show kd 335 = 8 by decide) (by rw [show ln 335 = 5 by decide]; exact hn209) dX7_solve_91 (fun H locs hP hS => ?_)
                  obtain ⟨A210, eA210, h⟩ := bd_e h
                  rw [← eA210] at hP
                  have hP : va_P D vwCl (VW K ad I155 G A210 L) H := hP
                  refine lv_aload_n hx hb dX7_solve_92 rfl (lv_at hl 1 rfl) ?_
                  refine vgC hx hb hts hi7 hown hK hP (318) (by decide) (show kd 318 = 7 by decide) (C := RX7) (T := TX7) (N := 79) rfl 26 (by decide) (by decide) (by decide) (by decide) (336) rfl (hts (.fieldLink RX7 68 "CrateHelpersModel" "hadNow" "[I") (by decide +kernel)) (fun _ h9 => h9) dX7_solve_93 ?_
                  refine lv_iload_n hx hb dX7_solve_96 rfl (lv_at hl 0 rfl) ?_
                  refine lv_iconst (v := 0) hx hb dX7_solve_97 (by decide) ?_
                  refine xiast hx hb hK hP hap hS (336) (by decide) (show kd 336 = 8 by decide) (by rw [show ln 336 = 5 by decide]; exact hn209) dX7_solve_98 (fun H locs hP hS => ?_)
                  obtain ⟨A211, eA211, h⟩ := bd_e h
                  rw [← eA211] at hP
                  have hP : va_P D vwCl (VW K ad I155 G A211 L) H := hP
                  refine lv_aload_n hx hb dX7_solve_99 rfl (lv_at hl 1 rfl) ?_
                  refine vgC hx hb hts hi7 hown hK hP (318) (by decide) (show kd 318 = 7 by decide) (C := RX7) (T := TX7) (N := 79) rfl 22 (by decide) (by decide) (by decide) (by decide) (334) rfl (hts (.fieldLink RX7 59 "CrateHelpersModel" "didNow" "[I") (by decide +kernel)) (fun _ h9 => h9) dX7_solve_100 ?_
                  refine lv_iload_n hx hb dX7_solve_103 rfl (lv_at hl 0 rfl) ?_
                  refine lv_iconst (v := 0) hx hb dX7_solve_104 (by decide) ?_
                  refine xiast hx hb hK hP hap hS (334) (by decide) (show kd 334 = 8 by decide) (by rw [show ln 334 = 5 by decide]; exact hn209) dX7_solve_105 (fun H locs hP hS => ?_)
                  obtain ⟨A212, eA212, h⟩ := bd_e h
                  rw [← eA212] at hP
                  have hP : va_P D vwCl (VW K ad I155 G A212 L) H := hP
                  refine lv_aload_n hx hb dX7_solve_106 rfl (lv_at hl 1 rfl) ?_
                  refine vgC hx hb hts hi7 hown hK hP (318) (by decide) (show kd 318 = 7 by decide) (C := RX7) (T := TX7) (N := 79) rfl 27 (by decide) (by decide) (by decide) (by decide) (337) rfl (hts (.fieldLink RX7 71 "CrateHelpersModel" "holds" "[I") (by decide +kernel)) (fun _ h9 => h9) dX7_solve_107 ?_
                  refine lv_iload_n hx hb dX7_solve_110 rfl (lv_at hl 0 rfl) ?_
                  refine lv_bipush (v := (-9)) hx hb dX7_solve_111 (by decide) ?_
                  refine xiast hx hb hK hP hap hS (337) (by decide) (show kd 337 = 8 by decide) (by rw [show ln 337 = 5 by decide]; exact hn209) dX7_solve_113 (fun H locs hP hS => ?_)
                  obtain ⟨A213, eA213, h⟩ := bd_e h
                  rw [← eA213] at hP
                  have hP : va_P D vwCl (VW K ad I155 G A213 L) H := hP
                  refine lv_iinc (v := (v157 + 1)) (lv' := [(3, .int (v157 + 1)), (0, .ref (ad 318)), (1, .int a1), (2, .int a2)]) hx hb dX7_solve_114 hl (k := 0) rfl rfl (by decide) rfl (fun ls hl => ?_)
                  refine lv_goto (tgt := 75) hx hb dX7_solve_117 (by decide) ?_
                  exact ih156 (v157 + 1) A213 h _ _ hP hS ls (lv_sub hl [0, 1, 2, 3] rfl)
            exact lp156 FU 0 A h _ _ hP hS ls (lv_sub hl [0, 1, 2, 3] rfl)
        · have h := iN c_111 h
          refine lv_bipush (v := (-2)) hx hb dX7_solve_43 (by decide) ?_
          exact W.iret (v := (-2)) hx hb hr (fun t9 ht9 hW9 => ⟨⟨(-2), (I1, G, A, L), rfl, by cases h; exact ⟨rfl, rfl⟩, by rw [ht9]; exact hP, va_K.moved hW9.alike hK⟩, hS.F ht9⟩) hS.2.2 dX7_solve_45
    · have h := ip c_7 h
      refine lv_iconst (v := (-1)) hx hb dX7_solve_24 (by decide) ?_
      exact W.iret (v := (-1)) hx hb hr (fun t9 ht9 hW9 => ⟨⟨(-1), (I1, G, A, L), rfl, by cases h; exact ⟨rfl, rfl⟩, by rw [ht9]; exact hP, va_K.moved hW9.alike hK⟩, hS.F ht9⟩) hS.2.2 dX7_solve_25
