set_option maxHeartbeats 4000000 in
set_option maxRecDepth 100000 in
theorem e_X7_areLike (l : Launch) (D : va_G) (K : Nat → ClassId) (ad : Nat → Nat) (hap0 : apart ad (fun _ => True)) (a1 : Int32) (a2 : Int32) (a3 : Int32) (I : Nat → Nat → Int32) (G : Nat → Nat → Nat) (A : Nat → Nat → Int32) (L : Nat → Nat → Int64) (r0 : Int32) (h : f_X7_areLike A a1 a2 a3 = some r0) : Ci l D K ad yX7_areLike wsX7_areLike 1 28 [.ref (ad 318), .int a1, .int a2, .int a3] (I, G, A, L) (fun (r : Int32) (u : Mem) => r = r0 ∧ u = (I, G, A, L)) := by
  intro sz
  refine Met.ofW (cc := cX7_areLike) (maxL := 10) (ret := (some .boolean)) (by decide) rfl ?_
  intro p e s m args below meth c s₁ Bd hml hv0
  obtain ⟨rfl, hsz, hP, hK⟩ := hv0
  have hx := Bd.exec
  have hb := Bd.bytes
  have hr := Bd.returns
  have hts := atoms_spec (ws := wsX7_areLike) Bd.pre
  have hown : s.vm.findClass RX7 = some m.cls := findClass_of_methodNamed Bd.named
  have hlocks := Bd.notSynchronized
  have hi7 : ∀ w ∈ u_ws RX7 TX7 79, w ∈ wsX7_areLike := fun w h => List.mem_cons_of_mem _ (List.mem_append_right _ h)
  subst hsz
  have hap := vF_ap hap0 s.heap.size
  have hS : va_S (vF ad s.heap.size) s.heap s.heap [] := va_S.rf
  have hP : va_P D vwCl (VW K ad I G A L) s.heap := hP
  have hl := lv_entry ([.ref (ad 318), .int a1, .int a2, .int a3]) (n := 10) (Nat.le_of_ble_eq_true rfl)
  rw [lg_entry_eq]
  generalize (lg_sl ([.ref (ad 318), .int a1, .int a2, .int a3]) ++ List.replicate (10 - (lg_sl ([.ref (ad 318), .int a1, .int a2, .int a3])).length) Slot.unset).toArray = ls at hl ⊢
  have hl : lv_has ls 10 [(0, .ref (ad 318)), (1, .int a1), (2, .int a2), (3, .int a3)] := hl
  rw [f_X7_areLike] at h
  refine lv_aload_n hx hb dX7_areLike_0 rfl (lv_at hl 0 rfl) ?_
  refine vgC hx hb hts hi7 hown hK hP (318) (by decide) (show kd 318 = 7 by decide) (C := RX7) (T := TX7) (N := 79) rfl 5 (by decide) (by decide) (by decide) (by decide) (321) rfl (hts (.fieldLink RX7 16 "CrateHelpersModel" "values" "[I") (by decide +kernel)) (fun _ h9 => h9) dX7_areLike_1 ?_
  refine lv_bipush (v := 6) hx hb dX7_areLike_4 (by decide) ?_
  refine lv_iload_n hx hb dX7_areLike_6 rfl (lv_at hl 1 rfl) ?_
  refine lv_imul hx hb dX7_areLike_7 ?_
  refine lv_iload_n hx hb dX7_areLike_8 rfl (lv_at hl 2 rfl) ?_
  refine lv_iadd hx hb dX7_areLike_9 ?_
  obtain ⟨hn1, h⟩ := gk h
  refine xiald hx hb hK hP (321) (by decide) (show kd 321 = 8 by decide) (by rw [show ln 321 = 30 by decide]; exact hn1) dX7_areLike_10 ?_
  refine lv_aload_n hx hb dX7_areLike_11 rfl (lv_at hl 0 rfl) ?_
  refine vgC hx hb hts hi7 hown hK hP (318) (by decide) (show kd 318 = 7 by decide) (C := RX7) (T := TX7) (N := 79) rfl 5 (by decide) (by decide) (by decide) (by decide) (321) rfl (hts (.fieldLink RX7 16 "CrateHelpersModel" "values" "[I") (by decide +kernel)) (fun _ h9 => h9) dX7_areLike_12 ?_
  refine lv_bipush (v := 6) hx hb dX7_areLike_15 (by decide) ?_
  refine lv_iload_n hx hb dX7_areLike_17 rfl (lv_at hl 1 rfl) ?_
  refine lv_imul hx hb dX7_areLike_18 ?_
  refine lv_iload_n hx hb dX7_areLike_19 rfl (lv_at hl 3 rfl) ?_
  refine lv_iadd hx hb dX7_areLike_20 ?_
  obtain ⟨hn2, h⟩ := gk h
  refine xiald hx hb hK hP (321) (by decide) (show kd 321 = 8 by decide) (by rw [show ln 321 = 30 by decide]; exact hn2) dX7_areLike_21 ?_
  refine lv_icmp_eq (tgt := 27) hx hb dX7_areLike_22 (by decide) (fun c_3 => ?_) (fun c_3 => ?_)
  · have h := ip c_3 h
    refine lv_iconst (v := 0) hx hb dX7_areLike_27 (by decide) ?_
    refine lv_istore (lv' := [(4, .int 0), (0, .ref (ad 318)), (1, .int a1), (2, .int a2), (3, .int a3)]) hx hb dX7_areLike_28 hl (by decide) rfl (fun ls hl => ?_)
    obtain ⟨k6, ek6, h⟩ := bd_e h
    have kk6 : ∀ (_ : Unit), k6 () = some r0 → ∀ (H : Heap) (locs : List Loc), va_P D vwCl (VW K ad I G A L) H → va_S (vF ad s.heap.size) s.heap H locs → ∀ (ls : Array Slot), lv_has ls 10 [] → W p l e ({ frames := 1, cells := 0, slots := 0, locals := 28 }) s m ([.ref (ad 318), .int a1, .int a2, .int a3] : List Value).toArray below meth c H locs 0 0 (MQ below (va_Qi (fun (r : Int32) (u : Mem) => r = r0 ∧ u = (I, G, A, L)) (vB D K ad) (vF ad s.heap.size)) ([.ref (ad 318), .int a1, .int a2, .int a3] : List Value).toArray s 0 0 (vF ad s.heap.size)) (F0 m 65 ls []) := by
      intro _ h H locs hP hS ls hl
      subst ek6
      refine lv_iconst (v := 0) hx hb dX7_areLike_65 (by decide) ?_
      exact W.zret (v := 0) hx hb hr (by decide) (fun t9 ht9 hW9 => ⟨⟨0, (I, G, A, L), rfl, by cases h; exact ⟨rfl, rfl⟩, by rw [ht9]; exact hP, va_K.moved hW9.alike hK⟩, hS.F ht9⟩) hS.2.2 dX7_areLike_66
    obtain ⟨k7, ek7, h⟩ := bd_e h
    have kk7 : ∀ (_ : Unit), k7 () = some r0 → ∀ (H : Heap) (locs : List Loc), va_P D vwCl (VW K ad I G A L) H → va_S (vF ad s.heap.size) s.heap H locs → ∀ (ls : Array Slot), lv_has ls 10 [(0, .ref (ad 318)), (1, .int a1), (2, .int a2), (3, .int a3)] → W p l e ({ frames := 1, cells := 0, slots := 0, locals := 28 }) s m ([.ref (ad 318), .int a1, .int a2, .int a3] : List Value).toArray below meth c H locs 0 0 (MQ below (va_Qi (fun (r : Int32) (u : Mem) => r = r0 ∧ u = (I, G, A, L)) (vB D K ad) (vF ad s.heap.size)) ([.ref (ad 318), .int a1, .int a2, .int a3] : List Value).toArray s 0 0 (vF ad s.heap.size)) (F0 m 73 ls []) := by
      intro _ h H locs hP hS ls hl
      subst ek7
      refine lv_iconst (v := 0) hx hb dX7_areLike_73 (by decide) ?_
      refine lv_istore (lv' := [(4, .int 0), (0, .ref (ad 318)), (1, .int a1), (2, .int a2), (3, .int a3)]) hx hb dX7_areLike_74 hl (by decide) rfl (fun ls hl => ?_)
      obtain ⟨k10, ek10, h⟩ := bd_e h
      have kk10 : ∀ (_ : Unit), k10 () = some r0 → ∀ (H : Heap) (locs : List Loc), va_P D vwCl (VW K ad I G A L) H → va_S (vF ad s.heap.size) s.heap H locs → ∀ (ls : Array Slot), lv_has ls 10 [] → W p l e ({ frames := 1, cells := 0, slots := 0, locals := 28 }) s m ([.ref (ad 318), .int a1, .int a2, .int a3] : List Value).toArray below meth c H locs 0 0 (MQ below (va_Qi (fun (r : Int32) (u : Mem) => r = r0 ∧ u = (I, G, A, L)) (vB D K ad) (vF ad s.heap.size)) ([.ref (ad 318), .int a1, .int a2, .int a3] : List Value).toArray s 0 0 (vF ad s.heap.size)) (F0 m 209 ls []) := by
        intro _ h H locs hP hS ls hl
        subst ek10
        refine lv_iconst (v := 0) hx hb dX7_areLike_209 (by decide) ?_
        exact W.zret (v := 0) hx hb hr (by decide) (fun t9 ht9 hW9 => ⟨⟨0, (I, G, A, L), rfl, by cases h; exact ⟨rfl, rfl⟩, by rw [ht9]; exact hP, va_K.moved hW9.alike hK⟩, hS.F ht9⟩) hS.2.2 dX7_areLike_210
      obtain ⟨k11, ek11, h⟩ := bd_e h
      have kk11 : ∀ (_ : Unit), k11 () = some r0 → ∀ (H : Heap) (locs : List Loc), va_P D vwCl (VW K ad I G A L) H → va_S (vF ad s.heap.size) s.heap H locs → ∀ (ls : Array Slot), lv_has ls 10 [] → W p l e ({ frames := 1, cells := 0, slots := 0, locals := 28 }) s m ([.ref (ad 318), .int a1, .int a2, .int a3] : List Value).toArray below meth c H locs 0 0 (MQ below (va_Qi (fun (r : Int32) (u : Mem) => r = r0 ∧ u = (I, G, A, L)) (vB D K ad) (vF ad s.heap.size)) ([.ref (ad 318), .int a1, .int a2, .int a3] : List Value).toArray s 0 0 (vF ad s.heap.size)) (F0 m 217 ls []) := by
        intro _ h H locs hP hS ls hl
        subst ek11
        refine lv_iconst (v := 1) hx hb dX7_areLike_217 (by decide) ?_
        exact W.zret (v := 1) hx hb hr (by decide) (fun t9 ht9 hW9 => ⟨⟨1, (I, G, A, L), rfl, by cases h; exact ⟨rfl, rfl⟩, by rw [ht9]; exact hP, va_K.moved hW9.alike hK⟩, hS.F ht9⟩) hS.2.2 dX7_areLike_218
      have lp8 : ∀ (n : Nat) (v9 : Int32), f_X7_areLike_L76 a1 a2 a3 A k10 k11 n v9 = some r0 → ∀ (H : Heap) (locs : List Loc), va_P D vwCl (VW K ad I G A L) H → va_S (vF ad s.heap.size) s.heap H locs → ∀ (ls : Array Slot), lv_has ls 10 [(4, .int v9), (0, .ref (ad 318)), (1, .int a1), (2, .int a2), (3, .int a3)] → W p l e ({ frames := 1, cells := 0, slots := 0, locals := 28 }) s m ([.ref (ad 318), .int a1, .int a2, .int a3] : List Value).toArray below meth c H locs 0 0 (MQ below (va_Qi (fun (r : Int32) (u : Mem) => r = r0 ∧ u = (I, G, A, L)) (vB D K ad) (vF ad s.heap.size)) ([.ref (ad 318), .int a1, .int a2, .int a3] : List Value).toArray s 0 0 (vF ad s.heap.size)) (F0 m 76 ls []) := by
        intro n
        induction n with
        | zero => intro v9 h; exact absurd h (by rw [f_X7_areLike_L76]; exact nofun)
        | succ n ih8 =>
          intro v9 h H locs hP hS ls hl
          rw [f_X7_areLike_L76] at h
          refine lv_iload hx hb dX7_areLike_76 (lv_at hl 0 rfl) ?_
          refine lv_aload_n hx hb dX7_areLike_78 rfl (lv_at hl 1 rfl) ?_
          refine vgC hx hb hts hi7 hown hK hP (318) (by decide) (show kd 318 = 7 by decide) (C := RX7) (T := TX7) (N := 79) rfl 4 (by decide) (by decide) (by decide) (by decide) (320) rfl (hts (.fieldLink RX7 13 "CrateHelpersModel" "rules" "[I") (by decide +kernel)) (fun _ h9 => h9) dX7_areLike_79 ?_
          refine lv_iload_n hx hb dX7_areLike_82 rfl (lv_at hl 2 rfl) ?_
          obtain ⟨hn12, h⟩ := gk h
          refine xiald hx hb hK hP (320) (by decide) (show kd 320 = 8 by decide) (by rw [show ln 320 = 5 by decide]; exact hn12) dX7_areLike_83 ?_
          refine lv_icmp_ge (tgt := 217) hx hb dX7_areLike_84 (by decide) (fun c_13 => ?_) (fun c_13 => ?_)
          · have h := iN (Int32.not_lt.mpr c_13) h
            exact kk11 () h _ _ hP hS ls (lv_sub hl [] rfl)
          · have h := ip (Int32.not_le.mp c_13) h
            refine lv_aload_n hx hb dX7_areLike_87 rfl (lv_at hl 1 rfl) ?_
            refine lv_iload_n hx hb dX7_areLike_88 rfl (lv_at hl 2 rfl) ?_
            refine lv_iload hx hb dX7_areLike_89 (lv_at hl 0 rfl) ?_
            refine lv_iload_n hx hb dX7_areLike_91 rfl (lv_at hl 3 rfl) ?_
            obtain ⟨r14, hc15, h⟩ := Option.bind_eq_some_iff.mp h
            refine ecV (As := [.int a1, .int v9, .int a2]) (rest := []) ⟨hx, hb, hml, hown, hts⟩ (e_X7_partAt l D K ad hap0 a1 v9 a2 I G A L r14 hc15) (cwV 3 hts gX7_areLike_X7_partAt rfl rfl rfl (by decide +kernel) ⟨Nat.le_of_ble_eq_true rfl, Nat.le_of_ble_eq_true rfl⟩) hK hP hS (by decide) (show kd 318 = 7 by decide) (by decide) rfl rfl rfl hl.1 (Nat.le_of_ble_eq_true rfl) (Nat.le_of_ble_eq_true rfl) (Nat.le_of_ble_eq_true rfl) dX7_areLike_92 (fun H locs hP hS => ?_) rfl
            have hP : va_P D vwCl (VW K ad I G A L) H := hP
            refine lv_istore (lv' := [(5, .int r14), (4, .int v9), (0, .ref (ad 318)), (1, .int a1), (2, .int a2), (3, .int a3)]) hx hb dX7_areLike_95 hl (by decide) rfl (fun ls hl => ?_)
            refine lv_aload_n hx hb dX7_areLike_97 rfl (lv_at hl 2 rfl) ?_
            refine lv_iload_n hx hb dX7_areLike_98 rfl (lv_at hl 3 rfl) ?_
            refine lv_iload hx hb dX7_areLike_99 (lv_at hl 1 rfl) ?_
            refine lv_iload_n hx hb dX7_areLike_101 rfl (lv_at hl 5 rfl) ?_
            obtain ⟨r16, hc17, h⟩ := Option.bind_eq_some_iff.mp h
            refine ecV (As := [.int a1, .int v9, .int a3]) (rest := []) ⟨hx, hb, hml, hown, hts⟩ (e_X7_partAt l D K ad hap0 a1 v9 a3 I G A L r16 hc17) (cwV 3 hts gX7_areLike_X7_partAt rfl rfl rfl (by decide +kernel) ⟨Nat.le_of_ble_eq_true rfl, Nat.le_of_ble_eq_true rfl⟩) hK hP hS (by decide) (show kd 318 = 7 by decide) (by decide) rfl rfl rfl hl.1 (Nat.le_of_ble_eq_true rfl) (Nat.le_of_ble_eq_true rfl) (Nat.le_of_ble_eq_true rfl) dX7_areLike_102 (fun H locs hP hS => ?_) rfl
            have hP : va_P D vwCl (VW K ad I G A L) H := hP
            refine lv_istore (lv' := [(6, .int r16), (5, .int r14), (4, .int v9), (0, .ref (ad 318)), (1, .int a1), (2, .int a2), (3, .int a3)]) hx hb dX7_areLike_105 hl (by decide) rfl (fun ls hl => ?_)
            refine lv_bipush (v := 8) hx hb dX7_areLike_107 (by decide) ?_
            refine lv_iload_n hx hb dX7_areLike_109 rfl (lv_at hl 4 rfl) ?_
            refine lv_imul hx hb dX7_areLike_110 ?_
            refine lv_iload hx hb dX7_areLike_111 (lv_at hl 2 rfl) ?_
            refine lv_iadd hx hb dX7_areLike_113 ?_
            refine lv_istore (lv' := [(7, .int ((8 * a1) + v9)), (6, .int r16), (5, .int r14), (4, .int v9), (0, .ref (ad 318)), (1, .int a1), (2, .int a2), (3, .int a3)]) hx hb dX7_areLike_114 hl (by decide) rfl (fun ls hl => ?_)
            refine lv_iload hx hb dX7_areLike_116 (lv_at hl 2 rfl) ?_
            refine lv_bipush (v := (-9)) hx hb dX7_areLike_118 (by decide) ?_
            obtain ⟨j20, ej20, h⟩ := bd_e h
            have kj20 : ∀ (z19 : Int32), j20 z19 = some r0 → ∀ (H : Heap) (locs : List Loc), va_P D vwCl (VW K ad I G A L) H → va_S (vF ad s.heap.size) s.heap H locs → ∀ (ls : Array Slot), lv_has ls 10 [(7, .int ((8 * a1) + v9)), (6, .int r16), (5, .int r14), (4, .int v9), (0, .ref (ad 318)), (1, .int a1), (2, .int a2), (3, .int a3)] → W p l e ({ frames := 1, cells := 0, slots := 0, locals := 28 }) s m ([.ref (ad 318), .int a1, .int a2, .int a3] : List Value).toArray below meth c H locs 0 0 (MQ below (va_Qi (fun (r : Int32) (u : Mem) => r = r0 ∧ u = (I, G, A, L)) (vB D K ad) (vF ad s.heap.size)) ([.ref (ad 318), .int a1, .int a2, .int a3] : List Value).toArray s 0 0 (vF ad s.heap.size)) (F0 m 135 ls [.int z19]) := by
              intro z19 h H locs hP hS ls hl
              subst ej20
              refine lv_istore (lv' := [(8, .int z19), (7, .int ((8 * a1) + v9)), (6, .int r16), (5, .int r14), (4, .int v9), (0, .ref (ad 318)), (1, .int a1), (2, .int a2), (3, .int a3)]) hx hb dX7_areLike_135 hl (by decide) rfl (fun ls hl => ?_)
              refine lv_iload hx hb dX7_areLike_137 (lv_at hl 3 rfl) ?_
              refine lv_bipush (v := (-9)) hx hb dX7_areLike_139 (by decide) ?_
              refine lv_icmp_eq (tgt := 196) hx hb dX7_areLike_141 (by decide) (fun c_21 => ?_) (fun c_21 => ?_)
              · have h := ip c_21 h
                refine lv_iconst (v := 0) hx hb dX7_areLike_196 (by decide) ?_
                refine lv_istore (lv' := [(9, .int 0), (8, .int z19), (7, .int ((8 * a1) + v9)), (6, .int r16), (5, .int r14), (4, .int v9), (0, .ref (ad 318)), (1, .int a1), (2, .int a2), (3, .int a3)]) hx hb dX7_areLike_197 hl (by decide) rfl (fun ls hl => ?_)
                refine lv_iload hx hb dX7_areLike_199 (lv_at hl 1 rfl) ?_
                refine lv_if_ne (tgt := 211) hx hb dX7_areLike_201 (by decide) (fun c_22 => ?_) (fun c_22 => ?_)
                · have h := iN c_22 h
                  refine lv_iinc (v := (v9 + 1)) (lv' := [(4, .int (v9 + 1)), (9, .int 0), (8, .int z19), (7, .int ((8 * a1) + v9)), (6, .int r16), (5, .int r14), (0, .ref (ad 318)), (1, .int a1), (2, .int a2), (3, .int a3)]) hx hb dX7_areLike_211 hl (k := 5) rfl rfl (by decide) rfl (fun ls hl => ?_)
                  refine lv_goto (tgt := 76) hx hb dX7_areLike_214 (by decide) ?_
                  exact ih8 (v9 + 1) h _ _ hP hS ls (lv_sub hl [0, 6, 7, 8, 9] rfl)
                · have h := ip c_22 h
                  refine lv_iload hx hb dX7_areLike_204 (lv_at hl 0 rfl) ?_
                  refine lv_if_ne (tgt := 211) hx hb dX7_areLike_206 (by decide) (fun c_23 => absurd c_23 (by decide)) (fun _ => ?_)
                  exact kk10 () h _ _ hP hS ls (lv_sub hl [] rfl)
              · have h := iN c_21 h
                refine lv_iload hx hb dX7_areLike_144 (lv_at hl 2 rfl) ?_
                refine lv_bipush (v := (-9)) hx hb dX7_areLike_146 (by decide) ?_
                refine lv_icmp_eq (tgt := 196) hx hb dX7_areLike_148 (by decide) (fun c_24 => ?_) (fun c_24 => ?_)
                · have h := ip c_24 h
                  refine lv_iconst (v := 0) hx hb dX7_areLike_196 (by decide) ?_
                  refine lv_istore (lv' := [(9, .int 0), (8, .int z19), (7, .int ((8 * a1) + v9)), (6, .int r16), (5, .int r14), (4, .int v9), (0, .ref (ad 318)), (1, .int a1), (2, .int a2), (3, .int a3)]) hx hb dX7_areLike_197 hl (by decide) rfl (fun ls hl => ?_)
                  refine lv_iload hx hb dX7_areLike_199 (lv_at hl 1 rfl) ?_
                  refine lv_if_ne (tgt := 211) hx hb dX7_areLike_201 (by decide) (fun c_25 => ?_) (fun c_25 => ?_)
                  · have h := iN c_25 h
                    refine lv_iinc (v := (v9 + 1)) (lv' := [(4, .int (v9 + 1)), (9, .int 0), (8, .int z19), (7, .int ((8 * a1) + v9)), (6, .int r16), (5, .int r14), (0, .ref (ad 318)), (1, .int a1), (2, .int a2), (3, .int a3)]) hx hb dX7_areLike_211 hl (k := 5) rfl rfl (by decide) rfl (fun ls hl => ?_)
                    refine lv_goto (tgt := 76) hx hb dX7_areLike_214 (by decide) ?_
                    exact ih8 (v9 + 1) h _ _ hP hS ls (lv_sub hl [0, 6, 7, 8, 9] rfl)
                  · have h := ip c_25 h
                    refine lv_iload hx hb dX7_areLike_204 (lv_at hl 0 rfl) ?_
                    refine lv_if_ne (tgt := 211) hx hb dX7_areLike_206 (by decide) (fun c_26 => absurd c_26 (by decide)) (fun _ => ?_)
                    exact kk10 () h _ _ hP hS ls (lv_sub hl [] rfl)
                · have h := iN c_24 h
                  refine lv_aload_n hx hb dX7_areLike_151 rfl (lv_at hl 5 rfl) ?_
                  refine vgC hx hb hts hi7 hown hK hP (318) (by decide) (show kd 318 = 7 by decide) (C := RX7) (T := TX7) (N := 79) rfl 8 (by decide) (by decide) (by decide) (by decide) (324) rfl (hts (.fieldLink RX7 25 "CrateHelpersModel" "ruleKind" "[I") (by decide +kernel)) (fun _ h9 => h9) dX7_areLike_152 ?_
                  refine lv_iload hx hb dX7_areLike_155 (lv_at hl 1 rfl) ?_
                  obtain ⟨hn27, h⟩ := gk h
                  refine xiald hx hb hK hP (324) (by decide) (show kd 324 = 8 by decide) (by rw [show ln 324 = 40 by decide]; exact hn27) dX7_areLike_157 ?_
                  refine lv_bipush (v := 6) hx hb dX7_areLike_158 (by decide) ?_
                  refine lv_icmp_eq (tgt := 196) hx hb dX7_areLike_160 (by decide) (fun c_28 => ?_) (fun c_28 => ?_)
                  · have h := ip c_28 h
                    refine lv_iconst (v := 0) hx hb dX7_areLike_196 (by decide) ?_
                    refine lv_istore (lv' := [(9, .int 0), (8, .int z19), (7, .int ((8 * a1) + v9)), (6, .int r16), (5, .int r14), (4, .int v9), (0, .ref (ad 318)), (1, .int a1), (2, .int a2), (3, .int a3)]) hx hb dX7_areLike_197 hl (by decide) rfl (fun ls hl => ?_)
                    refine lv_iload hx hb dX7_areLike_199 (lv_at hl 1 rfl) ?_
                    refine lv_if_ne (tgt := 211) hx hb dX7_areLike_201 (by decide) (fun c_29 => ?_) (fun c_29 => ?_)
                    · have h := iN c_29 h
                      refine lv_iinc (v := (v9 + 1)) (lv' := [(4, .int (v9 + 1)), (9, .int 0), (8, .int z19), (7, .int ((8 * a1) + v9)), (6, .int r16), (5, .int r14), (0, .ref (ad 318)), (1, .int a1), (2, .int a2), (3, .int a3)]) hx hb dX7_areLike_211 hl (k := 5) rfl rfl (by decide) rfl (fun ls hl => ?_)
                      refine lv_goto (tgt := 76) hx hb dX7_areLike_214 (by decide) ?_
                      exact ih8 (v9 + 1) h _ _ hP hS ls (lv_sub hl [0, 6, 7, 8, 9] rfl)
                    · have h := ip c_29 h
                      refine lv_iload hx hb dX7_areLike_204 (lv_at hl 0 rfl) ?_
                      refine lv_if_ne (tgt := 211) hx hb dX7_areLike_206 (by decide) (fun c_30 => absurd c_30 (by decide)) (fun _ => ?_)
                      exact kk10 () h _ _ hP hS ls (lv_sub hl [] rfl)
                  · have h := iN c_28 h
                    refine lv_aload_n hx hb dX7_areLike_163 rfl (lv_at hl 5 rfl) ?_
                    refine vgC hx hb hts hi7 hown hK hP (318) (by decide) (show kd 318 = 7 by decide) (C := RX7) (T := TX7) (N := 79) rfl 12 (by decide) (by decide) (by decide) (by decide) (328) rfl (hts (.fieldLink RX7 37 "CrateHelpersModel" "weight" "[I") (by decide +kernel)) (fun _ h9 => h9) dX7_areLike_164 ?_
                    refine lv_bipush (v := 6) hx hb dX7_areLike_167 (by decide) ?_
                    refine lv_iload hx hb dX7_areLike_169 (lv_at hl 1 rfl) ?_
                    refine lv_imul hx hb dX7_areLike_171 ?_
                    refine lv_iload hx hb dX7_areLike_172 (lv_at hl 3 rfl) ?_
                    refine lv_iadd hx hb dX7_areLike_174 ?_
                    obtain ⟨hn31, h⟩ := gk h
                    refine xiald hx hb hK hP (328) (by decide) (show kd 328 = 8 by decide) (by rw [show ln 328 = 240 by decide]; exact hn31) dX7_areLike_175 ?_
                    refine lv_aload_n hx hb dX7_areLike_176 rfl (lv_at hl 5 rfl) ?_
                    refine vgC hx hb hts hi7 hown hK hP (318) (by decide) (show kd 318 = 7 by decide) (C := RX7) (T := TX7) (N := 79) rfl 12 (by decide) (by decide) (by decide) (by decide) (328) rfl (hts (.fieldLink RX7 37 "CrateHelpersModel" "weight" "[I") (by decide +kernel)) (fun _ h9 => h9) dX7_areLike_177 ?_
                    refine lv_bipush (v := 6) hx hb dX7_areLike_180 (by decide) ?_
                    refine lv_iload hx hb dX7_areLike_182 (lv_at hl 1 rfl) ?_
                    refine lv_imul hx hb dX7_areLike_184 ?_
                    refine lv_iload hx hb dX7_areLike_185 (lv_at hl 2 rfl) ?_
                    refine lv_iadd hx hb dX7_areLike_187 ?_
                    obtain ⟨hn32, h⟩ := gk h
                    refine xiald hx hb hK hP (328) (by decide) (show kd 328 = 8 by decide) (by rw [show ln 328 = 240 by decide]; exact hn32) dX7_areLike_188 ?_
                    refine lv_icmp_ne (tgt := 196) hx hb dX7_areLike_189 (by decide) (fun c_33 => ?_) (fun c_33 => ?_)
                    · have h := iN c_33 h
                      refine lv_iconst (v := 0) hx hb dX7_areLike_196 (by decide) ?_
                      refine lv_istore (lv' := [(9, .int 0), (8, .int z19), (7, .int ((8 * a1) + v9)), (6, .int r16), (5, .int r14), (4, .int v9), (0, .ref (ad 318)), (1, .int a1), (2, .int a2), (3, .int a3)]) hx hb dX7_areLike_197 hl (by decide) rfl (fun ls hl => ?_)
                      refine lv_iload hx hb dX7_areLike_199 (lv_at hl 1 rfl) ?_
                      refine lv_if_ne (tgt := 211) hx hb dX7_areLike_201 (by decide) (fun c_34 => ?_) (fun c_34 => ?_)
                      · have h := iN c_34 h
                        refine lv_iinc (v := (v9 + 1)) (lv' := [(4, .int (v9 + 1)), (9, .int 0), (8, .int z19), (7, .int ((8 * a1) + v9)), (6, .int r16), (5, .int r14), (0, .ref (ad 318)), (1, .int a1), (2, .int a2), (3, .int a3)]) hx hb dX7_areLike_211 hl (k := 5) rfl rfl (by decide) rfl (fun ls hl => ?_)
                        refine lv_goto (tgt := 76) hx hb dX7_areLike_214 (by decide) ?_
                        exact ih8 (v9 + 1) h _ _ hP hS ls (lv_sub hl [0, 6, 7, 8, 9] rfl)
                      · have h := ip c_34 h
                        refine lv_iload hx hb dX7_areLike_204 (lv_at hl 0 rfl) ?_
                        refine lv_if_ne (tgt := 211) hx hb dX7_areLike_206 (by decide) (fun c_35 => absurd c_35 (by decide)) (fun _ => ?_)
                        exact kk10 () h _ _ hP hS ls (lv_sub hl [] rfl)
                    · have h := ip c_33 h
                      refine lv_iconst (v := 1) hx hb dX7_areLike_192 (by decide) ?_
                      refine lv_goto (tgt := 197) hx hb dX7_areLike_193 (by decide) ?_
                      refine lv_istore (lv' := [(9, .int 1), (8, .int z19), (7, .int ((8 * a1) + v9)), (6, .int r16), (5, .int r14), (4, .int v9), (0, .ref (ad 318)), (1, .int a1), (2, .int a2), (3, .int a3)]) hx hb dX7_areLike_197 hl (by decide) rfl (fun ls hl => ?_)
                      refine lv_iload hx hb dX7_areLike_199 (lv_at hl 1 rfl) ?_
                      refine lv_if_ne (tgt := 211) hx hb dX7_areLike_201 (by decide) (fun c_36 => ?_) (fun c_36 => ?_)
                      · have h := iN c_36 h
                        refine lv_iinc (v := (v9 + 1)) (lv' := [(4, .int (v9 + 1)), (9, .int 1), (8, .int z19), (7, .int ((8 * a1) + v9)), (6, .int r16), (5, .int r14), (0, .ref (ad 318)), (1, .int a1), (2, .int a2), (3, .int a3)]) hx hb dX7_areLike_211 hl (k := 5) rfl rfl (by decide) rfl (fun ls hl => ?_)
                        refine lv_goto (tgt := 76) hx hb dX7_areLike_214 (by decide) ?_
                        exact ih8 (v9 + 1) h _ _ hP hS ls (lv_sub hl [0, 6, 7, 8, 9] rfl)
                      · have h := ip c_36 h
                        refine lv_iload hx hb dX7_areLike_204 (lv_at hl 0 rfl) ?_
                        refine lv_if_ne (tgt := 211) hx hb dX7_areLike_206 (by decide) (fun _ => ?_) (fun c_37 => absurd c_37 (by decide))
                        refine lv_iinc (v := (v9 + 1)) (lv' := [(4, .int (v9 + 1)), (9, .int 1), (8, .int z19), (7, .int ((8 * a1) + v9)), (6, .int r16), (5, .int r14), (0, .ref (ad 318)), (1, .int a1), (2, .int a2), (3, .int a3)]) hx hb dX7_areLike_211 hl (k := 5) rfl rfl (by decide) rfl (fun ls hl => ?_)
                        refine lv_goto (tgt := 76) hx hb dX7_areLike_214 (by decide) ?_
                        exact ih8 (v9 + 1) h _ _ hP hS ls (lv_sub hl [0, 6, 7, 8, 9] rfl)
            refine lv_icmp_ne (tgt := 134) hx hb dX7_areLike_120 (by decide) (fun c_38 => ?_) (fun c_38 => ?_)
            · have h := iN c_38 h
              refine lv_iconst (v := 0) hx hb dX7_areLike_134 (by decide) ?_
              exact kj20 0 h _ _ hP hS ls (lv_sub hl [0, 1, 2, 3, 4, 5, 6, 7] rfl)
            · have h := ip c_38 h
              refine lv_iload hx hb dX7_areLike_123 (lv_at hl 1 rfl) ?_
              refine lv_bipush (v := (-9)) hx hb dX7_areLike_125 (by decide) ?_
              refine lv_icmp_ne (tgt := 134) hx hb dX7_areLike_127 (by decide) (fun c_39 => ?_) (fun c_39 => ?_)
              · have h := iN c_39 h
                refine lv_iconst (v := 0) hx hb dX7_areLike_134 (by decide) ?_
                exact kj20 0 h _ _ hP hS ls (lv_sub hl [0, 1, 2, 3, 4, 5, 6, 7] rfl)
              · have h := ip c_39 h
                refine lv_iconst (v := 1) hx hb dX7_areLike_130 (by decide) ?_
                refine lv_goto (tgt := 135) hx hb dX7_areLike_131 (by decide) ?_
                exact kj20 1 h _ _ hP hS ls (lv_sub hl [0, 1, 2, 3, 4, 5, 6, 7] rfl)
      exact lp8 FU 0 h _ _ hP hS ls (lv_sub hl [0, 1, 2, 3, 4] rfl)
    have lp4 : ∀ (n : Nat) (v5 : Int32), f_X7_areLike_L30 a1 a2 a3 A k6 k7 n v5 = some r0 → ∀ (H : Heap) (locs : List Loc), va_P D vwCl (VW K ad I G A L) H → va_S (vF ad s.heap.size) s.heap H locs → ∀ (ls : Array Slot), lv_has ls 10 [(4, .int v5), (0, .ref (ad 318)), (1, .int a1), (2, .int a2), (3, .int a3)] → W p l e ({ frames := 1, cells := 0, slots := 0, locals := 28 }) s m ([.ref (ad 318), .int a1, .int a2, .int a3] : List Value).toArray below meth c H locs 0 0 (MQ below (va_Qi (fun (r : Int32) (u : Mem) => r = r0 ∧ u = (I, G, A, L)) (vB D K ad) (vF ad s.heap.size)) ([.ref (ad 318), .int a1, .int a2, .int a3] : List Value).toArray s 0 0 (vF ad s.heap.size)) (F0 m 30 ls []) := by
      intro n
      induction n with
      | zero => intro v5 h; exact absurd h (by rw [f_X7_areLike_L30]; exact nofun)
      | succ n ih4 =>
        intro v5 h H locs hP hS ls hl
        rw [f_X7_areLike_L30] at h
        refine lv_iload hx hb dX7_areLike_30 (lv_at hl 0 rfl) ?_
        refine lv_aload_n hx hb dX7_areLike_32 rfl (lv_at hl 1 rfl) ?_
        refine vgC hx hb hts hi7 hown hK hP (318) (by decide) (show kd 318 = 7 by decide) (C := RX7) (T := TX7) (N := 79) rfl 5 (by decide) (by decide) (by decide) (by decide) (321) rfl (hts (.fieldLink RX7 16 "CrateHelpersModel" "values" "[I") (by decide +kernel)) (fun _ h9 => h9) dX7_areLike_33 ?_
        refine lv_bipush (v := 6) hx hb dX7_areLike_36 (by decide) ?_
        refine lv_iload_n hx hb dX7_areLike_38 rfl (lv_at hl 2 rfl) ?_
        refine lv_imul hx hb dX7_areLike_39 ?_
        refine lv_iload_n hx hb dX7_areLike_40 rfl (lv_at hl 3 rfl) ?_
        refine lv_iadd hx hb dX7_areLike_41 ?_
        refine xiald hx hb hK hP (321) (by decide) (show kd 321 = 8 by decide) (by rw [show ln 321 = 30 by decide]; exact hn1) dX7_areLike_42 ?_
        refine lv_icmp_ge (tgt := 73) hx hb dX7_areLike_43 (by decide) (fun c_40 => ?_) (fun c_40 => ?_)
        · have h := iN (Int32.not_lt.mpr c_40) h
          exact kk7 () h _ _ hP hS ls (lv_sub hl [1, 2, 3, 4] rfl)
        · have h := ip (Int32.not_le.mp c_40) h
          refine lv_aload_n hx hb dX7_areLike_46 rfl (lv_at hl 1 rfl) ?_
          refine lv_iload_n hx hb dX7_areLike_47 rfl (lv_at hl 2 rfl) ?_
          refine lv_iload_n hx hb dX7_areLike_48 rfl (lv_at hl 3 rfl) ?_
          refine lv_iload hx hb dX7_areLike_49 (lv_at hl 0 rfl) ?_
          obtain ⟨r41, hc42, h⟩ := Option.bind_eq_some_iff.mp h
          refine ecV (As := [.int a1, .int a2, .int v5]) (rest := []) ⟨hx, hb, hml, hown, hts⟩ (e_X7_costAt l D K ad hap0 a1 a2 v5 I G A L r41 hc42) (cwV 3 hts gX7_areLike_X7_costAt rfl rfl rfl (by decide +kernel) ⟨Nat.le_of_ble_eq_true rfl, Nat.le_of_ble_eq_true rfl⟩) hK hP hS (by decide) (show kd 318 = 7 by decide) (by decide) rfl rfl rfl hl.1 (Nat.le_of_ble_eq_true rfl) (Nat.le_of_ble_eq_true rfl) (Nat.le_of_ble_eq_true rfl) dX7_areLike_51 (fun H locs hP hS => ?_) rfl
          have hP : va_P D vwCl (VW K ad I G A L) H := hP
          refine lv_aload_n hx hb dX7_areLike_54 rfl (lv_at hl 1 rfl) ?_
          refine lv_iload_n hx hb dX7_areLike_55 rfl (lv_at hl 2 rfl) ?_
          refine lv_iload_n hx hb dX7_areLike_56 rfl (lv_at hl 4 rfl) ?_
          refine lv_iload hx hb dX7_areLike_57 (lv_at hl 0 rfl) ?_
          obtain ⟨r43, hc44, h⟩ := Option.bind_eq_some_iff.mp h
          refine ecV (As := [.int a1, .int a3, .int v5]) (rest := [.int r41]) ⟨hx, hb, hml, hown, hts⟩ (e_X7_costAt l D K ad hap0 a1 a3 v5 I G A L r43 hc44) (cwV 3 hts gX7_areLike_X7_costAt rfl rfl rfl (by decide +kernel) ⟨Nat.le_of_ble_eq_true rfl, Nat.le_of_ble_eq_true rfl⟩) hK hP hS (by decide) (show kd 318 = 7 by decide) (by decide) rfl rfl rfl hl.1 (Nat.le_of_ble_eq_true rfl) (Nat.le_of_ble_eq_true rfl) (Nat.le_of_ble_eq_true rfl) dX7_areLike_59 (fun H locs hP hS => ?_) rfl
          have hP : va_P D vwCl (VW K ad I G A L) H := hP
          refine lv_icmp_eq (tgt := 67) hx hb dX7_areLike_62 (by decide) (fun c_45 => ?_) (fun c_45 => ?_)
          · have h := ip c_45 h
            refine lv_iinc (v := (v5 + 1)) (lv' := [(4, .int (v5 + 1)), (0, .ref (ad 318)), (1, .int a1), (2, .int a2), (3, .int a3)]) hx hb dX7_areLike_67 hl (k := 0) rfl rfl (by decide) rfl (fun ls hl => ?_)
            refine lv_goto (tgt := 30) hx hb dX7_areLike_70 (by decide) ?_
            exact ih4 (v5 + 1) h _ _ hP hS ls (lv_sub hl [0, 1, 2, 3, 4] rfl)
          · have h := iN c_45 h
            exact kk6 () h _ _ hP hS ls (lv_sub hl [] rfl)
    exact lp4 FU 0 h _ _ hP hS ls (lv_sub hl [0, 1, 2, 3, 4] rfl)
  · have h := iN c_3 h
    refine lv_iconst (v := 0) hx hb dX7_areLike_25 (by decide) ?_
    exact W.zret (v := 0) hx hb hr (by decide) (fun t9 ht9 hW9 => ⟨⟨0, (I, G, A, L), rfl, by cases h; exact ⟨rfl, rfl⟩, by rw [ht9]; exact hP, va_K.moved hW9.alike hK⟩, hS.F ht9⟩) hS.2.2 dX7_areLike_26
set_option maxHeartbeats 4000000 in
set_option maxRecDepth 100000 in
theorem e_X7_swap (l : Launch) (D : va_G) (K : Nat → ClassId) (ad : Nat → Nat) (hap0 : apart ad (fun _ => True)) (s0 : Nat) (s1 : Nat) (I : Nat → Nat → Int32) (G : Nat → Nat → Nat) (A : Nat → Nat → Int32) (L : Nat → Nat → Int64) (A0 : Nat → Nat → Int32) (h : f_X7_swap A s0 s1 = some A0) : Cv l D K ad yX7_swap wsX7_swap 0 0 [.ref (ad s0), .ref (ad s1)] (I, G, A, L) (fun (u : Mem) => u = (I, G, A0, L)) := by
  intro sz
  refine Met.ofW (cc := cX7_swap) (maxL := 4) (ret := none) (by decide) rfl ?_
  intro p e s m args below meth c s₁ Bd hml hv0
  obtain ⟨rfl, hsz, hP, hK⟩ := hv0
  have hx := Bd.exec
  have hb := Bd.bytes
  have hr := Bd.returns
  have hts := atoms_spec (ws := wsX7_swap) Bd.pre
  have hown : s.vm.findClass RX7 = some m.cls := findClass_of_methodNamed Bd.named
  have hlocks := Bd.notSynchronized
  subst hsz
  have hap := vF_ap hap0 s.heap.size
  have hS : va_S (vF ad s.heap.size) s.heap s.heap [] := va_S.rf
  have hP : va_P D vwCl (VW K ad I G A L) s.heap := hP
  have hl := lv_entry ([.ref (ad s0), .ref (ad s1)]) (n := 4) (Nat.le_of_ble_eq_true rfl)
  rw [lg_entry_eq]
  generalize (lg_sl ([.ref (ad s0), .ref (ad s1)]) ++ List.replicate (4 - (lg_sl ([.ref (ad s0), .ref (ad s1)])).length) Slot.unset).toArray = ls at hl ⊢
  have hl : lv_has ls 4 [(0, .ref (ad s0)), (1, .ref (ad s1))] := hl
  rw [f_X7_swap] at h
  refine lv_iconst (v := 0) hx hb dX7_swap_0 (by decide) ?_
  refine lv_istore_n (lv' := [(2, .int 0), (0, .ref (ad s0)), (1, .ref (ad s1))]) hx hb dX7_swap_1 rfl hl (by decide) rfl (fun ls hl => ?_)
  obtain ⟨k4, ek4, h⟩ := bd_e h
  have kk4 : ∀ (A5 : Nat → Nat → Int32), k4 A5 = some A0 → ∀ (H : Heap) (locs : List Loc), va_P D vwCl (VW K ad I G A5 L) H → va_S (vF ad s.heap.size) s.heap H locs → ∀ (ls : Array Slot), lv_has ls 4 [] → W p l e ({ frames := 0, cells := 0, slots := 0, locals := 0 }) s m ([.ref (ad s0), .ref (ad s1)] : List Value).toArray below meth c H locs 0 0 (MQ below (va_Qv (fun (u : Mem) => u = (I, G, A0, L)) (vB D K ad) (vF ad s.heap.size)) ([.ref (ad s0), .ref (ad s1)] : List Value).toArray s 0 0 (vF ad s.heap.size)) (F0 m 28 ls []) := by
    intro A5 h H locs hP hS ls hl
    subst ek4
    exact W.vret hx hb hr (fun t9 ht9 hW9 => ⟨⟨(I, G, A5, L), rfl, by cases h; rfl, by rw [ht9]; exact hP, va_K.moved hW9.alike hK⟩, hS.F ht9⟩) hS.2.2 dX7_swap_28
  have lp1 : ∀ (n : Nat) (v2 : Int32) (A3 : Nat → Nat → Int32), f_X7_swap_L2 s0 s1 k4 n v2 A3 = some A0 → ∀ (H : Heap) (locs : List Loc), va_P D vwCl (VW K ad I G A3 L) H → va_S (vF ad s.heap.size) s.heap H locs → ∀ (ls : Array Slot), lv_has ls 4 [(2, .int v2), (0, .ref (ad s0)), (1, .ref (ad s1))] → W p l e ({ frames := 0, cells := 0, slots := 0, locals := 0 }) s m ([.ref (ad s0), .ref (ad s1)] : List Value).toArray below meth c H locs 0 0 (MQ below (va_Qv (fun (u : Mem) => u = (I, G, A0, L)) (vB D K ad) (vF ad s.heap.size)) ([.ref (ad s0), .ref (ad s1)] : List Value).toArray s 0 0 (vF ad s.heap.size)) (F0 m 2 ls []) := by
    intro n
    induction n with
    | zero => intro v2 A3 h; exact absurd h (by rw [f_X7_swap_L2]; exact nofun)
    | succ n ih1 =>
      intro v2 A3 h H locs hP hS ls hl
      rw [f_X7_swap_L2] at h
      refine lv_iload_n hx hb dX7_swap_2 rfl (lv_at hl 0 rfl) ?_
      refine lv_aload_n hx hb dX7_swap_3 rfl (lv_at hl 1 rfl) ?_
      obtain ⟨hk6, h⟩ := gk h
      refine vlen hx hb hK hP (s0) hk6.1.1 hk6.2 dX7_swap_4 ?_
      refine lv_icmp_ge (tgt := 28) hx hb dX7_swap_5 (by decide) (fun c_7 => ?_) (fun c_7 => ?_)
      · have h := iN (Int32.not_lt.mpr c_7) h
        exact kk4 A3 h _ _ hP hS ls (lv_sub hl [] rfl)
      · have h := ip (Int32.not_le.mp c_7) h
        refine lv_aload_n hx hb dX7_swap_8 rfl (lv_at hl 1 rfl) ?_
        refine lv_iload_n hx hb dX7_swap_9 rfl (lv_at hl 0 rfl) ?_
        obtain ⟨hn8, h⟩ := gk h
        refine xiald hx hb hK hP (s0) hk6.1.1 hk6.2 hn8 dX7_swap_10 ?_
        refine lv_istore_n (lv' := [(3, .int (A3 s0 v2.toNatClampNeg)), (2, .int v2), (0, .ref (ad s0)), (1, .ref (ad s1))]) hx hb dX7_swap_11 rfl hl (by decide) rfl (fun ls hl => ?_)
        refine lv_aload_n hx hb dX7_swap_12 rfl (lv_at hl 2 rfl) ?_
        refine lv_iload_n hx hb dX7_swap_13 rfl (lv_at hl 1 rfl) ?_
        refine lv_aload_n hx hb dX7_swap_14 rfl (lv_at hl 3 rfl) ?_
        refine lv_iload_n hx hb dX7_swap_15 rfl (lv_at hl 1 rfl) ?_
        obtain ⟨hk9, h⟩ := gk h
        obtain ⟨hn10, h⟩ := gk h
        refine xiald hx hb hK hP (s1) hk9.1.1 hk9.2 hn10 dX7_swap_16 ?_
        refine xiast hx hb hK hP hap hS (s0) hk6.1.1 hk6.2 hn8 dX7_swap_17 (fun H locs hP hS => ?_)
        obtain ⟨A11, eA11, h⟩ := bd_e h
        rw [← eA11] at hP
        have hP : va_P D vwCl (VW K ad I G A11 L) H := hP
        refine lv_aload_n hx hb dX7_swap_18 rfl (lv_at hl 3 rfl) ?_
        refine lv_iload_n hx hb dX7_swap_19 rfl (lv_at hl 1 rfl) ?_
        refine lv_iload_n hx hb dX7_swap_20 rfl (lv_at hl 0 rfl) ?_
        refine xiast hx hb hK hP hap hS (s1) hk9.1.1 hk9.2 hn10 dX7_swap_21 (fun H locs hP hS => ?_)
        obtain ⟨A12, eA12, h⟩ := bd_e h
        rw [← eA12] at hP
        have hP : va_P D vwCl (VW K ad I G A12 L) H := hP
        refine lv_iinc (v := (v2 + 1)) (lv' := [(2, .int (v2 + 1)), (3, .int (A3 s0 v2.toNatClampNeg)), (0, .ref (ad s0)), (1, .ref (ad s1))]) hx hb dX7_swap_22 hl (k := 1) rfl rfl (by decide) rfl (fun ls hl => ?_)
        refine lv_goto (tgt := 2) hx hb dX7_swap_25 (by decide) ?_
        exact ih1 (v2 + 1) A12 h _ _ hP hS ls (lv_sub hl [0, 2, 3] rfl)
  exact lp1 FU 0 A h _ _ hP hS ls (lv_sub hl [0, 1, 2] rfl)
set_option maxHeartbeats 4000000 in
set_option maxRecDepth 100000 in
theorem e_X7_turnRound (l : Launch) (D : va_G) (K : Nat → ClassId) (ad : Nat → Nat) (hap0 : apart ad (fun _ => True)) (s0 : Nat) (s1 : Nat) (I : Nat → Nat → Int32) (G : Nat → Nat → Nat) (A : Nat → Nat → Int32) (L : Nat → Nat → Int64) (A0 : Nat → Nat → Int32) (h : f_X7_turnRound A s0 s1 = some A0) : Cv l D K ad yX7_turnRound wsX7_turnRound 0 0 [.ref (ad s0), .ref (ad s1)] (I, G, A, L) (fun (u : Mem) => u = (I, G, A0, L)) := by
  intro sz
  refine Met.ofW (cc := cX7_turnRound) (maxL := 4) (ret := none) (by decide) rfl ?_
  intro p e s m args below meth c s₁ Bd hml hv0
  obtain ⟨rfl, hsz, hP, hK⟩ := hv0
  have hx := Bd.exec
  have hb := Bd.bytes
  have hr := Bd.returns
  have hts := atoms_spec (ws := wsX7_turnRound) Bd.pre
  have hown : s.vm.findClass RX7 = some m.cls := findClass_of_methodNamed Bd.named
  have hlocks := Bd.notSynchronized
  subst hsz
  have hap := vF_ap hap0 s.heap.size
  have hS : va_S (vF ad s.heap.size) s.heap s.heap [] := va_S.rf
  have hP : va_P D vwCl (VW K ad I G A L) s.heap := hP
  have hl := lv_entry ([.ref (ad s0), .ref (ad s1)]) (n := 4) (Nat.le_of_ble_eq_true rfl)
  rw [lg_entry_eq]
  generalize (lg_sl ([.ref (ad s0), .ref (ad s1)]) ++ List.replicate (4 - (lg_sl ([.ref (ad s0), .ref (ad s1)])).length) Slot.unset).toArray = ls at hl ⊢
  have hl : lv_has ls 4 [(0, .ref (ad s0)), (1, .ref (ad s1))] := hl
  rw [f_X7_turnRound] at h
  refine lv_iconst (v := 0) hx hb dX7_turnRound_0 (by decide) ?_
  refine lv_istore_n (lv' := [(2, .int 0), (0, .ref (ad s0)), (1, .ref (ad s1))]) hx hb dX7_turnRound_1 rfl hl (by decide) rfl (fun ls hl => ?_)
  obtain ⟨k4, ek4, h⟩ := bd_e h
  have kk4 : ∀ (A5 : Nat → Nat → Int32), k4 A5 = some A0 → ∀ (H : Heap) (locs : List Loc), va_P D vwCl (VW K ad I G A5 L) H → va_S (vF ad s.heap.size) s.heap H locs → ∀ (ls : Array Slot), lv_has ls 4 [] → W p l e ({ frames := 0, cells := 0, slots := 0, locals := 0 }) s m ([.ref (ad s0), .ref (ad s1)] : List Value).toArray below meth c H locs 0 0 (MQ below (va_Qv (fun (u : Mem) => u = (I, G, A0, L)) (vB D K ad) (vF ad s.heap.size)) ([.ref (ad s0), .ref (ad s1)] : List Value).toArray s 0 0 (vF ad s.heap.size)) (F0 m 28 ls []) := by
    intro A5 h H locs hP hS ls hl
    subst ek4
    exact W.vret hx hb hr (fun t9 ht9 hW9 => ⟨⟨(I, G, A5, L), rfl, by cases h; rfl, by rw [ht9]; exact hP, va_K.moved hW9.alike hK⟩, hS.F ht9⟩) hS.2.2 dX7_turnRound_28
  have lp1 : ∀ (n : Nat) (v2 : Int32) (A3 : Nat → Nat → Int32), f_X7_turnRound_L2 s0 s1 k4 n v2 A3 = some A0 → ∀ (H : Heap) (locs : List Loc), va_P D vwCl (VW K ad I G A3 L) H → va_S (vF ad s.heap.size) s.heap H locs → ∀ (ls : Array Slot), lv_has ls 4 [(2, .int v2), (0, .ref (ad s0)), (1, .ref (ad s1))] → W p l e ({ frames := 0, cells := 0, slots := 0, locals := 0 }) s m ([.ref (ad s0), .ref (ad s1)] : List Value).toArray below meth c H locs 0 0 (MQ below (va_Qv (fun (u : Mem) => u = (I, G, A0, L)) (vB D K ad) (vF ad s.heap.size)) ([.ref (ad s0), .ref (ad s1)] : List Value).toArray s 0 0 (vF ad s.heap.size)) (F0 m 2 ls []) := by
    intro n
    induction n with
    | zero => intro v2 A3 h; exact absurd h (by rw [f_X7_turnRound_L2]; exact nofun)
    | succ n ih1 =>
      intro v2 A3 h H locs hP hS ls hl
      rw [f_X7_turnRound_L2] at h
      refine lv_iload_n hx hb dX7_turnRound_2 rfl (lv_at hl 0 rfl) ?_
      refine lv_aload_n hx hb dX7_turnRound_3 rfl (lv_at hl 1 rfl) ?_
      obtain ⟨hk6, h⟩ := gk h
      refine vlenZ hx hb hK hP (s0) hk6.1.1 hk6.2 dX7_turnRound_4 ?_
      refine lv_icmp_ge (tgt := 28) hx hb dX7_turnRound_5 (by decide) (fun c_7 => ?_) (fun c_7 => ?_)
      · have h := iN (Int32.not_lt.mpr c_7) h
        exact kk4 A3 h _ _ hP hS ls (lv_sub hl [] rfl)
      · have h := ip (Int32.not_le.mp c_7) h
        refine lv_aload_n hx hb dX7_turnRound_8 rfl (lv_at hl 1 rfl) ?_
        refine lv_iload_n hx hb dX7_turnRound_9 rfl (lv_at hl 0 rfl) ?_
        obtain ⟨hn8, h⟩ := gk h
        refine xzald hx hb hK hP (s0) hk6.1.1 hk6.2 hn8 dX7_turnRound_10 ?_
        refine lv_istore_n (lv' := [(3, .int (A3 s0 v2.toNatClampNeg)), (2, .int v2), (0, .ref (ad s0)), (1, .ref (ad s1))]) hx hb dX7_turnRound_11 rfl hl (by decide) rfl (fun ls hl => ?_)
        refine lv_aload_n hx hb dX7_turnRound_12 rfl (lv_at hl 2 rfl) ?_
        refine lv_iload_n hx hb dX7_turnRound_13 rfl (lv_at hl 1 rfl) ?_
        refine lv_aload_n hx hb dX7_turnRound_14 rfl (lv_at hl 3 rfl) ?_
        refine lv_iload_n hx hb dX7_turnRound_15 rfl (lv_at hl 1 rfl) ?_
        obtain ⟨hk9, h⟩ := gk h
        obtain ⟨hn10, h⟩ := gk h
        refine xzald hx hb hK hP (s1) hk9.1.1 hk9.2 hn10 dX7_turnRound_16 ?_
        refine xzast hx hb hK hP hap hS (s0) hk6.1.1 hk6.2 hn8 dX7_turnRound_17 (fun H locs hP hS => ?_)
        obtain ⟨A11, eA11, h⟩ := bd_e h
        rw [← eA11] at hP
        have hP : va_P D vwCl (VW K ad I G A11 L) H := hP
        refine lv_aload_n hx hb dX7_turnRound_18 rfl (lv_at hl 3 rfl) ?_
        refine lv_iload_n hx hb dX7_turnRound_19 rfl (lv_at hl 1 rfl) ?_
        refine lv_iload_n hx hb dX7_turnRound_20 rfl (lv_at hl 0 rfl) ?_
        refine xzast hx hb hK hP hap hS (s1) hk9.1.1 hk9.2 hn10 dX7_turnRound_21 (fun H locs hP hS => ?_)
        obtain ⟨A12, eA12, h⟩ := bd_e h
        rw [← eA12] at hP
        have hP : va_P D vwCl (VW K ad I G A12 L) H := hP
        refine lv_iinc (v := (v2 + 1)) (lv' := [(2, .int (v2 + 1)), (3, .int (A3 s0 v2.toNatClampNeg)), (0, .ref (ad s0)), (1, .ref (ad s1))]) hx hb dX7_turnRound_22 hl (k := 1) rfl rfl (by decide) rfl (fun ls hl => ?_)
        refine lv_goto (tgt := 2) hx hb dX7_turnRound_25 (by decide) ?_
        exact ih1 (v2 + 1) A12 h _ _ hP hS ls (lv_sub hl [0, 2, 3] rfl)
  exact lp1 FU 0 A h _ _ hP hS ls (lv_sub hl [0, 1, 2] rfl)
set_option maxHeartbeats 4000000 in
set_option maxRecDepth 100000 in
theorem e_X7_aside (l : Launch) (D : va_G) (K : Nat → ClassId) (ad : Nat → Nat) (hap0 : apart ad (fun _ => True)) (I : Nat → Nat → Int32) (G : Nat → Nat → Nat) (A : Nat → Nat → Int32) (L : Nat → Nat → Int64) (I0 : Nat → Nat → Int32) (A0 : Nat → Nat → Int32) (h : f_X7_aside I A = some (I0, A0)) : Cv l D K ad yX7_aside wsX7_aside 1 26 [.ref (ad 318)] (I, G, A, L) (fun (u : Mem) => u = (I0, G, A0, L)) := by
  intro sz
  refine Met.ofW (cc := cX7_aside) (maxL := 4) (ret := none) (by decide) rfl ?_
  intro p e s m args below meth c s₁ Bd hml hv0
  obtain ⟨rfl, hsz, hP, hK⟩ := hv0
  have hx := Bd.exec
  have hb := Bd.bytes
  have hr := Bd.returns
  have hts := atoms_spec (ws := wsX7_aside) Bd.pre
  have hown : s.vm.findClass RX7 = some m.cls := findClass_of_methodNamed Bd.named
  have hlocks := Bd.notSynchronized
  have hi7 : ∀ w ∈ u_ws RX7 TX7 79, w ∈ wsX7_aside := fun w h => List.mem_cons_of_mem _ (List.mem_append_right _ h)
  subst hsz
  have hap := vF_ap hap0 s.heap.size
  have hS : va_S (vF ad s.heap.size) s.heap s.heap [] := va_S.rf
  have hP : va_P D vwCl (VW K ad I G A L) s.heap := hP
  have hl := lv_entry ([.ref (ad 318)]) (n := 4) (Nat.le_of_ble_eq_true rfl)
  rw [lg_entry_eq]
  generalize (lg_sl ([.ref (ad 318)]) ++ List.replicate (4 - (lg_sl ([.ref (ad 318)])).length) Slot.unset).toArray = ls at hl ⊢
  have hl : lv_has ls 4 [(0, .ref (ad 318))] := hl
  rw [f_X7_aside] at h
  refine lv_aload_n hx hb dX7_aside_0 rfl (lv_at hl 0 rfl) ?_
  refine vgI hx hb hts hi7 hown hK hP (318) (by decide) (show kd 318 = 7 by decide) (C := RX7) (T := TX7) (N := 79) rfl 29 (by decide) (by decide) (by decide) (by decide) (hts (.fieldLink RX7 284 "CrateHelpersModel" "nodes" "I") (by decide +kernel)) (fun _ h9 => h9) dX7_aside_1 ?_
  refine lv_istore_n (lv' := [(1, .int (I 318 29)), (0, .ref (ad 318))]) hx hb dX7_aside_4 rfl hl (by decide) rfl (fun ls hl => ?_)
  refine lv_aload_n hx hb dX7_aside_5 rfl (lv_at hl 1 rfl) ?_
  refine vgI hx hb hts hi7 hown hK hP (318) (by decide) (show kd 318 = 7 by decide) (C := RX7) (T := TX7) (N := 79) rfl 30 (by decide) (by decide) (by decide) (by decide) (hts (.fieldLink RX7 287 "CrateHelpersModel" "done" "I") (by decide +kernel)) (fun _ h9 => h9) dX7_aside_6 ?_
  refine lv_istore_n (lv' := [(2, .int (I 318 30)), (1, .int (I 318 29)), (0, .ref (ad 318))]) hx hb dX7_aside_9 rfl hl (by decide) rfl (fun ls hl => ?_)
  refine lv_aload_n hx hb dX7_aside_10 rfl (lv_at hl 2 rfl) ?_
  refine vgI hx hb hts hi7 hown hK hP (318) (by decide) (show kd 318 = 7 by decide) (C := RX7) (T := TX7) (N := 79) rfl 31 (by decide) (by decide) (by decide) (by decide) (hts (.fieldLink RX7 303 "CrateHelpersModel" "taken" "I") (by decide +kernel)) (fun _ h9 => h9) dX7_aside_11 ?_
  refine lv_istore_n (lv' := [(3, .int (I 318 31)), (2, .int (I 318 30)), (1, .int (I 318 29)), (0, .ref (ad 318))]) hx hb dX7_aside_14 rfl hl (by decide) rfl (fun ls hl => ?_)
  refine lv_aload_n hx hb dX7_aside_15 rfl (lv_at hl 3 rfl) ?_
  refine lv_aload_n hx hb dX7_aside_16 rfl (lv_at hl 3 rfl) ?_
  refine vgC hx hb hts hi7 hown hK hP (318) (by decide) (show kd 318 = 7 by decide) (C := RX7) (T := TX7) (N := 79) rfl 66 (by decide) (by decide) (by decide) (by decide) (365) rfl (hts (.fieldLink RX7 162 "CrateHelpersModel" "asideNodes" "[I") (by decide +kernel)) (fun _ h9 => h9) dX7_aside_17 ?_
  refine lv_iconst (v := 0) hx hb dX7_aside_20 (by decide) ?_
  refine xiald hx hb hK hP (365) (by decide) (show kd 365 = 8 by decide) (by rw [show ln 365 = 3 by decide]; unfold vp_in; decide) dX7_aside_21 ?_
  rw [show (0 : Int32).toNatClampNeg = 0 by decide]
  refine vpI (v := (A 365 0)) (ty := .int) hx hb hts hi7 tyX7 tyX7_ok nmX7 hown hK hP hap hS (318) (by decide) (show kd 318 = 7 by decide) (C := RX7) (T := TX7) (N := 79) rfl 29 (by decide) (by decide) (by decide) (by decide) (hts (.fieldLink RX7 284 "CrateHelpersModel" "nodes" "I") (by decide +kernel)) (fun _ h9 => h9) rfl (by decide +kernel) rfl rfl dX7_aside_22 (fun H locs hP hS => ?_)
  obtain ⟨I1, eI1, h⟩ := bd_e h
  rw [← eI1] at hP
  have hP : va_P D vwCl (VW K ad I1 G A L) H := hP
  refine lv_aload_n hx hb dX7_aside_25 rfl (lv_at hl 3 rfl) ?_
  refine lv_aload_n hx hb dX7_aside_26 rfl (lv_at hl 3 rfl) ?_
  refine vgC hx hb hts hi7 hown hK hP (318) (by decide) (show kd 318 = 7 by decide) (C := RX7) (T := TX7) (N := 79) rfl 66 (by decide) (by decide) (by decide) (by decide) (365) rfl (hts (.fieldLink RX7 162 "CrateHelpersModel" "asideNodes" "[I") (by decide +kernel)) (fun _ h9 => h9) dX7_aside_27 ?_
  refine lv_iconst (v := 1) hx hb dX7_aside_30 (by decide) ?_
  refine xiald hx hb hK hP (365) (by decide) (show kd 365 = 8 by decide) (by rw [show ln 365 = 3 by decide]; unfold vp_in; decide) dX7_aside_31 ?_
  rw [show (1 : Int32).toNatClampNeg = 1 by decide]
  refine vpI (v := (A 365 1)) (ty := .int) hx hb hts hi7 tyX7 tyX7_ok nmX7 hown hK hP hap hS (318) (by decide) (show kd 318 = 7 by decide) (C := RX7) (T := TX7) (N := 79) rfl 30 (by decide) (by decide) (by decide) (by decide) (hts (.fieldLink RX7 287 "CrateHelpersModel" "done" "I") (by decide +kernel)) (fun _ h9 => h9) rfl (by decide +kernel) rfl rfl dX7_aside_32 (fun H locs hP hS => ?_)
  obtain ⟨I2, eI2, h⟩ := bd_e h
  rw [← eI2] at hP
  have hP : va_P D vwCl (VW K ad I2 G A L) H := hP
  refine lv_aload_n hx hb dX7_aside_35 rfl (lv_at hl 3 rfl) ?_
  refine lv_aload_n hx hb dX7_aside_36 rfl (lv_at hl 3 rfl) ?_
  refine vgC hx hb hts hi7 hown hK hP (318) (by decide) (show kd 318 = 7 by decide) (C := RX7) (T := TX7) (N := 79) rfl 66 (by decide) (by decide) (by decide) (by decide) (365) rfl (hts (.fieldLink RX7 162 "CrateHelpersModel" "asideNodes" "[I") (by decide +kernel)) (fun _ h9 => h9) dX7_aside_37 ?_
  refine lv_iconst (v := 2) hx hb dX7_aside_40 (by decide) ?_
  refine xiald hx hb hK hP (365) (by decide) (show kd 365 = 8 by decide) (by rw [show ln 365 = 3 by decide]; unfold vp_in; decide) dX7_aside_41 ?_
  rw [show (2 : Int32).toNatClampNeg = 2 by decide]
  refine vpI (v := (A 365 2)) (ty := .int) hx hb hts hi7 tyX7 tyX7_ok nmX7 hown hK hP hap hS (318) (by decide) (show kd 318 = 7 by decide) (C := RX7) (T := TX7) (N := 79) rfl 31 (by decide) (by decide) (by decide) (by decide) (hts (.fieldLink RX7 303 "CrateHelpersModel" "taken" "I") (by decide +kernel)) (fun _ h9 => h9) rfl (by decide +kernel) rfl rfl dX7_aside_42 (fun H locs hP hS => ?_)
  obtain ⟨I3, eI3, h⟩ := bd_e h
  rw [← eI3] at hP
  have hP : va_P D vwCl (VW K ad I3 G A L) H := hP
  refine lv_aload_n hx hb dX7_aside_45 rfl (lv_at hl 3 rfl) ?_
  refine vgC hx hb hts hi7 hown hK hP (318) (by decide) (show kd 318 = 7 by decide) (C := RX7) (T := TX7) (N := 79) rfl 66 (by decide) (by decide) (by decide) (by decide) (365) rfl (hts (.fieldLink RX7 162 "CrateHelpersModel" "asideNodes" "[I") (by decide +kernel)) (fun _ h9 => h9) dX7_aside_46 ?_
  refine lv_iconst (v := 0) hx hb dX7_aside_49 (by decide) ?_
  refine lv_iload_n hx hb dX7_aside_50 rfl (lv_at hl 2 rfl) ?_
  refine xiast hx hb hK hP hap hS (365) (by decide) (show kd 365 = 8 by decide) (by rw [show ln 365 = 3 by decide]; unfold vp_in; decide) dX7_aside_51 (fun H locs hP hS => ?_)
  rw [show (0 : Int32).toNatClampNeg = 0 by decide] at hP
  obtain ⟨A4, eA4, h⟩ := bd_e h
  rw [← eA4] at hP
  have hP : va_P D vwCl (VW K ad I3 G A4 L) H := hP
  refine lv_aload_n hx hb dX7_aside_52 rfl (lv_at hl 3 rfl) ?_
  refine vgC hx hb hts hi7 hown hK hP (318) (by decide) (show kd 318 = 7 by decide) (C := RX7) (T := TX7) (N := 79) rfl 66 (by decide) (by decide) (by decide) (by decide) (365) rfl (hts (.fieldLink RX7 162 "CrateHelpersModel" "asideNodes" "[I") (by decide +kernel)) (fun _ h9 => h9) dX7_aside_53 ?_
  refine lv_iconst (v := 1) hx hb dX7_aside_56 (by decide) ?_
  refine lv_iload_n hx hb dX7_aside_57 rfl (lv_at hl 1 rfl) ?_
  refine xiast hx hb hK hP hap hS (365) (by decide) (show kd 365 = 8 by decide) (by rw [show ln 365 = 3 by decide]; unfold vp_in; decide) dX7_aside_58 (fun H locs hP hS => ?_)
  rw [show (1 : Int32).toNatClampNeg = 1 by decide] at hP
  obtain ⟨A5, eA5, h⟩ := bd_e h
  rw [← eA5] at hP
  have hP : va_P D vwCl (VW K ad I3 G A5 L) H := hP
  refine lv_aload_n hx hb dX7_aside_59 rfl (lv_at hl 3 rfl) ?_
  refine vgC hx hb hts hi7 hown hK hP (318) (by decide) (show kd 318 = 7 by decide) (C := RX7) (T := TX7) (N := 79) rfl 66 (by decide) (by decide) (by decide) (by decide) (365) rfl (hts (.fieldLink RX7 162 "CrateHelpersModel" "asideNodes" "[I") (by decide +kernel)) (fun _ h9 => h9) dX7_aside_60 ?_
  refine lv_iconst (v := 2) hx hb dX7_aside_63 (by decide) ?_
  refine lv_iload_n hx hb dX7_aside_64 rfl (lv_at hl 0 rfl) ?_
  refine xiast hx hb hK hP hap hS (365) (by decide) (show kd 365 = 8 by decide) (by rw [show ln 365 = 3 by decide]; unfold vp_in; decide) dX7_aside_65 (fun H locs hP hS => ?_)
  rw [show (2 : Int32).toNatClampNeg = 2 by decide] at hP
  obtain ⟨A6, eA6, h⟩ := bd_e h
  rw [← eA6] at hP
  have hP : va_P D vwCl (VW K ad I3 G A6 L) H := hP
  refine lv_aload_n hx hb dX7_aside_66 rfl (lv_at hl 3 rfl) ?_
  refine vgC hx hb hts hi7 hown hK hP (318) (by decide) (show kd 318 = 7 by decide) (C := RX7) (T := TX7) (N := 79) rfl 32 (by decide) (by decide) (by decide) (by decide) (338) rfl (hts (.fieldLink RX7 74 "CrateHelpersModel" "depth" "[I") (by decide +kernel)) (fun _ h9 => h9) dX7_aside_67 ?_
  refine lv_aload_n hx hb dX7_aside_70 rfl (lv_at hl 3 rfl) ?_
  refine vgC hx hb hts hi7 hown hK hP (318) (by decide) (show kd 318 = 7 by decide) (C := RX7) (T := TX7) (N := 79) rfl 67 (by decide) (by decide) (by decide) (by decide) (366) rfl (hts (.fieldLink RX7 165 "CrateHelpersModel" "asideDepth" "[I") (by decide +kernel)) (fun _ h9 => h9) dX7_aside_71 ?_
  obtain ⟨A7, hc8, h⟩ := Option.bind_eq_some_iff.mp h
  refine ecSv (As := [.ref (ad 338), .ref (ad 366)]) (rest := []) ⟨hx, hb, hml, hown, hts⟩ (e_X7_swap l D K ad hap0 338 366 I3 G A6 L A7 hc8) (va_cwS 2 hts gX7_aside_X7_swap rfl rfl rfl (by decide +kernel) ⟨Nat.le_of_ble_eq_true rfl, Nat.le_of_ble_eq_true rfl⟩) hK hP hS rfl hl.1 (Nat.le_of_ble_eq_true rfl) (Nat.le_of_ble_eq_true rfl) (Nat.le_of_ble_eq_true rfl) dX7_aside_74 (fun H locs hP hS => ?_) rfl
  have hP : va_P D vwCl (VW K ad I3 G A7 L) H := hP
  refine lv_aload_n hx hb dX7_aside_77 rfl (lv_at hl 3 rfl) ?_
  refine vgC hx hb hts hi7 hown hK hP (318) (by decide) (show kd 318 = 7 by decide) (C := RX7) (T := TX7) (N := 79) rfl 33 (by decide) (by decide) (by decide) (by decide) (339) rfl (hts (.fieldLink RX7 77 "CrateHelpersModel" "row" "[I") (by decide +kernel)) (fun _ h9 => h9) dX7_aside_78 ?_
  refine lv_aload_n hx hb dX7_aside_81 rfl (lv_at hl 3 rfl) ?_
  refine vgC hx hb hts hi7 hown hK hP (318) (by decide) (show kd 318 = 7 by decide) (C := RX7) (T := TX7) (N := 79) rfl 68 (by decide) (by decide) (by decide) (by decide) (367) rfl (hts (.fieldLink RX7 168 "CrateHelpersModel" "asideRow" "[I") (by decide +kernel)) (fun _ h9 => h9) dX7_aside_82 ?_
  obtain ⟨A9, hc10, h⟩ := Option.bind_eq_some_iff.mp h
  refine ecSv (As := [.ref (ad 339), .ref (ad 367)]) (rest := []) ⟨hx, hb, hml, hown, hts⟩ (e_X7_swap l D K ad hap0 339 367 I3 G A7 L A9 hc10) (va_cwS 2 hts gX7_aside_X7_swap rfl rfl rfl (by decide +kernel) ⟨Nat.le_of_ble_eq_true rfl, Nat.le_of_ble_eq_true rfl⟩) hK hP hS rfl hl.1 (Nat.le_of_ble_eq_true rfl) (Nat.le_of_ble_eq_true rfl) (Nat.le_of_ble_eq_true rfl) dX7_aside_85 (fun H locs hP hS => ?_) rfl
  have hP : va_P D vwCl (VW K ad I3 G A9 L) H := hP
  refine lv_aload_n hx hb dX7_aside_88 rfl (lv_at hl 3 rfl) ?_
  refine vgC hx hb hts hi7 hown hK hP (318) (by decide) (show kd 318 = 7 by decide) (C := RX7) (T := TX7) (N := 79) rfl 34 (by decide) (by decide) (by decide) (by decide) (340) rfl (hts (.fieldLink RX7 80 "CrateHelpersModel" "key" "[I") (by decide +kernel)) (fun _ h9 => h9) dX7_aside_89 ?_
  refine lv_aload_n hx hb dX7_aside_92 rfl (lv_at hl 3 rfl) ?_
  refine vgC hx hb hts hi7 hown hK hP (318) (by decide) (show kd 318 = 7 by decide) (C := RX7) (T := TX7) (N := 79) rfl 69 (by decide) (by decide) (by decide) (by decide) (368) rfl (hts (.fieldLink RX7 171 "CrateHelpersModel" "asideKey" "[I") (by decide +kernel)) (fun _ h9 => h9) dX7_aside_93 ?_
  obtain ⟨A11, hc12, h⟩ := Option.bind_eq_some_iff.mp h
  refine ecSv (As := [.ref (ad 340), .ref (ad 368)]) (rest := []) ⟨hx, hb, hml, hown, hts⟩ (e_X7_swap l D K ad hap0 340 368 I3 G A9 L A11 hc12) (va_cwS 2 hts gX7_aside_X7_swap rfl rfl rfl (by decide +kernel) ⟨Nat.le_of_ble_eq_true rfl, Nat.le_of_ble_eq_true rfl⟩) hK hP hS rfl hl.1 (Nat.le_of_ble_eq_true rfl) (Nat.le_of_ble_eq_true rfl) (Nat.le_of_ble_eq_true rfl) dX7_aside_96 (fun H locs hP hS => ?_) rfl
  have hP : va_P D vwCl (VW K ad I3 G A11 L) H := hP
  refine lv_aload_n hx hb dX7_aside_99 rfl (lv_at hl 3 rfl) ?_
  refine vgC hx hb hts hi7 hown hK hP (318) (by decide) (show kd 318 = 7 by decide) (C := RX7) (T := TX7) (N := 79) rfl 35 (by decide) (by decide) (by decide) (by decide) (341) rfl (hts (.fieldLink RX7 83 "CrateHelpersModel" "bound" "[I") (by decide +kernel)) (fun _ h9 => h9) dX7_aside_100 ?_
  refine lv_aload_n hx hb dX7_aside_103 rfl (lv_at hl 3 rfl) ?_
  refine vgC hx hb hts hi7 hown hK hP (318) (by decide) (show kd 318 = 7 by decide) (C := RX7) (T := TX7) (N := 79) rfl 70 (by decide) (by decide) (by decide) (by decide) (369) rfl (hts (.fieldLink RX7 174 "CrateHelpersModel" "asideBound" "[I") (by decide +kernel)) (fun _ h9 => h9) dX7_aside_104 ?_
  obtain ⟨A13, hc14, h⟩ := Option.bind_eq_some_iff.mp h
  refine ecSv (As := [.ref (ad 341), .ref (ad 369)]) (rest := []) ⟨hx, hb, hml, hown, hts⟩ (e_X7_swap l D K ad hap0 341 369 I3 G A11 L A13 hc14) (va_cwS 2 hts gX7_aside_X7_swap rfl rfl rfl (by decide +kernel) ⟨Nat.le_of_ble_eq_true rfl, Nat.le_of_ble_eq_true rfl⟩) hK hP hS rfl hl.1 (Nat.le_of_ble_eq_true rfl) (Nat.le_of_ble_eq_true rfl) (Nat.le_of_ble_eq_true rfl) dX7_aside_107 (fun H locs hP hS => ?_) rfl
  have hP : va_P D vwCl (VW K ad I3 G A13 L) H := hP
  refine lv_aload_n hx hb dX7_aside_110 rfl (lv_at hl 3 rfl) ?_
  refine vgC hx hb hts hi7 hown hK hP (318) (by decide) (show kd 318 = 7 by decide) (C := RX7) (T := TX7) (N := 79) rfl 36 (by decide) (by decide) (by decide) (by decide) (342) rfl (hts (.fieldLink RX7 86 "CrateHelpersModel" "above" "[I") (by decide +kernel)) (fun _ h9 => h9) dX7_aside_111 ?_
  refine lv_aload_n hx hb dX7_aside_114 rfl (lv_at hl 3 rfl) ?_
  refine vgC hx hb hts hi7 hown hK hP (318) (by decide) (show kd 318 = 7 by decide) (C := RX7) (T := TX7) (N := 79) rfl 71 (by decide) (by decide) (by decide) (by decide) (370) rfl (hts (.fieldLink RX7 177 "CrateHelpersModel" "asideAbove" "[I") (by decide +kernel)) (fun _ h9 => h9) dX7_aside_115 ?_
  obtain ⟨A15, hc16, h⟩ := Option.bind_eq_some_iff.mp h
  refine ecSv (As := [.ref (ad 342), .ref (ad 370)]) (rest := []) ⟨hx, hb, hml, hown, hts⟩ (e_X7_swap l D K ad hap0 342 370 I3 G A13 L A15 hc16) (va_cwS 2 hts gX7_aside_X7_swap rfl rfl rfl (by decide +kernel) ⟨Nat.le_of_ble_eq_true rfl, Nat.le_of_ble_eq_true rfl⟩) hK hP hS rfl hl.1 (Nat.le_of_ble_eq_true rfl) (Nat.le_of_ble_eq_true rfl) (Nat.le_of_ble_eq_true rfl) dX7_aside_118 (fun H locs hP hS => ?_) rfl
  have hP : va_P D vwCl (VW K ad I3 G A15 L) H := hP
  refine lv_aload_n hx hb dX7_aside_121 rfl (lv_at hl 3 rfl) ?_
  refine vgC hx hb hts hi7 hown hK hP (318) (by decide) (show kd 318 = 7 by decide) (C := RX7) (T := TX7) (N := 79) rfl 37 (by decide) (by decide) (by decide) (by decide) (343) rfl (hts (.fieldLink RX7 89 "CrateHelpersModel" "holder" "[I") (by decide +kernel)) (fun _ h9 => h9) dX7_aside_122 ?_
  refine lv_aload_n hx hb dX7_aside_125 rfl (lv_at hl 3 rfl) ?_
  refine vgC hx hb hts hi7 hown hK hP (318) (by decide) (show kd 318 = 7 by decide) (C := RX7) (T := TX7) (N := 79) rfl 72 (by decide) (by decide) (by decide) (by decide) (371) rfl (hts (.fieldLink RX7 180 "CrateHelpersModel" "asideHolder" "[I") (by decide +kernel)) (fun _ h9 => h9) dX7_aside_126 ?_
  obtain ⟨A17, hc18, h⟩ := Option.bind_eq_some_iff.mp h
  refine ecSv (As := [.ref (ad 343), .ref (ad 371)]) (rest := []) ⟨hx, hb, hml, hown, hts⟩ (e_X7_swap l D K ad hap0 343 371 I3 G A15 L A17 hc18) (va_cwS 2 hts gX7_aside_X7_swap rfl rfl rfl (by decide +kernel) ⟨Nat.le_of_ble_eq_true rfl, Nat.le_of_ble_eq_true rfl⟩) hK hP hS rfl hl.1 (Nat.le_of_ble_eq_true rfl) (Nat.le_of_ble_eq_true rfl) (Nat.le_of_ble_eq_true rfl) dX7_aside_129 (fun H locs hP hS => ?_) rfl
  have hP : va_P D vwCl (VW K ad I3 G A17 L) H := hP
  refine lv_aload_n hx hb dX7_aside_132 rfl (lv_at hl 3 rfl) ?_
  refine vgC hx hb hts hi7 hown hK hP (318) (by decide) (show kd 318 = 7 by decide) (C := RX7) (T := TX7) (N := 79) rfl 38 (by decide) (by decide) (by decide) (by decide) (344) rfl (hts (.fieldLink RX7 92 "CrateHelpersModel" "isDone" "[Z") (by decide +kernel)) (fun _ h9 => h9) dX7_aside_133 ?_
  refine lv_aload_n hx hb dX7_aside_136 rfl (lv_at hl 3 rfl) ?_
  refine vgC hx hb hts hi7 hown hK hP (318) (by decide) (show kd 318 = 7 by decide) (C := RX7) (T := TX7) (N := 79) rfl 73 (by decide) (by decide) (by decide) (by decide) (372) rfl (hts (.fieldLink RX7 183 "CrateHelpersModel" "asideDone" "[Z") (by decide +kernel)) (fun _ h9 => h9) dX7_aside_137 ?_
  obtain ⟨A19, hc20, h⟩ := Option.bind_eq_some_iff.mp h
  refine ecSv (As := [.ref (ad 344), .ref (ad 372)]) (rest := []) ⟨hx, hb, hml, hown, hts⟩ (e_X7_turnRound l D K ad hap0 344 372 I3 G A17 L A19 hc20) (va_cwS 2 hts gX7_aside_X7_turnRound rfl rfl rfl (by decide +kernel) ⟨Nat.le_of_ble_eq_true rfl, Nat.le_of_ble_eq_true rfl⟩) hK hP hS rfl hl.1 (Nat.le_of_ble_eq_true rfl) (Nat.le_of_ble_eq_true rfl) (Nat.le_of_ble_eq_true rfl) dX7_aside_140 (fun H locs hP hS => ?_) rfl
  have hP : va_P D vwCl (VW K ad I3 G A19 L) H := hP
  refine lv_aload_n hx hb dX7_aside_143 rfl (lv_at hl 3 rfl) ?_
  refine vgC hx hb hts hi7 hown hK hP (318) (by decide) (show kd 318 = 7 by decide) (C := RX7) (T := TX7) (N := 79) rfl 39 (by decide) (by decide) (by decide) (by decide) (345) rfl (hts (.fieldLink RX7 96 "CrateHelpersModel" "isTaken" "[Z") (by decide +kernel)) (fun _ h9 => h9) dX7_aside_144 ?_
  refine lv_aload_n hx hb dX7_aside_147 rfl (lv_at hl 3 rfl) ?_
  refine vgC hx hb hts hi7 hown hK hP (318) (by decide) (show kd 318 = 7 by decide) (C := RX7) (T := TX7) (N := 79) rfl 74 (by decide) (by decide) (by decide) (by decide) (373) rfl (hts (.fieldLink RX7 186 "CrateHelpersModel" "asideTaken" "[Z") (by decide +kernel)) (fun _ h9 => h9) dX7_aside_148 ?_
  obtain ⟨A21, hc22, h⟩ := Option.bind_eq_some_iff.mp h
  refine ecSv (As := [.ref (ad 345), .ref (ad 373)]) (rest := []) ⟨hx, hb, hml, hown, hts⟩ (e_X7_turnRound l D K ad hap0 345 373 I3 G A19 L A21 hc22) (va_cwS 2 hts gX7_aside_X7_turnRound rfl rfl rfl (by decide +kernel) ⟨Nat.le_of_ble_eq_true rfl, Nat.le_of_ble_eq_true rfl⟩) hK hP hS rfl hl.1 (Nat.le_of_ble_eq_true rfl) (Nat.le_of_ble_eq_true rfl) (Nat.le_of_ble_eq_true rfl) dX7_aside_151 (fun H locs hP hS => ?_) rfl
  have hP : va_P D vwCl (VW K ad I3 G A21 L) H := hP
  refine lv_aload_n hx hb dX7_aside_154 rfl (lv_at hl 3 rfl) ?_
  refine vgC hx hb hts hi7 hown hK hP (318) (by decide) (show kd 318 = 7 by decide) (C := RX7) (T := TX7) (N := 79) rfl 40 (by decide) (by decide) (by decide) (by decide) (346) rfl (hts (.fieldLink RX7 99 "CrateHelpersModel" "order" "[I") (by decide +kernel)) (fun _ h9 => h9) dX7_aside_155 ?_
  refine lv_aload_n hx hb dX7_aside_158 rfl (lv_at hl 3 rfl) ?_
  refine vgC hx hb hts hi7 hown hK hP (318) (by decide) (show kd 318 = 7 by decide) (C := RX7) (T := TX7) (N := 79) rfl 75 (by decide) (by decide) (by decide) (by decide) (374) rfl (hts (.fieldLink RX7 189 "CrateHelpersModel" "asideOrder" "[I") (by decide +kernel)) (fun _ h9 => h9) dX7_aside_159 ?_
  obtain ⟨A23, hc24, h⟩ := Option.bind_eq_some_iff.mp h
  refine ecSv (As := [.ref (ad 346), .ref (ad 374)]) (rest := []) ⟨hx, hb, hml, hown, hts⟩ (e_X7_swap l D K ad hap0 346 374 I3 G A21 L A23 hc24) (va_cwS 2 hts gX7_aside_X7_swap rfl rfl rfl (by decide +kernel) ⟨Nat.le_of_ble_eq_true rfl, Nat.le_of_ble_eq_true rfl⟩) hK hP hS rfl hl.1 (Nat.le_of_ble_eq_true rfl) (Nat.le_of_ble_eq_true rfl) (Nat.le_of_ble_eq_true rfl) dX7_aside_162 (fun H locs hP hS => ?_) rfl
  have hP : va_P D vwCl (VW K ad I3 G A23 L) H := hP
  refine lv_aload_n hx hb dX7_aside_165 rfl (lv_at hl 3 rfl) ?_
  refine vgC hx hb hts hi7 hown hK hP (318) (by decide) (show kd 318 = 7 by decide) (C := RX7) (T := TX7) (N := 79) rfl 41 (by decide) (by decide) (by decide) (by decide) (347) rfl (hts (.fieldLink RX7 102 "CrateHelpersModel" "closing" "[I") (by decide +kernel)) (fun _ h9 => h9) dX7_aside_166 ?_
  refine lv_aload_n hx hb dX7_aside_169 rfl (lv_at hl 3 rfl) ?_
  refine vgC hx hb hts hi7 hown hK hP (318) (by decide) (show kd 318 = 7 by decide) (C := RX7) (T := TX7) (N := 79) rfl 76 (by decide) (by decide) (by decide) (by decide) (375) rfl (hts (.fieldLink RX7 192 "CrateHelpersModel" "asideClosing" "[I") (by decide +kernel)) (fun _ h9 => h9) dX7_aside_170 ?_
  obtain ⟨A25, hc26, h⟩ := Option.bind_eq_some_iff.mp h
  refine ecSv (As := [.ref (ad 347), .ref (ad 375)]) (rest := []) ⟨hx, hb, hml, hown, hts⟩ (e_X7_swap l D K ad hap0 347 375 I3 G A23 L A25 hc26) (va_cwS 2 hts gX7_aside_X7_swap rfl rfl rfl (by decide +kernel) ⟨Nat.le_of_ble_eq_true rfl, Nat.le_of_ble_eq_true rfl⟩) hK hP hS rfl hl.1 (Nat.le_of_ble_eq_true rfl) (Nat.le_of_ble_eq_true rfl) (Nat.le_of_ble_eq_true rfl) dX7_aside_173 (fun H locs hP hS => ?_) rfl
  have hP : va_P D vwCl (VW K ad I3 G A25 L) H := hP
  refine lv_aload_n hx hb dX7_aside_176 rfl (lv_at hl 3 rfl) ?_
  refine vgC hx hb hts hi7 hown hK hP (318) (by decide) (show kd 318 = 7 by decide) (C := RX7) (T := TX7) (N := 79) rfl 42 (by decide) (by decide) (by decide) (by decide) (348) rfl (hts (.fieldLink RX7 105 "CrateHelpersModel" "reason" "[I") (by decide +kernel)) (fun _ h9 => h9) dX7_aside_177 ?_
  refine lv_aload_n hx hb dX7_aside_180 rfl (lv_at hl 3 rfl) ?_
  refine vgC hx hb hts hi7 hown hK hP (318) (by decide) (show kd 318 = 7 by decide) (C := RX7) (T := TX7) (N := 79) rfl 77 (by decide) (by decide) (by decide) (by decide) (376) rfl (hts (.fieldLink RX7 195 "CrateHelpersModel" "asideReason" "[I") (by decide +kernel)) (fun _ h9 => h9) dX7_aside_181 ?_
  obtain ⟨A27, hc28, h⟩ := Option.bind_eq_some_iff.mp h
  refine ecSv (As := [.ref (ad 348), .ref (ad 376)]) (rest := []) ⟨hx, hb, hml, hown, hts⟩ (e_X7_swap l D K ad hap0 348 376 I3 G A25 L A27 hc28) (va_cwS 2 hts gX7_aside_X7_swap rfl rfl rfl (by decide +kernel) ⟨Nat.le_of_ble_eq_true rfl, Nat.le_of_ble_eq_true rfl⟩) hK hP hS rfl hl.1 (Nat.le_of_ble_eq_true rfl) (Nat.le_of_ble_eq_true rfl) (Nat.le_of_ble_eq_true rfl) dX7_aside_184 (fun H locs hP hS => ?_) rfl
  have hP : va_P D vwCl (VW K ad I3 G A27 L) H := hP
  refine lv_aload_n hx hb dX7_aside_187 rfl (lv_at hl 3 rfl) ?_
  refine vgC hx hb hts hi7 hown hK hP (318) (by decide) (show kd 318 = 7 by decide) (C := RX7) (T := TX7) (N := 79) rfl 43 (by decide) (by decide) (by decide) (by decide) (349) rfl (hts (.fieldLink RX7 108 "CrateHelpersModel" "openBelow" "[I") (by decide +kernel)) (fun _ h9 => h9) dX7_aside_188 ?_
  refine lv_aload_n hx hb dX7_aside_191 rfl (lv_at hl 3 rfl) ?_
  refine vgC hx hb hts hi7 hown hK hP (318) (by decide) (show kd 318 = 7 by decide) (C := RX7) (T := TX7) (N := 79) rfl 78 (by decide) (by decide) (by decide) (by decide) (377) rfl (hts (.fieldLink RX7 198 "CrateHelpersModel" "asideOpen" "[I") (by decide +kernel)) (fun _ h9 => h9) dX7_aside_192 ?_
  obtain ⟨A29, hc30, h⟩ := Option.bind_eq_some_iff.mp h
  refine ecSv (As := [.ref (ad 349), .ref (ad 377)]) (rest := []) ⟨hx, hb, hml, hown, hts⟩ (e_X7_swap l D K ad hap0 349 377 I3 G A27 L A29 hc30) (va_cwS 2 hts gX7_aside_X7_swap rfl rfl rfl (by decide +kernel) ⟨Nat.le_of_ble_eq_true rfl, Nat.le_of_ble_eq_true rfl⟩) hK hP hS rfl hl.1 (Nat.le_of_ble_eq_true rfl) (Nat.le_of_ble_eq_true rfl) (Nat.le_of_ble_eq_true rfl) dX7_aside_195 (fun H locs hP hS => ?_) rfl
  have hP : va_P D vwCl (VW K ad I3 G A29 L) H := hP
  exact W.vret hx hb hr (fun t9 ht9 hW9 => ⟨⟨(I3, G, A29, L), rfl, by cases h; rfl, by rw [ht9]; exact hP, va_K.moved hW9.alike hK⟩, hS.F ht9⟩) hS.2.2 dX7_aside_198
set_option maxHeartbeats 4000000 in
set_option maxRecDepth 100000 in
theorem e_X7_ask (l : Launch) (D : va_G) (K : Nat → ClassId) (ad : Nat → Nat) (hap0 : apart ad (fun _ => True)) (a1 : Int32) (I : Nat → Nat → Int32) (G : Nat → Nat → Nat) (A : Nat → Nat → Int32) (L : Nat → Nat → Int64) (r0 : Int32) (I0 : Nat → Nat → Int32) (h : f_X7_ask I A a1 = some (r0, I0)) : Ci l D K ad yX7_ask wsX7_ask 2 49 [.ref (ad 318), .int a1] (I, G, A, L) (fun (r : Int32) (u : Mem) => r = r0 ∧ u = (I0, G, A, L)) := by
  intro sz
  refine Met.ofW (cc := cX7_ask) (maxL := 2) (ret := (some .int)) (by decide) rfl ?_
  intro p e s m args below meth c s₁ Bd hml hv0
  obtain ⟨rfl, hsz, hP, hK⟩ := hv0
  have hx := Bd.exec
  have hb := Bd.bytes
  have hr := Bd.returns
  have hts := atoms_spec (ws := wsX7_ask) Bd.pre
  have hown : s.vm.findClass RX7 = some m.cls := findClass_of_methodNamed Bd.named
  have hlocks := Bd.notSynchronized
  have hi7 : ∀ w ∈ u_ws RX7 TX7 79, w ∈ wsX7_ask := fun w h => List.mem_cons_of_mem _ (List.mem_append_right _ h)
  subst hsz
  have hap := vF_ap hap0 s.heap.size
  have hS : va_S (vF ad s.heap.size) s.heap s.heap [] := va_S.rf
  have hP : va_P D vwCl (VW K ad I G A L) s.heap := hP
  have hl := lv_entry ([.ref (ad 318), .int a1]) (n := 2) (Nat.le_of_ble_eq_true rfl)
  rw [lg_entry_eq]
  generalize (lg_sl ([.ref (ad 318), .int a1]) ++ List.replicate (2 - (lg_sl ([.ref (ad 318), .int a1])).length) Slot.unset).toArray = ls at hl ⊢
  have hl : lv_has ls 2 [(0, .ref (ad 318)), (1, .int a1)] := hl
  rw [f_X7_ask] at h
  refine lv_aload_n hx hb dX7_ask_0 rfl (lv_at hl 0 rfl) ?_
  refine lv_iconst (v := 0) hx hb dX7_ask_1 (by decide) ?_
  refine vpI (v := 0) (ty := .int) hx hb hts hi7 tyX7 tyX7_ok nmX7 hown hK hP hap hS (318) (by decide) (show kd 318 = 7 by decide) (C := RX7) (T := TX7) (N := 79) rfl 0 (by decide) (by decide) (by decide) (by decide) (hts (.fieldLink RX7 201 "CrateHelpersModel" "thrown" "I") (by decide +kernel)) (fun _ h9 => h9) rfl (by decide +kernel) rfl rfl dX7_ask_2 (fun H locs hP hS => ?_)
  obtain ⟨I1, eI1, h⟩ := bd_e h
  rw [← eI1] at hP
  have hP : va_P D vwCl (VW K ad I1 G A L) H := hP
  refine lv_aload_n hx hb dX7_ask_5 rfl (lv_at hl 0 rfl) ?_
  refine lv_iload_n hx hb dX7_ask_6 rfl (lv_at hl 1 rfl) ?_
  obtain ⟨r2, hc3, h⟩ := Option.bind_eq_some_iff.mp h
  refine ecV (As := [.int a1]) (rest := []) ⟨hx, hb, hml, hown, hts⟩ (e_X7_isProblem l D K ad hap0 a1 I1 G A L r2 hc3) (cwV 1 hts gX7_ask_X7_isProblem rfl rfl rfl (by decide +kernel) ⟨Nat.le_of_ble_eq_true rfl, Nat.le_of_ble_eq_true rfl⟩) hK hP hS (by decide) (show kd 318 = 7 by decide) (by decide) rfl rfl rfl hl.1 (Nat.le_of_ble_eq_true rfl) (Nat.le_of_ble_eq_true rfl) (Nat.le_of_ble_eq_true rfl) dX7_ask_7 (fun H locs hP hS => ?_) rfl
  have hP : va_P D vwCl (VW K ad I1 G A L) H := hP
  refine lv_if_ne (tgt := 15) hx hb dX7_ask_10 (by decide) (fun c_4 => ?_) (fun c_4 => ?_)
  · have h := iN c_4 h
    refine lv_aload_n hx hb dX7_ask_15 rfl (lv_at hl 0 rfl) ?_
    refine lv_iload_n hx hb dX7_ask_16 rfl (lv_at hl 1 rfl) ?_
    refine vpI (v := a1) (ty := .int) hx hb hts hi7 tyX7 tyX7_ok nmX7 hown hK hP hap hS (318) (by decide) (show kd 318 = 7 by decide) (C := RX7) (T := TX7) (N := 79) rfl 57 (by decide) (by decide) (by decide) (by decide) (hts (.fieldLink RX7 147 "CrateHelpersModel" "asked" "I") (by decide +kernel)) (fun _ h9 => h9) rfl (by decide +kernel) rfl rfl dX7_ask_17 (fun H locs hP hS => ?_)
    obtain ⟨I5, eI5, h⟩ := bd_e h
    rw [← eI5] at hP
    have hP : va_P D vwCl (VW K ad I5 G A L) H := hP
    refine lv_aload_n hx hb dX7_ask_20 rfl (lv_at hl 0 rfl) ?_
    refine lv_aload_n hx hb dX7_ask_21 rfl (lv_at hl 0 rfl) ?_
    refine vgC hx hb hts hi7 hown hK hP (318) (by decide) (show kd 318 = 7 by decide) (C := RX7) (T := TX7) (N := 79) rfl 13 (by decide) (by decide) (by decide) (by decide) (329) rfl (hts (.fieldLink RX7 40 "CrateHelpersModel" "changed" "[I") (by decide +kernel)) (fun _ h9 => h9) dX7_ask_22 ?_
    refine lv_iload_n hx hb dX7_ask_25 rfl (lv_at hl 1 rfl) ?_
    obtain ⟨hn6, h⟩ := gk h
    refine xiald hx hb hK hP (329) (by decide) (show kd 329 = 8 by decide) (by rw [show ln 329 = 5 by decide]; exact hn6) dX7_ask_26 ?_
    refine vpI (v := (A 329 a1.toNatClampNeg)) (ty := .int) hx hb hts hi7 tyX7 tyX7_ok nmX7 hown hK hP hap hS (318) (by decide) (show kd 318 = 7 by decide) (C := RX7) (T := TX7) (N := 79) rfl 58 (by decide) (by decide) (by decide) (by decide) (hts (.fieldLink RX7 339 "CrateHelpersModel" "askedChange" "I") (by decide +kernel)) (fun _ h9 => h9) rfl (by decide +kernel) rfl rfl dX7_ask_27 (fun H locs hP hS => ?_)
    obtain ⟨I7, eI7, h⟩ := bd_e h
    rw [← eI7] at hP
    have hP : va_P D vwCl (VW K ad I7 G A L) H := hP
    refine lv_aload_n hx hb dX7_ask_30 rfl (lv_at hl 0 rfl) ?_
    refine lv_iconst (v := 0) hx hb dX7_ask_31 (by decide) ?_
    refine vpI (v := 0) (ty := .int) hx hb hts hi7 tyX7 tyX7_ok nmX7 hown hK hP hap hS (318) (by decide) (show kd 318 = 7 by decide) (C := RX7) (T := TX7) (N := 79) rfl 59 (by decide) (by decide) (by decide) (by decide) (hts (.fieldLink RX7 342 "CrateHelpersModel" "askedDepth" "I") (by decide +kernel)) (fun _ h9 => h9) rfl (by decide +kernel) rfl rfl dX7_ask_32 (fun H locs hP hS => ?_)
    obtain ⟨I8, eI8, h⟩ := bd_e h
    rw [← eI8] at hP
    have hP : va_P D vwCl (VW K ad I8 G A L) H := hP
    refine lv_aload_n hx hb dX7_ask_35 rfl (lv_at hl 0 rfl) ?_
    refine vgC hx hb hts hi7 hown hK hP (318) (by decide) (show kd 318 = 7 by decide) (C := RX7) (T := TX7) (N := 79) rfl 3 (by decide) (by decide) (by decide) (by decide) (319) rfl (hts (.fieldLink RX7 7 "CrateHelpersModel" "variables" "[I") (by decide +kernel)) (fun _ h9 => h9) dX7_ask_36 ?_
    refine lv_iload_n hx hb dX7_ask_39 rfl (lv_at hl 1 rfl) ?_
    refine xiald hx hb hK hP (319) (by decide) (show kd 319 = 8 by decide) (by rw [show ln 319 = 5 by decide]; exact hn6) dX7_ask_40 ?_
    exact W.iret (v := (A 319 a1.toNatClampNeg)) hx hb hr (fun t9 ht9 hW9 => ⟨⟨(A 319 a1.toNatClampNeg), (I8, G, A, L), rfl, by cases h; exact ⟨rfl, rfl⟩, by rw [ht9]; exact hP, va_K.moved hW9.alike hK⟩, hS.F ht9⟩) hS.2.2 dX7_ask_41
  · have h := ip c_4 h
    refine lv_iconst (v := (-1)) hx hb dX7_ask_13 (by decide) ?_
    exact W.iret (v := (-1)) hx hb hr (fun t9 ht9 hW9 => ⟨⟨(-1), (I1, G, A, L), rfl, by cases h; exact ⟨rfl, rfl⟩, by rw [ht9]; exact hP, va_K.moved hW9.alike hK⟩, hS.F ht9⟩) hS.2.2 dX7_ask_14
set_option maxHeartbeats 4000000 in
set_option maxRecDepth 100000 in
theorem e_X7_isFalling (l : Launch) (D : va_G) (K : Nat → ClassId) (ad : Nat → Nat) (hap0 : apart ad (fun _ => True)) (a1 : Int32) (I : Nat → Nat → Int32) (G : Nat → Nat → Nat) (A : Nat → Nat → Int32) (L : Nat → Nat → Int64) (r0 : Int32) (h : f_X7_isFalling A a1 = some r0) : Ci l D K ad yX7_isFalling wsX7_isFalling 0 0 [.ref (ad 318), .int a1] (I, G, A, L) (fun (r : Int32) (u : Mem) => r = r0 ∧ u = (I, G, A, L)) := by
  intro sz
  refine Met.ofW (cc := cX7_isFalling) (maxL := 5) (ret := (some .boolean)) (by decide) rfl ?_
  intro p e s m args below meth c s₁ Bd hml hv0
  obtain ⟨rfl, hsz, hP, hK⟩ := hv0
  have hx := Bd.exec
  have hb := Bd.bytes
  have hr := Bd.returns
  have hts := atoms_spec (ws := wsX7_isFalling) Bd.pre
  have hown : s.vm.findClass RX7 = some m.cls := findClass_of_methodNamed Bd.named
  have hlocks := Bd.notSynchronized
  have hi7 : ∀ w ∈ u_ws RX7 TX7 79, w ∈ wsX7_isFalling := fun w h => List.mem_cons_of_mem _ (List.mem_append_right _ h)
  subst hsz
  have hap := vF_ap hap0 s.heap.size
  have hS : va_S (vF ad s.heap.size) s.heap s.heap [] := va_S.rf
  have hP : va_P D vwCl (VW K ad I G A L) s.heap := hP
  have hl := lv_entry ([.ref (ad 318), .int a1]) (n := 5) (Nat.le_of_ble_eq_true rfl)
  rw [lg_entry_eq]
  generalize (lg_sl ([.ref (ad 318), .int a1]) ++ List.replicate (5 - (lg_sl ([.ref (ad 318), .int a1])).length) Slot.unset).toArray = ls at hl ⊢
  have hl : lv_has ls 5 [(0, .ref (ad 318)), (1, .int a1)] := hl
  rw [f_X7_isFalling] at h
  refine lv_iconst (v := 1) hx hb dX7_isFalling_0 (by decide) ?_
  refine lv_istore_n (lv' := [(2, .int 1), (0, .ref (ad 318)), (1, .int a1)]) hx hb dX7_isFalling_1 rfl hl (by decide) rfl (fun ls hl => ?_)
  obtain ⟨k3, ek3, h⟩ := bd_e h
  have kk3 : ∀ (_ : Unit), k3 () = some r0 → ∀ (H : Heap) (locs : List Loc), va_P D vwCl (VW K ad I G A L) H → va_S (vF ad s.heap.size) s.heap H locs → ∀ (ls : Array Slot), lv_has ls 5 [] → W p l e ({ frames := 0, cells := 0, slots := 0, locals := 0 }) s m ([.ref (ad 318), .int a1] : List Value).toArray below meth c H locs 0 0 (MQ below (va_Qi (fun (r : Int32) (u : Mem) => r = r0 ∧ u = (I, G, A, L)) (vB D K ad) (vF ad s.heap.size)) ([.ref (ad 318), .int a1] : List Value).toArray s 0 0 (vF ad s.heap.size)) (F0 m 75 ls []) := by
    intro _ h H locs hP hS ls hl
    subst ek3
    refine lv_iconst (v := 1) hx hb dX7_isFalling_75 (by decide) ?_
    exact W.zret (v := 1) hx hb hr (by decide) (fun t9 ht9 hW9 => ⟨⟨1, (I, G, A, L), rfl, by cases h; exact ⟨rfl, rfl⟩, by rw [ht9]; exact hP, va_K.moved hW9.alike hK⟩, hS.F ht9⟩) hS.2.2 dX7_isFalling_76
  obtain ⟨k4, ek4, h⟩ := bd_e h
  have kk4 : ∀ (_ : Unit), k4 () = some r0 → ∀ (H : Heap) (locs : List Loc), va_P D vwCl (VW K ad I G A L) H → va_S (vF ad s.heap.size) s.heap H locs → ∀ (ls : Array Slot), lv_has ls 5 [] → W p l e ({ frames := 0, cells := 0, slots := 0, locals := 0 }) s m ([.ref (ad 318), .int a1] : List Value).toArray below meth c H locs 0 0 (MQ below (va_Qi (fun (r : Int32) (u : Mem) => r = r0 ∧ u = (I, G, A, L)) (vB D K ad) (vF ad s.heap.size)) ([.ref (ad 318), .int a1] : List Value).toArray s 0 0 (vF ad s.heap.size)) (F0 m 83 ls []) := by
    intro _ h H locs hP hS ls hl
    subst ek4
    refine lv_iconst (v := 0) hx hb dX7_isFalling_83 (by decide) ?_
    exact W.zret (v := 0) hx hb hr (by decide) (fun t9 ht9 hW9 => ⟨⟨0, (I, G, A, L), rfl, by cases h; exact ⟨rfl, rfl⟩, by rw [ht9]; exact hP, va_K.moved hW9.alike hK⟩, hS.F ht9⟩) hS.2.2 dX7_isFalling_84
  have lp1 : ∀ (n : Nat) (v2 : Int32), f_X7_isFalling_L2 a1 A k3 k4 n v2 = some r0 → ∀ (H : Heap) (locs : List Loc), va_P D vwCl (VW K ad I G A L) H → va_S (vF ad s.heap.size) s.heap H locs → ∀ (ls : Array Slot), lv_has ls 5 [(2, .int v2), (0, .ref (ad 318)), (1, .int a1)] → W p l e ({ frames := 0, cells := 0, slots := 0, locals := 0 }) s m ([.ref (ad 318), .int a1] : List Value).toArray below meth c H locs 0 0 (MQ below (va_Qi (fun (r : Int32) (u : Mem) => r = r0 ∧ u = (I, G, A, L)) (vB D K ad) (vF ad s.heap.size)) ([.ref (ad 318), .int a1] : List Value).toArray s 0 0 (vF ad s.heap.size)) (F0 m 2 ls []) := by
    intro n
    induction n with
    | zero => intro v2 h; exact absurd h (by rw [f_X7_isFalling_L2]; exact nofun)
    | succ n ih1 =>
      intro v2 h H locs hP hS ls hl
      rw [f_X7_isFalling_L2] at h
      refine lv_iload_n hx hb dX7_isFalling_2 rfl (lv_at hl 0 rfl) ?_
      refine lv_aload_n hx hb dX7_isFalling_3 rfl (lv_at hl 1 rfl) ?_
      refine vgC hx hb hts hi7 hown hK hP (318) (by decide) (show kd 318 = 7 by decide) (C := RX7) (T := TX7) (N := 79) rfl 10 (by decide) (by decide) (by decide) (by decide) (326) rfl (hts (.fieldLink RX7 31 "CrateHelpersModel" "parts" "[I") (by decide +kernel)) (fun _ h9 => h9) dX7_isFalling_4 ?_
      refine lv_iload_n hx hb dX7_isFalling_7 rfl (lv_at hl 2 rfl) ?_
      obtain ⟨hn5, h⟩ := gk h
      refine xiald hx hb hK hP (326) (by decide) (show kd 326 = 8 by decide) (by rw [show ln 326 = 40 by decide]; exact hn5) dX7_isFalling_8 ?_
      refine lv_icmp_ge (tgt := 83) hx hb dX7_isFalling_9 (by decide) (fun c_6 => ?_) (fun c_6 => ?_)
      · have h := iN (Int32.not_lt.mpr c_6) h
        exact kk4 () h _ _ hP hS ls (lv_sub hl [] rfl)
      · have h := ip (Int32.not_le.mp c_6) h
        refine lv_aload_n hx hb dX7_isFalling_12 rfl (lv_at hl 1 rfl) ?_
        refine vgC hx hb hts hi7 hown hK hP (318) (by decide) (show kd 318 = 7 by decide) (C := RX7) (T := TX7) (N := 79) rfl 63 (by decide) (by decide) (by decide) (by decide) (364) rfl (hts (.fieldLink RX7 159 "CrateHelpersModel" "now" "[I") (by decide +kernel)) (fun _ h9 => h9) dX7_isFalling_13 ?_
        refine lv_aload_n hx hb dX7_isFalling_16 rfl (lv_at hl 1 rfl) ?_
        refine vgC hx hb hts hi7 hown hK hP (318) (by decide) (show kd 318 = 7 by decide) (C := RX7) (T := TX7) (N := 79) rfl 11 (by decide) (by decide) (by decide) (by decide) (327) rfl (hts (.fieldLink RX7 34 "CrateHelpersModel" "partOf" "[I") (by decide +kernel)) (fun _ h9 => h9) dX7_isFalling_17 ?_
        refine lv_bipush (v := 6) hx hb dX7_isFalling_20 (by decide) ?_
        refine lv_iload_n hx hb dX7_isFalling_22 rfl (lv_at hl 2 rfl) ?_
        refine lv_imul hx hb dX7_isFalling_23 ?_
        refine lv_iload_n hx hb dX7_isFalling_24 rfl (lv_at hl 0 rfl) ?_
        refine lv_iadd hx hb dX7_isFalling_25 ?_
        refine lv_iconst (v := 1) hx hb dX7_isFalling_26 (by decide) ?_
        refine lv_isub hx hb dX7_isFalling_27 ?_
        obtain ⟨hn7, h⟩ := gk h
        refine xiald hx hb hK hP (327) (by decide) (show kd 327 = 8 by decide) (by rw [show ln 327 = 240 by decide]; exact hn7) dX7_isFalling_28 ?_
        obtain ⟨hn8, h⟩ := gk h
        refine xiald hx hb hK hP (364) (by decide) (show kd 364 = 8 by decide) (by rw [show ln 364 = 6 by decide]; exact hn8) dX7_isFalling_29 ?_
        refine lv_istore_n (lv' := [(3, .int (A 364 ((A 327 ((((6 * a1) + v2) - 1).toNatClampNeg)).toNatClampNeg))), (2, .int v2), (0, .ref (ad 318)), (1, .int a1)]) hx hb dX7_isFalling_30 rfl hl (by decide) rfl (fun ls hl => ?_)
        refine lv_aload_n hx hb dX7_isFalling_31 rfl (lv_at hl 2 rfl) ?_
        refine vgC hx hb hts hi7 hown hK hP (318) (by decide) (show kd 318 = 7 by decide) (C := RX7) (T := TX7) (N := 79) rfl 63 (by decide) (by decide) (by decide) (by decide) (364) rfl (hts (.fieldLink RX7 159 "CrateHelpersModel" "now" "[I") (by decide +kernel)) (fun _ h9 => h9) dX7_isFalling_32 ?_
        refine lv_aload_n hx hb dX7_isFalling_35 rfl (lv_at hl 2 rfl) ?_
        refine vgC hx hb hts hi7 hown hK hP (318) (by decide) (show kd 318 = 7 by decide) (C := RX7) (T := TX7) (N := 79) rfl 11 (by decide) (by decide) (by decide) (by decide) (327) rfl (hts (.fieldLink RX7 34 "CrateHelpersModel" "partOf" "[I") (by decide +kernel)) (fun _ h9 => h9) dX7_isFalling_36 ?_
        refine lv_bipush (v := 6) hx hb dX7_isFalling_39 (by decide) ?_
        refine lv_iload_n hx hb dX7_isFalling_41 rfl (lv_at hl 3 rfl) ?_
        refine lv_imul hx hb dX7_isFalling_42 ?_
        refine lv_iload_n hx hb dX7_isFalling_43 rfl (lv_at hl 1 rfl) ?_
        refine lv_iadd hx hb dX7_isFalling_44 ?_
        obtain ⟨hn9, h⟩ := gk h
        refine xiald hx hb hK hP (327) (by decide) (show kd 327 = 8 by decide) (by rw [show ln 327 = 240 by decide]; exact hn9) dX7_isFalling_45 ?_
        obtain ⟨hn10, h⟩ := gk h
        refine xiald hx hb hK hP (364) (by decide) (show kd 364 = 8 by decide) (by rw [show ln 364 = 6 by decide]; exact hn10) dX7_isFalling_46 ?_
        refine lv_istore (lv' := [(4, .int (A 364 ((A 327 (((6 * a1) + v2).toNatClampNeg)).toNatClampNeg))), (3, .int (A 364 ((A 327 ((((6 * a1) + v2) - 1).toNatClampNeg)).toNatClampNeg))), (2, .int v2), (0, .ref (ad 318)), (1, .int a1)]) hx hb dX7_isFalling_47 hl (by decide) rfl (fun ls hl => ?_)
        refine lv_iload_n hx hb dX7_isFalling_49 rfl (lv_at hl 1 rfl) ?_
        refine lv_bipush (v := (-9)) hx hb dX7_isFalling_50 (by decide) ?_
        refine lv_icmp_eq (tgt := 77) hx hb dX7_isFalling_52 (by decide) (fun c_11 => ?_) (fun c_11 => ?_)
        · have h := ip c_11 h
          refine lv_iinc (v := (v2 + 1)) (lv' := [(2, .int (v2 + 1)), (4, .int (A 364 ((A 327 (((6 * a1) + v2).toNatClampNeg)).toNatClampNeg))), (3, .int (A 364 ((A 327 ((((6 * a1) + v2) - 1).toNatClampNeg)).toNatClampNeg))), (0, .ref (ad 318)), (1, .int a1)]) hx hb dX7_isFalling_77 hl (k := 2) rfl rfl (by decide) rfl (fun ls hl => ?_)
          refine lv_goto (tgt := 2) hx hb dX7_isFalling_80 (by decide) ?_
          exact ih1 (v2 + 1) h _ _ hP hS ls (lv_sub hl [0, 3, 4] rfl)
        · have h := iN c_11 h
          refine lv_iload hx hb dX7_isFalling_55 (lv_at hl 0 rfl) ?_
          refine lv_bipush (v := (-9)) hx hb dX7_isFalling_57 (by decide) ?_
          refine lv_icmp_eq (tgt := 77) hx hb dX7_isFalling_59 (by decide) (fun c_12 => ?_) (fun c_12 => ?_)
          · have h := ip c_12 h
            refine lv_iinc (v := (v2 + 1)) (lv' := [(2, .int (v2 + 1)), (4, .int (A 364 ((A 327 (((6 * a1) + v2).toNatClampNeg)).toNatClampNeg))), (3, .int (A 364 ((A 327 ((((6 * a1) + v2) - 1).toNatClampNeg)).toNatClampNeg))), (0, .ref (ad 318)), (1, .int a1)]) hx hb dX7_isFalling_77 hl (k := 2) rfl rfl (by decide) rfl (fun ls hl => ?_)
            refine lv_goto (tgt := 2) hx hb dX7_isFalling_80 (by decide) ?_
            exact ih1 (v2 + 1) h _ _ hP hS ls (lv_sub hl [0, 3, 4] rfl)
          · have h := iN c_12 h
            refine lv_iload hx hb dX7_isFalling_62 (lv_at hl 0 rfl) ?_
            refine lv_iload_n hx hb dX7_isFalling_64 rfl (lv_at hl 1 rfl) ?_
            refine lv_aload_n hx hb dX7_isFalling_65 rfl (lv_at hl 3 rfl) ?_
            refine vgC hx hb hts hi7 hown hK hP (318) (by decide) (show kd 318 = 7 by decide) (C := RX7) (T := TX7) (N := 79) rfl 9 (by decide) (by decide) (by decide) (by decide) (325) rfl (hts (.fieldLink RX7 28 "CrateHelpersModel" "ruleNumber" "[I") (by decide +kernel)) (fun _ h9 => h9) dX7_isFalling_66 ?_
            refine lv_iload_n hx hb dX7_isFalling_69 rfl (lv_at hl 4 rfl) ?_
            refine xiald hx hb hK hP (325) (by decide) (show kd 325 = 8 by decide) (by rw [show ln 325 = 40 by decide]; exact hn5) dX7_isFalling_70 ?_
            refine lv_iadd hx hb dX7_isFalling_71 ?_
            refine lv_icmp_ge (tgt := 77) hx hb dX7_isFalling_72 (by decide) (fun c_13 => ?_) (fun c_13 => ?_)
            · have h := iN (Int32.not_lt.mpr c_13) h
              refine lv_iinc (v := (v2 + 1)) (lv' := [(2, .int (v2 + 1)), (4, .int (A 364 ((A 327 (((6 * a1) + v2).toNatClampNeg)).toNatClampNeg))), (3, .int (A 364 ((A 327 ((((6 * a1) + v2) - 1).toNatClampNeg)).toNatClampNeg))), (0, .ref (ad 318)), (1, .int a1)]) hx hb dX7_isFalling_77 hl (k := 2) rfl rfl (by decide) rfl (fun ls hl => ?_)
              refine lv_goto (tgt := 2) hx hb dX7_isFalling_80 (by decide) ?_
              exact ih1 (v2 + 1) h _ _ hP hS ls (lv_sub hl [0, 3, 4] rfl)
            · have h := ip (Int32.not_le.mp c_13) h
              exact kk3 () h _ _ hP hS ls (lv_sub hl [] rfl)
  exact lp1 FU 1 h _ _ hP hS ls (lv_sub hl [0, 1, 2] rfl)
