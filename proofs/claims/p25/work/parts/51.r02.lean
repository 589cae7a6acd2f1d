set_option maxHeartbeats 4000000 in
set_option maxRecDepth 100000 in
theorem e_X7_isLoaded (l : Launch) (D : va_G) (K : Nat → ClassId) (ad : Nat → Nat) (hap0 : apart ad (fun _ => True)) (a1 : Int32) (I : Nat → Nat → Int32) (G : Nat → Nat → Nat) (A : Nat → Nat → Int32) (L : Nat → Nat → Int64) (r0 : Int32) (h : f_X7_isLoaded A a1 = some r0) : Ci l D K ad yX7_isLoaded wsX7_isLoaded 0 0 [.ref (ad 318), .int a1] (I, G, A, L) (fun (r : Int32) (u : Mem) => r = r0 ∧ u = (I, G, A, L)) := by
  intro sz
  refine Met.ofW (cc := cX7_isLoaded) (maxL := 7) (ret := (some .boolean)) (by decide) rfl ?_
  intro p e s m args below meth c s₁ Bd hml hv0
  obtain ⟨rfl, hsz, hP, hK⟩ := hv0
  have hx := Bd.exec
  have hb := Bd.bytes
  have hr := Bd.returns
  have hts := atoms_spec (ws := wsX7_isLoaded) Bd.pre
  have hown : s.vm.findClass RX7 = some m.cls := findClass_of_methodNamed Bd.named
  have hlocks := Bd.notSynchronized
  have hi7 : ∀ w ∈ u_ws RX7 TX7 79, w ∈ wsX7_isLoaded := fun w h => List.mem_cons_of_mem _ (List.mem_append_right _ h)
  subst hsz
  have hap := vF_ap hap0 s.heap.size
  have hS : va_S (vF ad s.heap.size) s.heap s.heap [] := va_S.rf
  have hP : va_P D vwCl (VW K ad I G A L) s.heap := hP
  have hl := lv_entry ([.ref (ad 318), .int a1]) (n := 7) (Nat.le_of_ble_eq_true rfl)
  rw [lg_entry_eq]
  generalize (lg_sl ([.ref (ad 318), .int a1]) ++ List.replicate (7 - (lg_sl ([.ref (ad 318), .int a1])).length) Slot.unset).toArray = ls at hl ⊢
  have hl : lv_has ls 7 [(0, .ref (ad 318)), (1, .int a1)] := hl
  rw [f_X7_isLoaded] at h
  refine lv_iconst (v := 0) hx hb dX7_isLoaded_0 (by decide) ?_
  refine lv_istore_n (lv' := [(2, .int 0), (0, .ref (ad 318)), (1, .int a1)]) hx hb dX7_isLoaded_1 rfl hl (by decide) rfl (fun ls hl => ?_)
  obtain ⟨k3, ek3, h⟩ := bd_e h
  have kk3 : ∀ (_ : Unit), k3 () = some r0 → ∀ (H : Heap) (locs : List Loc), va_P D vwCl (VW K ad I G A L) H → va_S (vF ad s.heap.size) s.heap H locs → ∀ (ls : Array Slot), lv_has ls 7 [] → W p l e ({ frames := 0, cells := 0, slots := 0, locals := 0 }) s m ([.ref (ad 318), .int a1] : List Value).toArray below meth c H locs 0 0 (MQ below (va_Qi (fun (r : Int32) (u : Mem) => r = r0 ∧ u = (I, G, A, L)) (vB D K ad) (vF ad s.heap.size)) ([.ref (ad 318), .int a1] : List Value).toArray s 0 0 (vF ad s.heap.size)) (F0 m 105 ls []) := by
    intro _ h H locs hP hS ls hl
    subst ek3
    refine lv_iconst (v := 1) hx hb dX7_isLoaded_105 (by decide) ?_
    exact W.zret (v := 1) hx hb hr (by decide) (fun t9 ht9 hW9 => ⟨⟨1, (I, G, A, L), rfl, by cases h; exact ⟨rfl, rfl⟩, by rw [ht9]; exact hP, va_K.moved hW9.alike hK⟩, hS.F ht9⟩) hS.2.2 dX7_isLoaded_106
  obtain ⟨k4, ek4, h⟩ := bd_e h
  have kk4 : ∀ (_ : Unit), k4 () = some r0 → ∀ (H : Heap) (locs : List Loc), va_P D vwCl (VW K ad I G A L) H → va_S (vF ad s.heap.size) s.heap H locs → ∀ (ls : Array Slot), lv_has ls 7 [] → W p l e ({ frames := 0, cells := 0, slots := 0, locals := 0 }) s m ([.ref (ad 318), .int a1] : List Value).toArray below meth c H locs 0 0 (MQ below (va_Qi (fun (r : Int32) (u : Mem) => r = r0 ∧ u = (I, G, A, L)) (vB D K ad) (vF ad s.heap.size)) ([.ref (ad 318), .int a1] : List Value).toArray s 0 0 (vF ad s.heap.size)) (F0 m 113 ls []) := by
    intro _ h H locs hP hS ls hl
    subst ek4
    refine lv_iconst (v := 0) hx hb dX7_isLoaded_113 (by decide) ?_
    exact W.zret (v := 0) hx hb hr (by decide) (fun t9 ht9 hW9 => ⟨⟨0, (I, G, A, L), rfl, by cases h; exact ⟨rfl, rfl⟩, by rw [ht9]; exact hP, va_K.moved hW9.alike hK⟩, hS.F ht9⟩) hS.2.2 dX7_isLoaded_114
  have lp1 : ∀ (n : Nat) (v2 : Int32), f_X7_isLoaded_L2 a1 A k3 k4 n v2 = some r0 → ∀ (H : Heap) (locs : List Loc), va_P D vwCl (VW K ad I G A L) H → va_S (vF ad s.heap.size) s.heap H locs → ∀ (ls : Array Slot), lv_has ls 7 [(2, .int v2), (0, .ref (ad 318)), (1, .int a1)] → W p l e ({ frames := 0, cells := 0, slots := 0, locals := 0 }) s m ([.ref (ad 318), .int a1] : List Value).toArray below meth c H locs 0 0 (MQ below (va_Qi (fun (r : Int32) (u : Mem) => r = r0 ∧ u = (I, G, A, L)) (vB D K ad) (vF ad s.heap.size)) ([.ref (ad 318), .int a1] : List Value).toArray s 0 0 (vF ad s.heap.size)) (F0 m 2 ls []) := by
    intro n
    induction n with
    | zero => intro v2 h; exact absurd h (by rw [f_X7_isLoaded_L2]; exact nofun)
    | succ n ih1 =>
      intro v2 h H locs hP hS ls hl
      rw [f_X7_isLoaded_L2] at h
      refine lv_iload_n hx hb dX7_isLoaded_2 rfl (lv_at hl 0 rfl) ?_
      refine lv_bipush (v := 6) hx hb dX7_isLoaded_3 (by decide) ?_
      refine lv_icmp_ge (tgt := 113) hx hb dX7_isLoaded_5 (by decide) (fun c_5 => ?_) (fun c_5 => ?_)
      · have h := iN (Int32.not_lt.mpr c_5) h
        exact kk4 () h _ _ hP hS ls (lv_sub hl [] rfl)
      · have h := ip (Int32.not_le.mp c_5) h
        refine lv_iconst (v := 0) hx hb dX7_isLoaded_8 (by decide) ?_
        refine lv_istore_n (lv' := [(3, .int 0), (2, .int v2), (0, .ref (ad 318)), (1, .int a1)]) hx hb dX7_isLoaded_9 rfl hl (by decide) rfl (fun ls hl => ?_)
        refine lv_iconst (v := 0) hx hb dX7_isLoaded_10 (by decide) ?_
        refine lv_istore (lv' := [(4, .int 0), (3, .int 0), (2, .int v2), (0, .ref (ad 318)), (1, .int a1)]) hx hb dX7_isLoaded_11 hl (by decide) rfl (fun ls hl => ?_)
        obtain ⟨k9, ek9, h⟩ := bd_e h
        have kk9 : ∀ (v10 : Int32), k9 v10 = some r0 → ∀ (H : Heap) (locs : List Loc), va_P D vwCl (VW K ad I G A L) H → va_S (vF ad s.heap.size) s.heap H locs → ∀ (ls : Array Slot), lv_has ls 7 [(0, .ref (ad 318)), (1, .int a1), (2, .int v2), (3, .int v10)] → W p l e ({ frames := 0, cells := 0, slots := 0, locals := 0 }) s m ([.ref (ad 318), .int a1] : List Value).toArray below meth c H locs 0 0 (MQ below (va_Qi (fun (r : Int32) (u : Mem) => r = r0 ∧ u = (I, G, A, L)) (vB D K ad) (vF ad s.heap.size)) ([.ref (ad 318), .int a1] : List Value).toArray s 0 0 (vF ad s.heap.size)) (F0 m 95 ls []) := by
          intro v10 h H locs hP hS ls hl
          subst ek9
          refine lv_iload_n hx hb dX7_isLoaded_95 rfl (lv_at hl 3 rfl) ?_
          refine lv_aload_n hx hb dX7_isLoaded_96 rfl (lv_at hl 0 rfl) ?_
          refine vgC hx hb hts hi7 hown hK hP (318) (by decide) (show kd 318 = 7 by decide) (C := RX7) (T := TX7) (N := 79) rfl 9 (by decide) (by decide) (by decide) (by decide) (325) rfl (hts (.fieldLink RX7 28 "CrateHelpersModel" "ruleNumber" "[I") (by decide +kernel)) (fun _ h9 => h9) dX7_isLoaded_97 ?_
          refine lv_iload_n hx hb dX7_isLoaded_100 rfl (lv_at hl 1 rfl) ?_
          obtain ⟨hn11, h⟩ := gk h
          refine xiald hx hb hK hP (325) (by decide) (show kd 325 = 8 by decide) (by rw [show ln 325 = 40 by decide]; exact hn11) dX7_isLoaded_101 ?_
          refine lv_icmp_le (tgt := 107) hx hb dX7_isLoaded_102 (by decide) (fun c_12 => ?_) (fun c_12 => ?_)
          · have h := iN (Int32.not_lt.mpr c_12) h
            refine lv_iinc (v := (v2 + 1)) (lv' := [(2, .int (v2 + 1)), (0, .ref (ad 318)), (1, .int a1), (3, .int v10)]) hx hb dX7_isLoaded_107 hl (k := 2) rfl rfl (by decide) rfl (fun ls hl => ?_)
            refine lv_goto (tgt := 2) hx hb dX7_isLoaded_110 (by decide) ?_
            exact ih1 (v2 + 1) h _ _ hP hS ls (lv_sub hl [0, 1, 2] rfl)
          · have h := ip (Int32.not_le.mp c_12) h
            exact kk3 () h _ _ hP hS ls (lv_sub hl [] rfl)
        have lp6 : ∀ (n : Nat) (v7 : Int32) (v8 : Int32), f_X7_isLoaded_L13 v2 a1 A k9 n v7 v8 = some r0 → ∀ (H : Heap) (locs : List Loc), va_P D vwCl (VW K ad I G A L) H → va_S (vF ad s.heap.size) s.heap H locs → ∀ (ls : Array Slot), lv_has ls 7 [(4, .int v7), (3, .int v8), (2, .int v2), (0, .ref (ad 318)), (1, .int a1)] → W p l e ({ frames := 0, cells := 0, slots := 0, locals := 0 }) s m ([.ref (ad 318), .int a1] : List Value).toArray below meth c H locs 0 0 (MQ below (va_Qi (fun (r : Int32) (u : Mem) => r = r0 ∧ u = (I, G, A, L)) (vB D K ad) (vF ad s.heap.size)) ([.ref (ad 318), .int a1] : List Value).toArray s 0 0 (vF ad s.heap.size)) (F0 m 13 ls []) := by
          intro n
          induction n with
          | zero => intro v7 v8 h; exact absurd h (by rw [f_X7_isLoaded_L13]; exact nofun)
          | succ n ih6 =>
            intro v7 v8 h H locs hP hS ls hl
            rw [f_X7_isLoaded_L13] at h
            refine lv_iload hx hb dX7_isLoaded_13 (lv_at hl 0 rfl) ?_
            refine lv_aload_n hx hb dX7_isLoaded_15 rfl (lv_at hl 3 rfl) ?_
            refine vgC hx hb hts hi7 hown hK hP (318) (by decide) (show kd 318 = 7 by decide) (C := RX7) (T := TX7) (N := 79) rfl 10 (by decide) (by decide) (by decide) (by decide) (326) rfl (hts (.fieldLink RX7 31 "CrateHelpersModel" "parts" "[I") (by decide +kernel)) (fun _ h9 => h9) dX7_isLoaded_16 ?_
            refine lv_iload_n hx hb dX7_isLoaded_19 rfl (lv_at hl 4 rfl) ?_
            obtain ⟨hn13, h⟩ := gk h
            refine xiald hx hb hK hP (326) (by decide) (show kd 326 = 8 by decide) (by rw [show ln 326 = 40 by decide]; exact hn13) dX7_isLoaded_20 ?_
            refine lv_icmp_ge (tgt := 95) hx hb dX7_isLoaded_21 (by decide) (fun c_14 => ?_) (fun c_14 => ?_)
            · have h := iN (Int32.not_lt.mpr c_14) h
              exact kk9 v8 h _ _ hP hS ls (lv_sub hl [3, 4, 2, 1] rfl)
            · have h := ip (Int32.not_le.mp c_14) h
              refine lv_aload_n hx hb dX7_isLoaded_24 rfl (lv_at hl 3 rfl) ?_
              refine vgC hx hb hts hi7 hown hK hP (318) (by decide) (show kd 318 = 7 by decide) (C := RX7) (T := TX7) (N := 79) rfl 12 (by decide) (by decide) (by decide) (by decide) (328) rfl (hts (.fieldLink RX7 37 "CrateHelpersModel" "weight" "[I") (by decide +kernel)) (fun _ h9 => h9) dX7_isLoaded_25 ?_
              refine lv_bipush (v := 6) hx hb dX7_isLoaded_28 (by decide) ?_
              refine lv_iload_n hx hb dX7_isLoaded_30 rfl (lv_at hl 4 rfl) ?_
              refine lv_imul hx hb dX7_isLoaded_31 ?_
              refine lv_iload hx hb dX7_isLoaded_32 (lv_at hl 0 rfl) ?_
              refine lv_iadd hx hb dX7_isLoaded_34 ?_
              obtain ⟨hn15, h⟩ := gk h
              refine xiald hx hb hK hP (328) (by decide) (show kd 328 = 8 by decide) (by rw [show ln 328 = 240 by decide]; exact hn15) dX7_isLoaded_35 ?_
              refine lv_istore (lv' := [(5, .int (A 328 (((6 * a1) + v7).toNatClampNeg))), (4, .int v7), (3, .int v8), (2, .int v2), (0, .ref (ad 318)), (1, .int a1)]) hx hb dX7_isLoaded_36 hl (by decide) rfl (fun ls hl => ?_)
              refine lv_aload_n hx hb dX7_isLoaded_38 rfl (lv_at hl 4 rfl) ?_
              refine vgC hx hb hts hi7 hown hK hP (318) (by decide) (show kd 318 = 7 by decide) (C := RX7) (T := TX7) (N := 79) rfl 63 (by decide) (by decide) (by decide) (by decide) (364) rfl (hts (.fieldLink RX7 159 "CrateHelpersModel" "now" "[I") (by decide +kernel)) (fun _ h9 => h9) dX7_isLoaded_39 ?_
              refine lv_aload_n hx hb dX7_isLoaded_42 rfl (lv_at hl 4 rfl) ?_
              refine vgC hx hb hts hi7 hown hK hP (318) (by decide) (show kd 318 = 7 by decide) (C := RX7) (T := TX7) (N := 79) rfl 11 (by decide) (by decide) (by decide) (by decide) (327) rfl (hts (.fieldLink RX7 34 "CrateHelpersModel" "partOf" "[I") (by decide +kernel)) (fun _ h9 => h9) dX7_isLoaded_43 ?_
              refine lv_bipush (v := 6) hx hb dX7_isLoaded_46 (by decide) ?_
              refine lv_iload_n hx hb dX7_isLoaded_48 rfl (lv_at hl 5 rfl) ?_
              refine lv_imul hx hb dX7_isLoaded_49 ?_
              refine lv_iload hx hb dX7_isLoaded_50 (lv_at hl 1 rfl) ?_
              refine lv_iadd hx hb dX7_isLoaded_52 ?_
              refine xiald hx hb hK hP (327) (by decide) (show kd 327 = 8 by decide) (by rw [show ln 327 = 240 by decide]; exact hn15) dX7_isLoaded_53 ?_
              obtain ⟨hn16, h⟩ := gk h
              refine xiald hx hb hK hP (364) (by decide) (show kd 364 = 8 by decide) (by rw [show ln 364 = 6 by decide]; exact hn16) dX7_isLoaded_54 ?_
              refine lv_istore (lv' := [(6, .int (A 364 ((A 327 (((6 * a1) + v7).toNatClampNeg)).toNatClampNeg))), (5, .int (A 328 (((6 * a1) + v7).toNatClampNeg))), (4, .int v7), (3, .int v8), (2, .int v2), (0, .ref (ad 318)), (1, .int a1)]) hx hb dX7_isLoaded_55 hl (by decide) rfl (fun ls hl => ?_)
              refine lv_iload_n hx hb dX7_isLoaded_57 rfl (lv_at hl 3 rfl) ?_
              refine lv_iload hx hb dX7_isLoaded_58 (lv_at hl 0 rfl) ?_
              refine lv_iload_n hx hb dX7_isLoaded_60 rfl (lv_at hl 4 rfl) ?_
              refine lv_icmp_ne (tgt := 69) hx hb dX7_isLoaded_61 (by decide) (fun c_17 => ?_) (fun c_17 => ?_)
              · have h := iN c_17 h
                refine lv_iload hx hb dX7_isLoaded_69 (lv_at hl 0 rfl) ?_
                refine lv_bipush (v := (-9)) hx hb dX7_isLoaded_71 (by decide) ?_
                refine lv_icmp_ne (tgt := 86) hx hb dX7_isLoaded_73 (by decide) (fun c_18 => ?_) (fun c_18 => ?_)
                · have h := iN c_18 h
                  refine lv_iconst (v := 0) hx hb dX7_isLoaded_86 (by decide) ?_
                  refine lv_iadd hx hb dX7_isLoaded_87 ?_
                  refine lv_istore_n (lv' := [(3, .int (v8 + 0)), (6, .int (A 364 ((A 327 (((6 * a1) + v7).toNatClampNeg)).toNatClampNeg))), (5, .int (A 328 (((6 * a1) + v7).toNatClampNeg))), (4, .int v7), (2, .int v2), (0, .ref (ad 318)), (1, .int a1)]) hx hb dX7_isLoaded_88 rfl hl (by decide) rfl (fun ls hl => ?_)
                  refine lv_iinc (v := (v7 + 1)) (lv' := [(4, .int (v7 + 1)), (3, .int (v8 + 0)), (6, .int (A 364 ((A 327 (((6 * a1) + v7).toNatClampNeg)).toNatClampNeg))), (5, .int (A 328 (((6 * a1) + v7).toNatClampNeg))), (2, .int v2), (0, .ref (ad 318)), (1, .int a1)]) hx hb dX7_isLoaded_89 hl (k := 3) rfl rfl (by decide) rfl (fun ls hl => ?_)
                  refine lv_goto (tgt := 13) hx hb dX7_isLoaded_92 (by decide) ?_
                  exact ih6 (v7 + 1) (v8 + 0) h _ _ hP hS ls (lv_sub hl [0, 1, 4, 5, 6] rfl)
                · have h := ip c_18 h
                  refine lv_iload hx hb dX7_isLoaded_76 (lv_at hl 1 rfl) ?_
                  refine lv_if_ge (tgt := 86) hx hb dX7_isLoaded_78 (by decide) (fun c_19 => ?_) (fun c_19 => ?_)
                  · have h := iN (Int32.not_lt.mpr c_19) h
                    refine lv_iconst (v := 0) hx hb dX7_isLoaded_86 (by decide) ?_
                    refine lv_iadd hx hb dX7_isLoaded_87 ?_
                    refine lv_istore_n (lv' := [(3, .int (v8 + 0)), (6, .int (A 364 ((A 327 (((6 * a1) + v7).toNatClampNeg)).toNatClampNeg))), (5, .int (A 328 (((6 * a1) + v7).toNatClampNeg))), (4, .int v7), (2, .int v2), (0, .ref (ad 318)), (1, .int a1)]) hx hb dX7_isLoaded_88 rfl hl (by decide) rfl (fun ls hl => ?_)
                    refine lv_iinc (v := (v7 + 1)) (lv' := [(4, .int (v7 + 1)), (3, .int (v8 + 0)), (6, .int (A 364 ((A 327 (((6 * a1) + v7).toNatClampNeg)).toNatClampNeg))), (5, .int (A 328 (((6 * a1) + v7).toNatClampNeg))), (2, .int v2), (0, .ref (ad 318)), (1, .int a1)]) hx hb dX7_isLoaded_89 hl (k := 3) rfl rfl (by decide) rfl (fun ls hl => ?_)
                    refine lv_goto (tgt := 13) hx hb dX7_isLoaded_92 (by decide) ?_
                    exact ih6 (v7 + 1) (v8 + 0) h _ _ hP hS ls (lv_sub hl [0, 1, 4, 5, 6] rfl)
                  · have h := ip (Int32.not_le.mp c_19) h
                    refine lv_iload hx hb dX7_isLoaded_81 (lv_at hl 1 rfl) ?_
                    refine lv_goto (tgt := 87) hx hb dX7_isLoaded_83 (by decide) ?_
                    refine lv_iadd hx hb dX7_isLoaded_87 ?_
                    refine lv_istore_n (lv' := [(3, .int (v8 + (A 328 (((6 * a1) + v7).toNatClampNeg)))), (6, .int (A 364 ((A 327 (((6 * a1) + v7).toNatClampNeg)).toNatClampNeg))), (5, .int (A 328 (((6 * a1) + v7).toNatClampNeg))), (4, .int v7), (2, .int v2), (0, .ref (ad 318)), (1, .int a1)]) hx hb dX7_isLoaded_88 rfl hl (by decide) rfl (fun ls hl => ?_)
                    refine lv_iinc (v := (v7 + 1)) (lv' := [(4, .int (v7 + 1)), (3, .int (v8 + (A 328 (((6 * a1) + v7).toNatClampNeg)))), (6, .int (A 364 ((A 327 (((6 * a1) + v7).toNatClampNeg)).toNatClampNeg))), (5, .int (A 328 (((6 * a1) + v7).toNatClampNeg))), (2, .int v2), (0, .ref (ad 318)), (1, .int a1)]) hx hb dX7_isLoaded_89 hl (k := 3) rfl rfl (by decide) rfl (fun ls hl => ?_)
                    refine lv_goto (tgt := 13) hx hb dX7_isLoaded_92 (by decide) ?_
                    exact ih6 (v7 + 1) (v8 + (A 328 (((6 * a1) + v7).toNatClampNeg))) h _ _ hP hS ls (lv_sub hl [0, 1, 4, 5, 6] rfl)
              · have h := ip c_17 h
                refine lv_iload hx hb dX7_isLoaded_64 (lv_at hl 1 rfl) ?_
                refine lv_goto (tgt := 87) hx hb dX7_isLoaded_66 (by decide) ?_
                refine lv_iadd hx hb dX7_isLoaded_87 ?_
                refine lv_istore_n (lv' := [(3, .int (v8 + (A 328 (((6 * a1) + v7).toNatClampNeg)))), (6, .int (A 364 ((A 327 (((6 * a1) + v7).toNatClampNeg)).toNatClampNeg))), (5, .int (A 328 (((6 * a1) + v7).toNatClampNeg))), (4, .int v7), (2, .int v2), (0, .ref (ad 318)), (1, .int a1)]) hx hb dX7_isLoaded_88 rfl hl (by decide) rfl (fun ls hl => ?_)
                refine lv_iinc (v := (v7 + 1)) (lv' := [(4, .int (v7 + 1)), (3, .int (v8 + (A 328 (((6 * a1) + v7).toNatClampNeg)))), (6, .int (A 364 ((A 327 (((6 * a1) + v7).toNatClampNeg)).toNatClampNeg))), (5, .int (A 328 (((6 * a1) + v7).toNatClampNeg))), (2, .int v2), (0, .ref (ad 318)), (1, .int a1)]) hx hb dX7_isLoaded_89 hl (k := 3) rfl rfl (by decide) rfl (fun ls hl => ?_)
                refine lv_goto (tgt := 13) hx hb dX7_isLoaded_92 (by decide) ?_
                exact ih6 (v7 + 1) (v8 + (A 328 (((6 * a1) + v7).toNatClampNeg))) h _ _ hP hS ls (lv_sub hl [0, 1, 4, 5, 6] rfl)
        exact lp6 FU 0 0 h _ _ hP hS ls (lv_sub hl [0, 1, 2, 3, 4] rfl)
  exact lp1 FU 0 h _ _ hP hS ls (lv_sub hl [0, 1, 2] rfl)
set_option maxHeartbeats 4000000 in
set_option maxRecDepth 100000 in
theorem e_X7_isNear (l : Launch) (D : va_G) (K : Nat → ClassId) (ad : Nat → Nat) (hap0 : apart ad (fun _ => True)) (a1 : Int32) (a2 : Int32) (I : Nat → Nat → Int32) (G : Nat → Nat → Nat) (A : Nat → Nat → Int32) (L : Nat → Nat → Int64) (r0 : Int32) (h : f_X7_isNear A a1 a2 = some r0) : Ci l D K ad yX7_isNear wsX7_isNear 0 0 [.ref (ad 318), .int a1, .int a2] (I, G, A, L) (fun (r : Int32) (u : Mem) => r = r0 ∧ u = (I, G, A, L)) := by
  intro sz
  refine Met.ofW (cc := cX7_isNear) (maxL := 8) (ret := (some .boolean)) (by decide) rfl ?_
  intro p e s m args below meth c s₁ Bd hml hv0
  obtain ⟨rfl, hsz, hP, hK⟩ := hv0
  have hx := Bd.exec
  have hb := Bd.bytes
  have hr := Bd.returns
  have hts := atoms_spec (ws := wsX7_isNear) Bd.pre
  have hown : s.vm.findClass RX7 = some m.cls := findClass_of_methodNamed Bd.named
  have hlocks := Bd.notSynchronized
  have hi7 : ∀ w ∈ u_ws RX7 TX7 79, w ∈ wsX7_isNear := fun w h => List.mem_cons_of_mem _ (List.mem_append_right _ h)
  subst hsz
  have hap := vF_ap hap0 s.heap.size
  have hS : va_S (vF ad s.heap.size) s.heap s.heap [] := va_S.rf
  have hP : va_P D vwCl (VW K ad I G A L) s.heap := hP
  have hl := lv_entry ([.ref (ad 318), .int a1, .int a2]) (n := 8) (Nat.le_of_ble_eq_true rfl)
  rw [lg_entry_eq]
  generalize (lg_sl ([.ref (ad 318), .int a1, .int a2]) ++ List.replicate (8 - (lg_sl ([.ref (ad 318), .int a1, .int a2])).length) Slot.unset).toArray = ls at hl ⊢
  have hl : lv_has ls 8 [(0, .ref (ad 318)), (1, .int a1), (2, .int a2)] := hl
  rw [f_X7_isNear] at h
  refine lv_iconst (v := 0) hx hb dX7_isNear_0 (by decide) ?_
  refine lv_istore_n (lv' := [(3, .int 0), (0, .ref (ad 318)), (1, .int a1), (2, .int a2)]) hx hb dX7_isNear_1 rfl hl (by decide) rfl (fun ls hl => ?_)
  obtain ⟨k3, ek3, h⟩ := bd_e h
  have kk3 : ∀ (_ : Unit), k3 () = some r0 → ∀ (H : Heap) (locs : List Loc), va_P D vwCl (VW K ad I G A L) H → va_S (vF ad s.heap.size) s.heap H locs → ∀ (ls : Array Slot), lv_has ls 8 [] → W p l e ({ frames := 0, cells := 0, slots := 0, locals := 0 }) s m ([.ref (ad 318), .int a1, .int a2] : List Value).toArray below meth c H locs 0 0 (MQ below (va_Qi (fun (r : Int32) (u : Mem) => r = r0 ∧ u = (I, G, A, L)) (vB D K ad) (vF ad s.heap.size)) ([.ref (ad 318), .int a1, .int a2] : List Value).toArray s 0 0 (vF ad s.heap.size)) (F0 m 114 ls []) := by
    intro _ h H locs hP hS ls hl
    subst ek3
    refine lv_iconst (v := 1) hx hb dX7_isNear_114 (by decide) ?_
    exact W.zret (v := 1) hx hb hr (by decide) (fun t9 ht9 hW9 => ⟨⟨1, (I, G, A, L), rfl, by cases h; exact ⟨rfl, rfl⟩, by rw [ht9]; exact hP, va_K.moved hW9.alike hK⟩, hS.F ht9⟩) hS.2.2 dX7_isNear_115
  obtain ⟨k4, ek4, h⟩ := bd_e h
  have kk4 : ∀ (_ : Unit), k4 () = some r0 → ∀ (H : Heap) (locs : List Loc), va_P D vwCl (VW K ad I G A L) H → va_S (vF ad s.heap.size) s.heap H locs → ∀ (ls : Array Slot), lv_has ls 8 [] → W p l e ({ frames := 0, cells := 0, slots := 0, locals := 0 }) s m ([.ref (ad 318), .int a1, .int a2] : List Value).toArray below meth c H locs 0 0 (MQ below (va_Qi (fun (r : Int32) (u : Mem) => r = r0 ∧ u = (I, G, A, L)) (vB D K ad) (vF ad s.heap.size)) ([.ref (ad 318), .int a1, .int a2] : List Value).toArray s 0 0 (vF ad s.heap.size)) (F0 m 128 ls []) := by
    intro _ h H locs hP hS ls hl
    subst ek4
    refine lv_iconst (v := 0) hx hb dX7_isNear_128 (by decide) ?_
    exact W.zret (v := 0) hx hb hr (by decide) (fun t9 ht9 hW9 => ⟨⟨0, (I, G, A, L), rfl, by cases h; exact ⟨rfl, rfl⟩, by rw [ht9]; exact hP, va_K.moved hW9.alike hK⟩, hS.F ht9⟩) hS.2.2 dX7_isNear_129
  have lp1 : ∀ (n : Nat) (v2 : Int32), f_X7_isNear_L2 a1 a2 A k3 k4 n v2 = some r0 → ∀ (H : Heap) (locs : List Loc), va_P D vwCl (VW K ad I G A L) H → va_S (vF ad s.heap.size) s.heap H locs → ∀ (ls : Array Slot), lv_has ls 8 [(3, .int v2), (0, .ref (ad 318)), (1, .int a1), (2, .int a2)] → W p l e ({ frames := 0, cells := 0, slots := 0, locals := 0 }) s m ([.ref (ad 318), .int a1, .int a2] : List Value).toArray below meth c H locs 0 0 (MQ below (va_Qi (fun (r : Int32) (u : Mem) => r = r0 ∧ u = (I, G, A, L)) (vB D K ad) (vF ad s.heap.size)) ([.ref (ad 318), .int a1, .int a2] : List Value).toArray s 0 0 (vF ad s.heap.size)) (F0 m 2 ls []) := by
    intro n
    induction n with
    | zero => intro v2 h; exact absurd h (by rw [f_X7_isNear_L2]; exact nofun)
    | succ n ih1 =>
      intro v2 h H locs hP hS ls hl
      rw [f_X7_isNear_L2] at h
      refine lv_iload_n hx hb dX7_isNear_2 rfl (lv_at hl 0 rfl) ?_
      refine lv_aload_n hx hb dX7_isNear_3 rfl (lv_at hl 1 rfl) ?_
      refine vgC hx hb hts hi7 hown hK hP (318) (by decide) (show kd 318 = 7 by decide) (C := RX7) (T := TX7) (N := 79) rfl 10 (by decide) (by decide) (by decide) (by decide) (326) rfl (hts (.fieldLink RX7 31 "CrateHelpersModel" "parts" "[I") (by decide +kernel)) (fun _ h9 => h9) dX7_isNear_4 ?_
      refine lv_iload_n hx hb dX7_isNear_7 rfl (lv_at hl 2 rfl) ?_
      obtain ⟨hn5, h⟩ := gk h
      refine xiald hx hb hK hP (326) (by decide) (show kd 326 = 8 by decide) (by rw [show ln 326 = 40 by decide]; exact hn5) dX7_isNear_8 ?_
      refine lv_icmp_ge (tgt := 128) hx hb dX7_isNear_9 (by decide) (fun c_6 => ?_) (fun c_6 => ?_)
      · have h := iN (Int32.not_lt.mpr c_6) h
        exact kk4 () h _ _ hP hS ls (lv_sub hl [] rfl)
      · have h := ip (Int32.not_le.mp c_6) h
        refine lv_iconst (v := 0) hx hb dX7_isNear_12 (by decide) ?_
        refine lv_istore (lv' := [(4, .int 0), (3, .int v2), (0, .ref (ad 318)), (1, .int a1), (2, .int a2)]) hx hb dX7_isNear_13 hl (by decide) rfl (fun ls hl => ?_)
        obtain ⟨k9, ek9, h⟩ := bd_e h
        have kk9 : ∀ (_ : Unit), k9 () = some r0 → ∀ (H : Heap) (locs : List Loc), va_P D vwCl (VW K ad I G A L) H → va_S (vF ad s.heap.size) s.heap H locs → ∀ (ls : Array Slot), lv_has ls 8 [] → W p l e ({ frames := 0, cells := 0, slots := 0, locals := 0 }) s m ([.ref (ad 318), .int a1, .int a2] : List Value).toArray below meth c H locs 0 0 (MQ below (va_Qi (fun (r : Int32) (u : Mem) => r = r0 ∧ u = (I, G, A, L)) (vB D K ad) (vF ad s.heap.size)) ([.ref (ad 318), .int a1, .int a2] : List Value).toArray s 0 0 (vF ad s.heap.size)) (F0 m 114 ls []) := by
          intro _ h H locs hP hS ls hl
          subst ek9
          exact kk3 () h _ _ hP hS ls (lv_sub hl [] rfl)
        obtain ⟨k10, ek10, h⟩ := bd_e h
        have kk10 : ∀ (_ : Unit), k10 () = some r0 → ∀ (H : Heap) (locs : List Loc), va_P D vwCl (VW K ad I G A L) H → va_S (vF ad s.heap.size) s.heap H locs → ∀ (ls : Array Slot), lv_has ls 8 [(0, .ref (ad 318)), (1, .int a1), (2, .int a2), (3, .int v2)] → W p l e ({ frames := 0, cells := 0, slots := 0, locals := 0 }) s m ([.ref (ad 318), .int a1, .int a2] : List Value).toArray below meth c H locs 0 0 (MQ below (va_Qi (fun (r : Int32) (u : Mem) => r = r0 ∧ u = (I, G, A, L)) (vB D K ad) (vF ad s.heap.size)) ([.ref (ad 318), .int a1, .int a2] : List Value).toArray s 0 0 (vF ad s.heap.size)) (F0 m 122 ls []) := by
          intro _ h H locs hP hS ls hl
          subst ek10
          refine lv_iinc (v := (v2 + 1)) (lv' := [(3, .int (v2 + 1)), (0, .ref (ad 318)), (1, .int a1), (2, .int a2)]) hx hb dX7_isNear_122 hl (k := 3) rfl rfl (by decide) rfl (fun ls hl => ?_)
          refine lv_goto (tgt := 2) hx hb dX7_isNear_125 (by decide) ?_
          exact ih1 (v2 + 1) h _ _ hP hS ls (lv_sub hl [0, 1, 2, 3] rfl)
        have lp7 : ∀ (n : Nat) (v8 : Int32), f_X7_isNear_L15 v2 a1 a2 A k9 k10 n v8 = some r0 → ∀ (H : Heap) (locs : List Loc), va_P D vwCl (VW K ad I G A L) H → va_S (vF ad s.heap.size) s.heap H locs → ∀ (ls : Array Slot), lv_has ls 8 [(4, .int v8), (3, .int v2), (0, .ref (ad 318)), (1, .int a1), (2, .int a2)] → W p l e ({ frames := 0, cells := 0, slots := 0, locals := 0 }) s m ([.ref (ad 318), .int a1, .int a2] : List Value).toArray below meth c H locs 0 0 (MQ below (va_Qi (fun (r : Int32) (u : Mem) => r = r0 ∧ u = (I, G, A, L)) (vB D K ad) (vF ad s.heap.size)) ([.ref (ad 318), .int a1, .int a2] : List Value).toArray s 0 0 (vF ad s.heap.size)) (F0 m 15 ls []) := by
          intro n
          induction n with
          | zero => intro v8 h; exact absurd h (by rw [f_X7_isNear_L15]; exact nofun)
          | succ n ih7 =>
            intro v8 h H locs hP hS ls hl
            rw [f_X7_isNear_L15] at h
            refine lv_iload hx hb dX7_isNear_15 (lv_at hl 0 rfl) ?_
            refine lv_iload_n hx hb dX7_isNear_17 rfl (lv_at hl 1 rfl) ?_
            refine lv_icmp_ge (tgt := 122) hx hb dX7_isNear_18 (by decide) (fun c_11 => ?_) (fun c_11 => ?_)
            · have h := iN (Int32.not_lt.mpr c_11) h
              exact kk10 () h _ _ hP hS ls (lv_sub hl [2, 3, 4, 1] rfl)
            · have h := ip (Int32.not_le.mp c_11) h
              refine lv_aload_n hx hb dX7_isNear_21 rfl (lv_at hl 2 rfl) ?_
              refine vgC hx hb hts hi7 hown hK hP (318) (by decide) (show kd 318 = 7 by decide) (C := RX7) (T := TX7) (N := 79) rfl 63 (by decide) (by decide) (by decide) (by decide) (364) rfl (hts (.fieldLink RX7 159 "CrateHelpersModel" "now" "[I") (by decide +kernel)) (fun _ h9 => h9) dX7_isNear_22 ?_
              refine lv_aload_n hx hb dX7_isNear_25 rfl (lv_at hl 2 rfl) ?_
              refine vgC hx hb hts hi7 hown hK hP (318) (by decide) (show kd 318 = 7 by decide) (C := RX7) (T := TX7) (N := 79) rfl 11 (by decide) (by decide) (by decide) (by decide) (327) rfl (hts (.fieldLink RX7 34 "CrateHelpersModel" "partOf" "[I") (by decide +kernel)) (fun _ h9 => h9) dX7_isNear_26 ?_
              refine lv_bipush (v := 6) hx hb dX7_isNear_29 (by decide) ?_
              refine lv_iload_n hx hb dX7_isNear_31 rfl (lv_at hl 3 rfl) ?_
              refine lv_imul hx hb dX7_isNear_32 ?_
              refine lv_iload_n hx hb dX7_isNear_33 rfl (lv_at hl 1 rfl) ?_
              refine lv_iadd hx hb dX7_isNear_34 ?_
              obtain ⟨hn12, h⟩ := gk h
              refine xiald hx hb hK hP (327) (by decide) (show kd 327 = 8 by decide) (by rw [show ln 327 = 240 by decide]; exact hn12) dX7_isNear_35 ?_
              obtain ⟨hn13, h⟩ := gk h
              refine xiald hx hb hK hP (364) (by decide) (show kd 364 = 8 by decide) (by rw [show ln 364 = 6 by decide]; exact hn13) dX7_isNear_36 ?_
              refine lv_istore (lv' := [(5, .int (A 364 ((A 327 (((6 * a1) + v2).toNatClampNeg)).toNatClampNeg))), (4, .int v8), (3, .int v2), (0, .ref (ad 318)), (1, .int a1), (2, .int a2)]) hx hb dX7_isNear_37 hl (by decide) rfl (fun ls hl => ?_)
              refine lv_aload_n hx hb dX7_isNear_39 rfl (lv_at hl 3 rfl) ?_
              refine vgC hx hb hts hi7 hown hK hP (318) (by decide) (show kd 318 = 7 by decide) (C := RX7) (T := TX7) (N := 79) rfl 63 (by decide) (by decide) (by decide) (by decide) (364) rfl (hts (.fieldLink RX7 159 "CrateHelpersModel" "now" "[I") (by decide +kernel)) (fun _ h9 => h9) dX7_isNear_40 ?_
              refine lv_aload_n hx hb dX7_isNear_43 rfl (lv_at hl 3 rfl) ?_
              refine vgC hx hb hts hi7 hown hK hP (318) (by decide) (show kd 318 = 7 by decide) (C := RX7) (T := TX7) (N := 79) rfl 11 (by decide) (by decide) (by decide) (by decide) (327) rfl (hts (.fieldLink RX7 34 "CrateHelpersModel" "partOf" "[I") (by decide +kernel)) (fun _ h9 => h9) dX7_isNear_44 ?_
              refine lv_bipush (v := 6) hx hb dX7_isNear_47 (by decide) ?_
              refine lv_iload_n hx hb dX7_isNear_49 rfl (lv_at hl 4 rfl) ?_
              refine lv_imul hx hb dX7_isNear_50 ?_
              refine lv_iload hx hb dX7_isNear_51 (lv_at hl 1 rfl) ?_
              refine lv_iadd hx hb dX7_isNear_53 ?_
              obtain ⟨hn14, h⟩ := gk h
              refine xiald hx hb hK hP (327) (by decide) (show kd 327 = 8 by decide) (by rw [show ln 327 = 240 by decide]; exact hn14) dX7_isNear_54 ?_
              obtain ⟨hn15, h⟩ := gk h
              refine xiald hx hb hK hP (364) (by decide) (show kd 364 = 8 by decide) (by rw [show ln 364 = 6 by decide]; exact hn15) dX7_isNear_55 ?_
              refine lv_istore (lv' := [(6, .int (A 364 ((A 327 (((6 * a1) + v8).toNatClampNeg)).toNatClampNeg))), (5, .int (A 364 ((A 327 (((6 * a1) + v2).toNatClampNeg)).toNatClampNeg))), (4, .int v8), (3, .int v2), (0, .ref (ad 318)), (1, .int a1), (2, .int a2)]) hx hb dX7_isNear_56 hl (by decide) rfl (fun ls hl => ?_)
              refine lv_iload hx hb dX7_isNear_58 (lv_at hl 1 rfl) ?_
              refine lv_iload hx hb dX7_isNear_60 (lv_at hl 0 rfl) ?_
              obtain ⟨j17, ej17, h⟩ := bd_e h
              have kj17 : ∀ (z16 : Int32), j17 z16 = some r0 → ∀ (H : Heap) (locs : List Loc), va_P D vwCl (VW K ad I G A L) H → va_S (vF ad s.heap.size) s.heap H locs → ∀ (ls : Array Slot), lv_has ls 8 [(6, .int (A 364 ((A 327 (((6 * a1) + v8).toNatClampNeg)).toNatClampNeg))), (5, .int (A 364 ((A 327 (((6 * a1) + v2).toNatClampNeg)).toNatClampNeg))), (4, .int v8), (3, .int v2), (0, .ref (ad 318)), (1, .int a1), (2, .int a2)] → W p l e ({ frames := 0, cells := 0, slots := 0, locals := 0 }) s m ([.ref (ad 318), .int a1, .int a2] : List Value).toArray below meth c H locs 0 0 (MQ below (va_Qi (fun (r : Int32) (u : Mem) => r = r0 ∧ u = (I, G, A, L)) (vB D K ad) (vF ad s.heap.size)) ([.ref (ad 318), .int a1, .int a2] : List Value).toArray s 0 0 (vF ad s.heap.size)) (F0 m 78 ls [.int z16]) := by
                intro z16 h H locs hP hS ls hl
                subst ej17
                refine lv_istore (lv' := [(7, .int z16), (6, .int (A 364 ((A 327 (((6 * a1) + v8).toNatClampNeg)).toNatClampNeg))), (5, .int (A 364 ((A 327 (((6 * a1) + v2).toNatClampNeg)).toNatClampNeg))), (4, .int v8), (3, .int v2), (0, .ref (ad 318)), (1, .int a1), (2, .int a2)]) hx hb dX7_isNear_78 hl (by decide) rfl (fun ls hl => ?_)
                refine lv_iload hx hb dX7_isNear_80 (lv_at hl 2 rfl) ?_
                refine lv_bipush (v := (-9)) hx hb dX7_isNear_82 (by decide) ?_
                refine lv_icmp_eq (tgt := 116) hx hb dX7_isNear_84 (by decide) (fun c_18 => ?_) (fun c_18 => ?_)
                · have h := ip c_18 h
                  refine lv_iinc (v := (v8 + 1)) (lv' := [(4, .int (v8 + 1)), (7, .int z16), (6, .int (A 364 ((A 327 (((6 * a1) + v8).toNatClampNeg)).toNatClampNeg))), (5, .int (A 364 ((A 327 (((6 * a1) + v2).toNatClampNeg)).toNatClampNeg))), (3, .int v2), (0, .ref (ad 318)), (1, .int a1), (2, .int a2)]) hx hb dX7_isNear_116 hl (k := 3) rfl rfl (by decide) rfl (fun ls hl => ?_)
                  refine lv_goto (tgt := 15) hx hb dX7_isNear_119 (by decide) ?_
                  exact ih7 (v8 + 1) h _ _ hP hS ls (lv_sub hl [0, 4, 5, 6, 7] rfl)
                · have h := iN c_18 h
                  refine lv_iload hx hb dX7_isNear_87 (lv_at hl 1 rfl) ?_
                  refine lv_bipush (v := (-9)) hx hb dX7_isNear_89 (by decide) ?_
                  refine lv_icmp_eq (tgt := 116) hx hb dX7_isNear_91 (by decide) (fun c_19 => ?_) (fun c_19 => ?_)
                  · have h := ip c_19 h
                    refine lv_iinc (v := (v8 + 1)) (lv' := [(4, .int (v8 + 1)), (7, .int z16), (6, .int (A 364 ((A 327 (((6 * a1) + v8).toNatClampNeg)).toNatClampNeg))), (5, .int (A 364 ((A 327 (((6 * a1) + v2).toNatClampNeg)).toNatClampNeg))), (3, .int v2), (0, .ref (ad 318)), (1, .int a1), (2, .int a2)]) hx hb dX7_isNear_116 hl (k := 3) rfl rfl (by decide) rfl (fun ls hl => ?_)
                    refine lv_goto (tgt := 15) hx hb dX7_isNear_119 (by decide) ?_
                    exact ih7 (v8 + 1) h _ _ hP hS ls (lv_sub hl [0, 4, 5, 6, 7] rfl)
                  · have h := iN c_19 h
                    refine lv_iload hx hb dX7_isNear_94 (lv_at hl 0 rfl) ?_
                    refine lv_if_eq (tgt := 114) hx hb dX7_isNear_96 (by decide) (fun c_20 => ?_) (fun c_20 => ?_)
                    · have h := ip c_20 h
                      exact kk9 () h _ _ hP hS ls (lv_sub hl [] rfl)
                    · have h := iN c_20 h
                      refine lv_iload_n hx hb dX7_isNear_99 rfl (lv_at hl 7 rfl) ?_
                      refine lv_if_eq (tgt := 116) hx hb dX7_isNear_100 (by decide) (fun c_21 => ?_) (fun c_21 => ?_)
                      · have h := ip c_21 h
                        refine lv_iinc (v := (v8 + 1)) (lv' := [(4, .int (v8 + 1)), (7, .int z16), (6, .int (A 364 ((A 327 (((6 * a1) + v8).toNatClampNeg)).toNatClampNeg))), (5, .int (A 364 ((A 327 (((6 * a1) + v2).toNatClampNeg)).toNatClampNeg))), (3, .int v2), (0, .ref (ad 318)), (1, .int a1), (2, .int a2)]) hx hb dX7_isNear_116 hl (k := 3) rfl rfl (by decide) rfl (fun ls hl => ?_)
                        refine lv_goto (tgt := 15) hx hb dX7_isNear_119 (by decide) ?_
                        exact ih7 (v8 + 1) h _ _ hP hS ls (lv_sub hl [0, 4, 5, 6, 7] rfl)
                      · have h := iN c_21 h
                        refine lv_iload hx hb dX7_isNear_103 (lv_at hl 0 rfl) ?_
                        refine lv_aload_n hx hb dX7_isNear_105 rfl (lv_at hl 5 rfl) ?_
                        refine vgC hx hb hts hi7 hown hK hP (318) (by decide) (show kd 318 = 7 by decide) (C := RX7) (T := TX7) (N := 79) rfl 9 (by decide) (by decide) (by decide) (by decide) (325) rfl (hts (.fieldLink RX7 28 "CrateHelpersModel" "ruleNumber" "[I") (by decide +kernel)) (fun _ h9 => h9) dX7_isNear_106 ?_
                        refine lv_iload_n hx hb dX7_isNear_109 rfl (lv_at hl 6 rfl) ?_
                        refine xiald hx hb hK hP (325) (by decide) (show kd 325 = 8 by decide) (by rw [show ln 325 = 40 by decide]; exact hn5) dX7_isNear_110 ?_
                        refine lv_icmp_ge (tgt := 116) hx hb dX7_isNear_111 (by decide) (fun c_22 => ?_) (fun c_22 => ?_)
                        · have h := iN (Int32.not_lt.mpr c_22) h
                          refine lv_iinc (v := (v8 + 1)) (lv' := [(4, .int (v8 + 1)), (7, .int z16), (6, .int (A 364 ((A 327 (((6 * a1) + v8).toNatClampNeg)).toNatClampNeg))), (5, .int (A 364 ((A 327 (((6 * a1) + v2).toNatClampNeg)).toNatClampNeg))), (3, .int v2), (0, .ref (ad 318)), (1, .int a1), (2, .int a2)]) hx hb dX7_isNear_116 hl (k := 3) rfl rfl (by decide) rfl (fun ls hl => ?_)
                          refine lv_goto (tgt := 15) hx hb dX7_isNear_119 (by decide) ?_
                          exact ih7 (v8 + 1) h _ _ hP hS ls (lv_sub hl [0, 4, 5, 6, 7] rfl)
                        · have h := ip (Int32.not_le.mp c_22) h
                          exact kk9 () h _ _ hP hS ls (lv_sub hl [] rfl)
              refine lv_icmp_ge (tgt := 73) hx hb dX7_isNear_62 (by decide) (fun c_23 => ?_) (fun c_23 => ?_)
              · have h := iN (Int32.not_lt.mpr c_23) h
                refine lv_iload hx hb dX7_isNear_73 (lv_at hl 1 rfl) ?_
                refine lv_iload hx hb dX7_isNear_75 (lv_at hl 0 rfl) ?_
                refine lv_isub hx hb dX7_isNear_77 ?_
                exact kj17 ((A 364 ((A 327 (((6 * a1) + v2).toNatClampNeg)).toNatClampNeg)) - (A 364 ((A 327 (((6 * a1) + v8).toNatClampNeg)).toNatClampNeg))) h _ _ hP hS ls (lv_sub hl [0, 1, 2, 3, 4, 5, 6] rfl)
              · have h := ip (Int32.not_le.mp c_23) h
                refine lv_iload hx hb dX7_isNear_65 (lv_at hl 0 rfl) ?_
                refine lv_iload hx hb dX7_isNear_67 (lv_at hl 1 rfl) ?_
                refine lv_isub hx hb dX7_isNear_69 ?_
                refine lv_goto (tgt := 78) hx hb dX7_isNear_70 (by decide) ?_
                exact kj17 ((A 364 ((A 327 (((6 * a1) + v8).toNatClampNeg)).toNatClampNeg)) - (A 364 ((A 327 (((6 * a1) + v2).toNatClampNeg)).toNatClampNeg))) h _ _ hP hS ls (lv_sub hl [0, 1, 2, 3, 4, 5, 6] rfl)
        exact lp7 FU 0 h _ _ hP hS ls (lv_sub hl [0, 1, 2, 3, 4] rfl)
  exact lp1 FU 0 h _ _ hP hS ls (lv_sub hl [0, 1, 2, 3] rfl)
set_option maxHeartbeats 4000000 in
set_option maxRecDepth 100000 in
theorem e_X7_sumOf (l : Launch) (D : va_G) (K : Nat → ClassId) (ad : Nat → Nat) (hap0 : apart ad (fun _ => True)) (a1 : Int32) (a2 : Int32) (a3 : Int32) (I : Nat → Nat → Int32) (G : Nat → Nat → Nat) (A : Nat → Nat → Int32) (L : Nat → Nat → Int64) (r0 : Int32) (h : f_X7_sumOf A a1 a2 a3 = some r0) : Ci l D K ad yX7_sumOf wsX7_sumOf 0 0 [.ref (ad 318), .int a1, .int a2, .int a3] (I, G, A, L) (fun (r : Int32) (u : Mem) => r = r0 ∧ u = (I, G, A, L)) := by
  intro sz
  refine Met.ofW (cc := cX7_sumOf) (maxL := 9) (ret := (some .int)) (by decide) rfl ?_
  intro p e s m args below meth c s₁ Bd hml hv0
  obtain ⟨rfl, hsz, hP, hK⟩ := hv0
  have hx := Bd.exec
  have hb := Bd.bytes
  have hr := Bd.returns
  have hts := atoms_spec (ws := wsX7_sumOf) Bd.pre
  have hown : s.vm.findClass RX7 = some m.cls := findClass_of_methodNamed Bd.named
  have hlocks := Bd.notSynchronized
  have hi7 : ∀ w ∈ u_ws RX7 TX7 79, w ∈ wsX7_sumOf := fun w h => List.mem_cons_of_mem _ (List.mem_append_right _ h)
  subst hsz
  have hap := vF_ap hap0 s.heap.size
  have hS : va_S (vF ad s.heap.size) s.heap s.heap [] := va_S.rf
  have hP : va_P D vwCl (VW K ad I G A L) s.heap := hP
  have hl := lv_entry ([.ref (ad 318), .int a1, .int a2, .int a3]) (n := 9) (Nat.le_of_ble_eq_true rfl)
  rw [lg_entry_eq]
  generalize (lg_sl ([.ref (ad 318), .int a1, .int a2, .int a3]) ++ List.replicate (9 - (lg_sl ([.ref (ad 318), .int a1, .int a2, .int a3])).length) Slot.unset).toArray = ls at hl ⊢
  have hl : lv_has ls 9 [(0, .ref (ad 318)), (1, .int a1), (2, .int a2), (3, .int a3)] := hl
  rw [f_X7_sumOf] at h
  refine lv_iconst (v := 0) hx hb dX7_sumOf_0 (by decide) ?_
  refine lv_istore (lv' := [(4, .int 0), (0, .ref (ad 318)), (1, .int a1), (2, .int a2), (3, .int a3)]) hx hb dX7_sumOf_1 hl (by decide) rfl (fun ls hl => ?_)
  refine lv_iconst (v := 0) hx hb dX7_sumOf_3 (by decide) ?_
  refine lv_istore (lv' := [(5, .int 0), (4, .int 0), (0, .ref (ad 318)), (1, .int a1), (2, .int a2), (3, .int a3)]) hx hb dX7_sumOf_4 hl (by decide) rfl (fun ls hl => ?_)
  obtain ⟨k4, ek4, h⟩ := bd_e h
  have kk4 : ∀ (v5 : Int32), k4 v5 = some r0 → ∀ (H : Heap) (locs : List Loc), va_P D vwCl (VW K ad I G A L) H → va_S (vF ad s.heap.size) s.heap H locs → ∀ (ls : Array Slot), lv_has ls 9 [(4, .int v5)] → W p l e ({ frames := 0, cells := 0, slots := 0, locals := 0 }) s m ([.ref (ad 318), .int a1, .int a2, .int a3] : List Value).toArray below meth c H locs 0 0 (MQ below (va_Qi (fun (r : Int32) (u : Mem) => r = r0 ∧ u = (I, G, A, L)) (vB D K ad) (vF ad s.heap.size)) ([.ref (ad 318), .int a1, .int a2, .int a3] : List Value).toArray s 0 0 (vF ad s.heap.size)) (F0 m 125 ls []) := by
    intro v5 h H locs hP hS ls hl
    subst ek4
    refine lv_iload hx hb dX7_sumOf_125 (lv_at hl 0 rfl) ?_
    exact W.iret (v := v5) hx hb hr (fun t9 ht9 hW9 => ⟨⟨v5, (I, G, A, L), rfl, by cases h; exact ⟨rfl, rfl⟩, by rw [ht9]; exact hP, va_K.moved hW9.alike hK⟩, hS.F ht9⟩) hS.2.2 dX7_sumOf_127
  have lp1 : ∀ (n : Nat) (v2 : Int32) (v3 : Int32), f_X7_sumOf_L6 a1 a2 a3 A k4 n v2 v3 = some r0 → ∀ (H : Heap) (locs : List Loc), va_P D vwCl (VW K ad I G A L) H → va_S (vF ad s.heap.size) s.heap H locs → ∀ (ls : Array Slot), lv_has ls 9 [(5, .int v2), (4, .int v3), (0, .ref (ad 318)), (1, .int a1), (2, .int a2), (3, .int a3)] → W p l e ({ frames := 0, cells := 0, slots := 0, locals := 0 }) s m ([.ref (ad 318), .int a1, .int a2, .int a3] : List Value).toArray below meth c H locs 0 0 (MQ below (va_Qi (fun (r : Int32) (u : Mem) => r = r0 ∧ u = (I, G, A, L)) (vB D K ad) (vF ad s.heap.size)) ([.ref (ad 318), .int a1, .int a2, .int a3] : List Value).toArray s 0 0 (vF ad s.heap.size)) (F0 m 6 ls []) := by
    intro n
    induction n with
    | zero => intro v2 v3 h; exact absurd h (by rw [f_X7_sumOf_L6]; exact nofun)
    | succ n ih1 =>
      intro v2 v3 h H locs hP hS ls hl
      rw [f_X7_sumOf_L6] at h
      refine lv_iload hx hb dX7_sumOf_6 (lv_at hl 0 rfl) ?_
      refine lv_aload_n hx hb dX7_sumOf_8 rfl (lv_at hl 2 rfl) ?_
      refine vgC hx hb hts hi7 hown hK hP (318) (by decide) (show kd 318 = 7 by decide) (C := RX7) (T := TX7) (N := 79) rfl 10 (by decide) (by decide) (by decide) (by decide) (326) rfl (hts (.fieldLink RX7 31 "CrateHelpersModel" "parts" "[I") (by decide +kernel)) (fun _ h9 => h9) dX7_sumOf_9 ?_
      refine lv_iload_n hx hb dX7_sumOf_12 rfl (lv_at hl 4 rfl) ?_
      obtain ⟨hn6, h⟩ := gk h
      refine xiald hx hb hK hP (326) (by decide) (show kd 326 = 8 by decide) (by rw [show ln 326 = 40 by decide]; exact hn6) dX7_sumOf_13 ?_
      refine lv_icmp_ge (tgt := 125) hx hb dX7_sumOf_14 (by decide) (fun c_7 => ?_) (fun c_7 => ?_)
      · have h := iN (Int32.not_lt.mpr c_7) h
        exact kk4 v3 h _ _ hP hS ls (lv_sub hl [1] rfl)
      · have h := ip (Int32.not_le.mp c_7) h
        refine lv_aload_n hx hb dX7_sumOf_17 rfl (lv_at hl 2 rfl) ?_
        refine vgC hx hb hts hi7 hown hK hP (318) (by decide) (show kd 318 = 7 by decide) (C := RX7) (T := TX7) (N := 79) rfl 12 (by decide) (by decide) (by decide) (by decide) (328) rfl (hts (.fieldLink RX7 37 "CrateHelpersModel" "weight" "[I") (by decide +kernel)) (fun _ h9 => h9) dX7_sumOf_18 ?_
        refine lv_bipush (v := 6) hx hb dX7_sumOf_21 (by decide) ?_
        refine lv_iload_n hx hb dX7_sumOf_23 rfl (lv_at hl 4 rfl) ?_
        refine lv_imul hx hb dX7_sumOf_24 ?_
        refine lv_iload hx hb dX7_sumOf_25 (lv_at hl 0 rfl) ?_
        refine lv_iadd hx hb dX7_sumOf_27 ?_
        obtain ⟨hn8, h⟩ := gk h
        refine xiald hx hb hK hP (328) (by decide) (show kd 328 = 8 by decide) (by rw [show ln 328 = 240 by decide]; exact hn8) dX7_sumOf_28 ?_
        refine lv_istore (lv' := [(6, .int (A 328 (((6 * a2) + v2).toNatClampNeg))), (5, .int v2), (4, .int v3), (0, .ref (ad 318)), (1, .int a1), (2, .int a2), (3, .int a3)]) hx hb dX7_sumOf_29 hl (by decide) rfl (fun ls hl => ?_)
        refine lv_aload_n hx hb dX7_sumOf_31 rfl (lv_at hl 3 rfl) ?_
        refine vgC hx hb hts hi7 hown hK hP (318) (by decide) (show kd 318 = 7 by decide) (C := RX7) (T := TX7) (N := 79) rfl 63 (by decide) (by decide) (by decide) (by decide) (364) rfl (hts (.fieldLink RX7 159 "CrateHelpersModel" "now" "[I") (by decide +kernel)) (fun _ h9 => h9) dX7_sumOf_32 ?_
        refine lv_aload_n hx hb dX7_sumOf_35 rfl (lv_at hl 3 rfl) ?_
        refine vgC hx hb hts hi7 hown hK hP (318) (by decide) (show kd 318 = 7 by decide) (C := RX7) (T := TX7) (N := 79) rfl 11 (by decide) (by decide) (by decide) (by decide) (327) rfl (hts (.fieldLink RX7 34 "CrateHelpersModel" "partOf" "[I") (by decide +kernel)) (fun _ h9 => h9) dX7_sumOf_36 ?_
        refine lv_bipush (v := 6) hx hb dX7_sumOf_39 (by decide) ?_
        refine lv_iload_n hx hb dX7_sumOf_41 rfl (lv_at hl 5 rfl) ?_
        refine lv_imul hx hb dX7_sumOf_42 ?_
        refine lv_iload hx hb dX7_sumOf_43 (lv_at hl 1 rfl) ?_
        refine lv_iadd hx hb dX7_sumOf_45 ?_
        refine xiald hx hb hK hP (327) (by decide) (show kd 327 = 8 by decide) (by rw [show ln 327 = 240 by decide]; exact hn8) dX7_sumOf_46 ?_
        obtain ⟨hn9, h⟩ := gk h
        refine xiald hx hb hK hP (364) (by decide) (show kd 364 = 8 by decide) (by rw [show ln 364 = 6 by decide]; exact hn9) dX7_sumOf_47 ?_
        refine lv_istore (lv' := [(7, .int (A 364 ((A 327 (((6 * a2) + v2).toNatClampNeg)).toNatClampNeg))), (6, .int (A 328 (((6 * a2) + v2).toNatClampNeg))), (5, .int v2), (4, .int v3), (0, .ref (ad 318)), (1, .int a1), (2, .int a2), (3, .int a3)]) hx hb dX7_sumOf_48 hl (by decide) rfl (fun ls hl => ?_)
        refine lv_aload_n hx hb dX7_sumOf_50 rfl (lv_at hl 4 rfl) ?_
        refine vgC hx hb hts hi7 hown hK hP (318) (by decide) (show kd 318 = 7 by decide) (C := RX7) (T := TX7) (N := 79) rfl 5 (by decide) (by decide) (by decide) (by decide) (321) rfl (hts (.fieldLink RX7 16 "CrateHelpersModel" "values" "[I") (by decide +kernel)) (fun _ h9 => h9) dX7_sumOf_51 ?_
        refine lv_bipush (v := 6) hx hb dX7_sumOf_54 (by decide) ?_
        refine lv_iload_n hx hb dX7_sumOf_56 rfl (lv_at hl 5 rfl) ?_
        refine lv_imul hx hb dX7_sumOf_57 ?_
        refine lv_aload_n hx hb dX7_sumOf_58 rfl (lv_at hl 4 rfl) ?_
        refine vgC hx hb hts hi7 hown hK hP (318) (by decide) (show kd 318 = 7 by decide) (C := RX7) (T := TX7) (N := 79) rfl 11 (by decide) (by decide) (by decide) (by decide) (327) rfl (hts (.fieldLink RX7 34 "CrateHelpersModel" "partOf" "[I") (by decide +kernel)) (fun _ h9 => h9) dX7_sumOf_59 ?_
        refine lv_bipush (v := 6) hx hb dX7_sumOf_62 (by decide) ?_
        refine lv_iload_n hx hb dX7_sumOf_64 rfl (lv_at hl 6 rfl) ?_
        refine lv_imul hx hb dX7_sumOf_65 ?_
        refine lv_iload hx hb dX7_sumOf_66 (lv_at hl 2 rfl) ?_
        refine lv_iadd hx hb dX7_sumOf_68 ?_
        refine xiald hx hb hK hP (327) (by decide) (show kd 327 = 8 by decide) (by rw [show ln 327 = 240 by decide]; exact hn8) dX7_sumOf_69 ?_
        refine lv_iadd hx hb dX7_sumOf_70 ?_
        obtain ⟨hn10, h⟩ := gk h
        refine xiald hx hb hK hP (321) (by decide) (show kd 321 = 8 by decide) (by rw [show ln 321 = 30 by decide]; exact hn10) dX7_sumOf_71 ?_
        refine lv_iconst (v := 1) hx hb dX7_sumOf_72 (by decide) ?_
        refine lv_isub hx hb dX7_sumOf_73 ?_
        refine lv_istore (lv' := [(8, .int ((A 321 (((6 * a1) + (A 327 (((6 * a2) + v2).toNatClampNeg))).toNatClampNeg)) - 1)), (7, .int (A 364 ((A 327 (((6 * a2) + v2).toNatClampNeg)).toNatClampNeg))), (6, .int (A 328 (((6 * a2) + v2).toNatClampNeg))), (5, .int v2), (4, .int v3), (0, .ref (ad 318)), (1, .int a1), (2, .int a2), (3, .int a3)]) hx hb dX7_sumOf_74 hl (by decide) rfl (fun ls hl => ?_)
        refine lv_iload hx hb dX7_sumOf_76 (lv_at hl 4 rfl) ?_
        refine lv_iload hx hb dX7_sumOf_78 (lv_at hl 1 rfl) ?_
        refine lv_bipush (v := (-9)) hx hb dX7_sumOf_80 (by decide) ?_
        refine lv_icmp_eq (tgt := 93) hx hb dX7_sumOf_82 (by decide) (fun c_11 => ?_) (fun c_11 => ?_)
        · have h := ip c_11 h
          refine lv_iload hx hb dX7_sumOf_93 (lv_at hl 2 rfl) ?_
          refine lv_if_ge (tgt := 102) hx hb dX7_sumOf_95 (by decide) (fun c_12 => ?_) (fun c_12 => ?_)
          · have h := iN (Int32.not_lt.mpr c_12) h
            refine lv_iconst (v := 0) hx hb dX7_sumOf_102 (by decide) ?_
            refine lv_iload_n hx hb dX7_sumOf_103 rfl (lv_at hl 8 rfl) ?_
            refine lv_icmp_ne (tgt := 115) hx hb dX7_sumOf_104 (by decide) (fun c_13 => ?_) (fun c_13 => ?_)
            · have h := iN c_13 h
              refine lv_iconst (v := 0) hx hb dX7_sumOf_115 (by decide) ?_
              refine lv_iadd hx hb dX7_sumOf_116 ?_
              refine lv_istore (lv' := [(4, .int (v3 + 0)), (8, .int ((A 321 (((6 * a1) + (A 327 (((6 * a2) + v2).toNatClampNeg))).toNatClampNeg)) - 1)), (7, .int (A 364 ((A 327 (((6 * a2) + v2).toNatClampNeg)).toNatClampNeg))), (6, .int (A 328 (((6 * a2) + v2).toNatClampNeg))), (5, .int v2), (0, .ref (ad 318)), (1, .int a1), (2, .int a2), (3, .int a3)]) hx hb dX7_sumOf_117 hl (by decide) rfl (fun ls hl => ?_)
              refine lv_iinc (v := (v2 + 1)) (lv' := [(5, .int (v2 + 1)), (4, .int (v3 + 0)), (8, .int ((A 321 (((6 * a1) + (A 327 (((6 * a2) + v2).toNatClampNeg))).toNatClampNeg)) - 1)), (7, .int (A 364 ((A 327 (((6 * a2) + v2).toNatClampNeg)).toNatClampNeg))), (6, .int (A 328 (((6 * a2) + v2).toNatClampNeg))), (0, .ref (ad 318)), (1, .int a1), (2, .int a2), (3, .int a3)]) hx hb dX7_sumOf_119 hl (k := 4) rfl rfl (by decide) rfl (fun ls hl => ?_)
              refine lv_goto (tgt := 6) hx hb dX7_sumOf_122 (by decide) ?_
              exact ih1 (v2 + 1) (v3 + 0) h _ _ hP hS ls (lv_sub hl [0, 1, 5, 6, 7, 8] rfl)
            · have h := ip c_13 h
              refine lv_iload hx hb dX7_sumOf_107 (lv_at hl 2 rfl) ?_
              refine lv_iload hx hb dX7_sumOf_109 (lv_at hl 0 rfl) ?_
              refine lv_imul hx hb dX7_sumOf_111 ?_
              refine lv_goto (tgt := 116) hx hb dX7_sumOf_112 (by decide) ?_
              refine lv_iadd hx hb dX7_sumOf_116 ?_
              refine lv_istore (lv' := [(4, .int (v3 + ((A 328 (((6 * a2) + v2).toNatClampNeg)) * ((A 321 (((6 * a1) + (A 327 (((6 * a2) + v2).toNatClampNeg))).toNatClampNeg)) - 1)))), (8, .int ((A 321 (((6 * a1) + (A 327 (((6 * a2) + v2).toNatClampNeg))).toNatClampNeg)) - 1)), (7, .int (A 364 ((A 327 (((6 * a2) + v2).toNatClampNeg)).toNatClampNeg))), (6, .int (A 328 (((6 * a2) + v2).toNatClampNeg))), (5, .int v2), (0, .ref (ad 318)), (1, .int a1), (2, .int a2), (3, .int a3)]) hx hb dX7_sumOf_117 hl (by decide) rfl (fun ls hl => ?_)
              refine lv_iinc (v := (v2 + 1)) (lv' := [(5, .int (v2 + 1)), (4, .int (v3 + ((A 328 (((6 * a2) + v2).toNatClampNeg)) * ((A 321 (((6 * a1) + (A 327 (((6 * a2) + v2).toNatClampNeg))).toNatClampNeg)) - 1)))), (8, .int ((A 321 (((6 * a1) + (A 327 (((6 * a2) + v2).toNatClampNeg))).toNatClampNeg)) - 1)), (7, .int (A 364 ((A 327 (((6 * a2) + v2).toNatClampNeg)).toNatClampNeg))), (6, .int (A 328 (((6 * a2) + v2).toNatClampNeg))), (0, .ref (ad 318)), (1, .int a1), (2, .int a2), (3, .int a3)]) hx hb dX7_sumOf_119 hl (k := 4) rfl rfl (by decide) rfl (fun ls hl => ?_)
              refine lv_goto (tgt := 6) hx hb dX7_sumOf_122 (by decide) ?_
              exact ih1 (v2 + 1) (v3 + ((A 328 (((6 * a2) + v2).toNatClampNeg)) * ((A 321 (((6 * a1) + (A 327 (((6 * a2) + v2).toNatClampNeg))).toNatClampNeg)) - 1))) h _ _ hP hS ls (lv_sub hl [0, 1, 5, 6, 7, 8] rfl)
          · have h := ip (Int32.not_le.mp c_12) h
            refine lv_iconst (v := 1) hx hb dX7_sumOf_98 (by decide) ?_
            refine lv_goto (tgt := 103) hx hb dX7_sumOf_99 (by decide) ?_
            refine lv_iload_n hx hb dX7_sumOf_103 rfl (lv_at hl 8 rfl) ?_
            refine lv_icmp_ne (tgt := 115) hx hb dX7_sumOf_104 (by decide) (fun c_14 => ?_) (fun c_14 => ?_)
            · have h := iN c_14 h
              refine lv_iconst (v := 0) hx hb dX7_sumOf_115 (by decide) ?_
              refine lv_iadd hx hb dX7_sumOf_116 ?_
              refine lv_istore (lv' := [(4, .int (v3 + 0)), (8, .int ((A 321 (((6 * a1) + (A 327 (((6 * a2) + v2).toNatClampNeg))).toNatClampNeg)) - 1)), (7, .int (A 364 ((A 327 (((6 * a2) + v2).toNatClampNeg)).toNatClampNeg))), (6, .int (A 328 (((6 * a2) + v2).toNatClampNeg))), (5, .int v2), (0, .ref (ad 318)), (1, .int a1), (2, .int a2), (3, .int a3)]) hx hb dX7_sumOf_117 hl (by decide) rfl (fun ls hl => ?_)
              refine lv_iinc (v := (v2 + 1)) (lv' := [(5, .int (v2 + 1)), (4, .int (v3 + 0)), (8, .int ((A 321 (((6 * a1) + (A 327 (((6 * a2) + v2).toNatClampNeg))).toNatClampNeg)) - 1)), (7, .int (A 364 ((A 327 (((6 * a2) + v2).toNatClampNeg)).toNatClampNeg))), (6, .int (A 328 (((6 * a2) + v2).toNatClampNeg))), (0, .ref (ad 318)), (1, .int a1), (2, .int a2), (3, .int a3)]) hx hb dX7_sumOf_119 hl (k := 4) rfl rfl (by decide) rfl (fun ls hl => ?_)
              refine lv_goto (tgt := 6) hx hb dX7_sumOf_122 (by decide) ?_
              exact ih1 (v2 + 1) (v3 + 0) h _ _ hP hS ls (lv_sub hl [0, 1, 5, 6, 7, 8] rfl)
            · have h := ip c_14 h
              refine lv_iload hx hb dX7_sumOf_107 (lv_at hl 2 rfl) ?_
              refine lv_iload hx hb dX7_sumOf_109 (lv_at hl 0 rfl) ?_
              refine lv_imul hx hb dX7_sumOf_111 ?_
              refine lv_goto (tgt := 116) hx hb dX7_sumOf_112 (by decide) ?_
              refine lv_iadd hx hb dX7_sumOf_116 ?_
              refine lv_istore (lv' := [(4, .int (v3 + ((A 328 (((6 * a2) + v2).toNatClampNeg)) * ((A 321 (((6 * a1) + (A 327 (((6 * a2) + v2).toNatClampNeg))).toNatClampNeg)) - 1)))), (8, .int ((A 321 (((6 * a1) + (A 327 (((6 * a2) + v2).toNatClampNeg))).toNatClampNeg)) - 1)), (7, .int (A 364 ((A 327 (((6 * a2) + v2).toNatClampNeg)).toNatClampNeg))), (6, .int (A 328 (((6 * a2) + v2).toNatClampNeg))), (5, .int v2), (0, .ref (ad 318)), (1, .int a1), (2, .int a2), (3, .int a3)]) hx hb dX7_sumOf_117 hl (by decide) rfl (fun ls hl => ?_)
              refine lv_iinc (v := (v2 + 1)) (lv' := [(5, .int (v2 + 1)), (4, .int (v3 + ((A 328 (((6 * a2) + v2).toNatClampNeg)) * ((A 321 (((6 * a1) + (A 327 (((6 * a2) + v2).toNatClampNeg))).toNatClampNeg)) - 1)))), (8, .int ((A 321 (((6 * a1) + (A 327 (((6 * a2) + v2).toNatClampNeg))).toNatClampNeg)) - 1)), (7, .int (A 364 ((A 327 (((6 * a2) + v2).toNatClampNeg)).toNatClampNeg))), (6, .int (A 328 (((6 * a2) + v2).toNatClampNeg))), (0, .ref (ad 318)), (1, .int a1), (2, .int a2), (3, .int a3)]) hx hb dX7_sumOf_119 hl (k := 4) rfl rfl (by decide) rfl (fun ls hl => ?_)
              refine lv_goto (tgt := 6) hx hb dX7_sumOf_122 (by decide) ?_
              exact ih1 (v2 + 1) (v3 + ((A 328 (((6 * a2) + v2).toNatClampNeg)) * ((A 321 (((6 * a1) + (A 327 (((6 * a2) + v2).toNatClampNeg))).toNatClampNeg)) - 1))) h _ _ hP hS ls (lv_sub hl [0, 1, 5, 6, 7, 8] rfl)
        · have h := iN c_11 h
          refine lv_iload hx hb dX7_sumOf_85 (lv_at hl 2 rfl) ?_
          refine lv_iload hx hb dX7_sumOf_87 (lv_at hl 1 rfl) ?_
          refine lv_imul hx hb dX7_sumOf_89 ?_
          refine lv_goto (tgt := 116) hx hb dX7_sumOf_90 (by decide) ?_
          refine lv_iadd hx hb dX7_sumOf_116 ?_
          refine lv_istore (lv' := [(4, .int (v3 + ((A 328 (((6 * a2) + v2).toNatClampNeg)) * (A 364 ((A 327 (((6 * a2) + v2).toNatClampNeg)).toNatClampNeg))))), (8, .int ((A 321 (((6 * a1) + (A 327 (((6 * a2) + v2).toNatClampNeg))).toNatClampNeg)) - 1)), (7, .int (A 364 ((A 327 (((6 * a2) + v2).toNatClampNeg)).toNatClampNeg))), (6, .int (A 328 (((6 * a2) + v2).toNatClampNeg))), (5, .int v2), (0, .ref (ad 318)), (1, .int a1), (2, .int a2), (3, .int a3)]) hx hb dX7_sumOf_117 hl (by decide) rfl (fun ls hl => ?_)
          refine lv_iinc (v := (v2 + 1)) (lv' := [(5, .int (v2 + 1)), (4, .int (v3 + ((A 328 (((6 * a2) + v2).toNatClampNeg)) * (A 364 ((A 327 (((6 * a2) + v2).toNatClampNeg)).toNatClampNeg))))), (8, .int ((A 321 (((6 * a1) + (A 327 (((6 * a2) + v2).toNatClampNeg))).toNatClampNeg)) - 1)), (7, .int (A 364 ((A 327 (((6 * a2) + v2).toNatClampNeg)).toNatClampNeg))), (6, .int (A 328 (((6 * a2) + v2).toNatClampNeg))), (0, .ref (ad 318)), (1, .int a1), (2, .int a2), (3, .int a3)]) hx hb dX7_sumOf_119 hl (k := 4) rfl rfl (by decide) rfl (fun ls hl => ?_)
          refine lv_goto (tgt := 6) hx hb dX7_sumOf_122 (by decide) ?_
          exact ih1 (v2 + 1) (v3 + ((A 328 (((6 * a2) + v2).toNatClampNeg)) * (A 364 ((A 327 (((6 * a2) + v2).toNatClampNeg)).toNatClampNeg)))) h _ _ hP hS ls (lv_sub hl [0, 1, 5, 6, 7, 8] rfl)
  exact lp1 FU 0 0 h _ _ hP hS ls (lv_sub hl [0, 1, 2, 3, 4, 5] rfl)
set_option maxHeartbeats 4000000 in
set_option maxRecDepth 100000 in
theorem e_X7_isBroken (l : Launch) (D : va_G) (K : Nat → ClassId) (ad : Nat → Nat) (hap0 : apart ad (fun _ => True)) (a1 : Int32) (a2 : Int32) (I : Nat → Nat → Int32) (G : Nat → Nat → Nat) (A : Nat → Nat → Int32) (L : Nat → Nat → Int64) (r0 : Int32) (h : f_X7_isBroken A a1 a2 = some r0) : Ci l D K ad yX7_isBroken wsX7_isBroken 1 31 [.ref (ad 318), .int a1, .int a2] (I, G, A, L) (fun (r : Int32) (u : Mem) => r = r0 ∧ u = (I, G, A, L)) := by
  intro sz
  refine Met.ofW (cc := cX7_isBroken) (maxL := 8) (ret := (some .boolean)) (by decide) rfl ?_
  intro p e s m args below meth c s₁ Bd hml hv0
  obtain ⟨rfl, hsz, hP, hK⟩ := hv0
  have hx := Bd.exec
  have hb := Bd.bytes
  have hr := Bd.returns
  have hts := atoms_spec (ws := wsX7_isBroken) Bd.pre
  have hown : s.vm.findClass RX7 = some m.cls := findClass_of_methodNamed Bd.named
  have hlocks := Bd.notSynchronized
  have hi7 : ∀ w ∈ u_ws RX7 TX7 79, w ∈ wsX7_isBroken := fun w h => List.mem_cons_of_mem _ (List.mem_append_right _ h)
  subst hsz
  have hap := vF_ap hap0 s.heap.size
  have hS : va_S (vF ad s.heap.size) s.heap s.heap [] := va_S.rf
  have hP : va_P D vwCl (VW K ad I G A L) s.heap := hP
  have hl := lv_entry ([.ref (ad 318), .int a1, .int a2]) (n := 8) (Nat.le_of_ble_eq_true rfl)
  rw [lg_entry_eq]
  generalize (lg_sl ([.ref (ad 318), .int a1, .int a2]) ++ List.replicate (8 - (lg_sl ([.ref (ad 318), .int a1, .int a2])).length) Slot.unset).toArray = ls at hl ⊢
  have hl : lv_has ls 8 [(0, .ref (ad 318)), (1, .int a1), (2, .int a2)] := hl
  rw [f_X7_isBroken] at h
  refine lv_bipush (v := 8) hx hb dX7_isBroken_0 (by decide) ?_
  refine lv_iload_n hx hb dX7_isBroken_2 rfl (lv_at hl 1 rfl) ?_
  refine lv_imul hx hb dX7_isBroken_3 ?_
  refine lv_iload_n hx hb dX7_isBroken_4 rfl (lv_at hl 2 rfl) ?_
  refine lv_iadd hx hb dX7_isBroken_5 ?_
  refine lv_istore_n (lv' := [(3, .int ((8 * a1) + a2)), (0, .ref (ad 318)), (1, .int a1), (2, .int a2)]) hx hb dX7_isBroken_6 rfl hl (by decide) rfl (fun ls hl => ?_)
  refine lv_aload_n hx hb dX7_isBroken_7 rfl (lv_at hl 1 rfl) ?_
  refine vgC hx hb hts hi7 hown hK hP (318) (by decide) (show kd 318 = 7 by decide) (C := RX7) (T := TX7) (N := 79) rfl 9 (by decide) (by decide) (by decide) (by decide) (325) rfl (hts (.fieldLink RX7 28 "CrateHelpersModel" "ruleNumber" "[I") (by decide +kernel)) (fun _ h9 => h9) dX7_isBroken_8 ?_
  refine lv_iload_n hx hb dX7_isBroken_11 rfl (lv_at hl 0 rfl) ?_
  obtain ⟨hn1, h⟩ := gk h
  refine xiald hx hb hK hP (325) (by decide) (show kd 325 = 8 by decide) (by rw [show ln 325 = 40 by decide]; exact hn1) dX7_isBroken_12 ?_
  refine lv_istore (lv' := [(4, .int (A 325 (((8 * a1) + a2).toNatClampNeg))), (3, .int ((8 * a1) + a2)), (0, .ref (ad 318)), (1, .int a1), (2, .int a2)]) hx hb dX7_isBroken_13 hl (by decide) rfl (fun ls hl => ?_)
  refine lv_aload_n hx hb dX7_isBroken_15 rfl (lv_at hl 2 rfl) ?_
  refine vgC hx hb hts hi7 hown hK hP (318) (by decide) (show kd 318 = 7 by decide) (C := RX7) (T := TX7) (N := 79) rfl 8 (by decide) (by decide) (by decide) (by decide) (324) rfl (hts (.fieldLink RX7 25 "CrateHelpersModel" "ruleKind" "[I") (by decide +kernel)) (fun _ h9 => h9) dX7_isBroken_16 ?_
  refine lv_iload_n hx hb dX7_isBroken_19 rfl (lv_at hl 1 rfl) ?_
  refine xiald hx hb hK hP (324) (by decide) (show kd 324 = 8 by decide) (by rw [show ln 324 = 40 by decide]; exact hn1) dX7_isBroken_20 ?_
  rcases sw_6 (A 324 (((8 * a1) + a2).toNatClampNeg)) with hs2 | hs2 | hs2 | hs2 | hs2 | hs2 | hs2 | hs2
  · have h := ip hs2 h
    refine W_top hs2 ?_
    refine lv_tableIn (off := 43) (tgt := 64) hx hb dX7_isBroken_21 (by decide) (by decide) (by decide) (by decide) ?_
    refine lv_aload_n hx hb dX7_isBroken_64 rfl (lv_at hl 2 rfl) ?_
    refine lv_iload_n hx hb dX7_isBroken_65 rfl (lv_at hl 1 rfl) ?_
    obtain ⟨r3, hc4, h⟩ := Option.bind_eq_some_iff.mp h
    refine ecV (As := [.int ((8 * a1) + a2)]) (rest := []) ⟨hx, hb, hml, hown, hts⟩ (e_X7_isLoaded l D K ad hap0 ((8 * a1) + a2) I G A L r3 hc4) (cwV 1 hts gX7_isBroken_X7_isLoaded rfl rfl rfl (by decide +kernel) ⟨Nat.le_of_ble_eq_true rfl, Nat.le_of_ble_eq_true rfl⟩) hK hP hS (by decide) (show kd 318 = 7 by decide) (by decide) rfl rfl rfl hl.1 (Nat.le_of_ble_eq_true rfl) (Nat.le_of_ble_eq_true rfl) (Nat.le_of_ble_eq_true rfl) dX7_isBroken_66 (fun H locs hP hS => ?_) rfl
    have hP : va_P D vwCl (VW K ad I G A L) H := hP
    obtain ⟨hz5, h⟩ := gk h
    exact W.zret (v := r3) hx hb hr (nar01 hz5) (fun t9 ht9 hW9 => ⟨⟨r3, (I, G, A, L), rfl, by cases h; exact ⟨rfl, rfl⟩, by rw [ht9]; exact hP, va_K.moved hW9.alike hK⟩, hS.F ht9⟩) hS.2.2 dX7_isBroken_69
  · have h := iN (by rw [hs2]; decide) h
    have h := ip hs2 h
    refine W_top hs2 ?_
    refine lv_tableIn (off := 49) (tgt := 70) hx hb dX7_isBroken_21 (by decide) (by decide) (by decide) (by decide) ?_
    refine lv_aload_n hx hb dX7_isBroken_70 rfl (lv_at hl 2 rfl) ?_
    refine lv_iload_n hx hb dX7_isBroken_71 rfl (lv_at hl 3 rfl) ?_
    refine lv_iload_n hx hb dX7_isBroken_72 rfl (lv_at hl 1 rfl) ?_
    refine lv_iconst (v := 1) hx hb dX7_isBroken_73 (by decide) ?_
    obtain ⟨r6, hc7, h⟩ := Option.bind_eq_some_iff.mp h
    refine ecV (As := [.int a1, .int ((8 * a1) + a2), .int 1]) (rest := []) ⟨hx, hb, hml, hown, hts⟩ (e_X7_sumOf l D K ad hap0 a1 ((8 * a1) + a2) 1 I G A L r6 hc7) (cwV 3 hts gX7_isBroken_X7_sumOf rfl rfl rfl (by decide +kernel) ⟨Nat.le_of_ble_eq_true rfl, Nat.le_of_ble_eq_true rfl⟩) hK hP hS (by decide) (show kd 318 = 7 by decide) (by decide) rfl rfl rfl hl.1 (Nat.le_of_ble_eq_true rfl) (Nat.le_of_ble_eq_true rfl) (Nat.le_of_ble_eq_true rfl) dX7_isBroken_74 (fun H locs hP hS => ?_) rfl
    have hP : va_P D vwCl (VW K ad I G A L) H := hP
    refine lv_iload hx hb dX7_isBroken_77 (lv_at hl 0 rfl) ?_
    refine lv_icmp_le (tgt := 86) hx hb dX7_isBroken_79 (by decide) (fun c_8 => ?_) (fun c_8 => ?_)
    · have h := iN (Int32.not_lt.mpr c_8) h
      refine lv_iconst (v := 0) hx hb dX7_isBroken_86 (by decide) ?_
      exact W.zret (v := 0) hx hb hr (by decide) (fun t9 ht9 hW9 => ⟨⟨0, (I, G, A, L), rfl, by cases h; exact ⟨rfl, rfl⟩, by rw [ht9]; exact hP, va_K.moved hW9.alike hK⟩, hS.F ht9⟩) hS.2.2 dX7_isBroken_87
    · have h := ip (Int32.not_le.mp c_8) h
      refine lv_iconst (v := 1) hx hb dX7_isBroken_82 (by decide) ?_
      refine lv_goto (tgt := 87) hx hb dX7_isBroken_83 (by decide) ?_
      exact W.zret (v := 1) hx hb hr (by decide) (fun t9 ht9 hW9 => ⟨⟨1, (I, G, A, L), rfl, by cases h; exact ⟨rfl, rfl⟩, by rw [ht9]; exact hP, va_K.moved hW9.alike hK⟩, hS.F ht9⟩) hS.2.2 dX7_isBroken_87
  · have h := iN (by rw [hs2]; decide) h
    have h := iN (by rw [hs2]; decide) h
    have h := ip hs2 h
    refine W_top hs2 ?_
    refine lv_tableIn (off := 67) (tgt := 88) hx hb dX7_isBroken_21 (by decide) (by decide) (by decide) (by decide) ?_
    refine lv_aload_n hx hb dX7_isBroken_88 rfl (lv_at hl 2 rfl) ?_
    refine lv_iload_n hx hb dX7_isBroken_89 rfl (lv_at hl 3 rfl) ?_
    refine lv_iload_n hx hb dX7_isBroken_90 rfl (lv_at hl 1 rfl) ?_
    refine lv_iconst (v := 0) hx hb dX7_isBroken_91 (by decide) ?_
    obtain ⟨r9, hc10, h⟩ := Option.bind_eq_some_iff.mp h
    refine ecV (As := [.int a1, .int ((8 * a1) + a2), .int 0]) (rest := []) ⟨hx, hb, hml, hown, hts⟩ (e_X7_sumOf l D K ad hap0 a1 ((8 * a1) + a2) 0 I G A L r9 hc10) (cwV 3 hts gX7_isBroken_X7_sumOf rfl rfl rfl (by decide +kernel) ⟨Nat.le_of_ble_eq_true rfl, Nat.le_of_ble_eq_true rfl⟩) hK hP hS (by decide) (show kd 318 = 7 by decide) (by decide) rfl rfl rfl hl.1 (Nat.le_of_ble_eq_true rfl) (Nat.le_of_ble_eq_true rfl) (Nat.le_of_ble_eq_true rfl) dX7_isBroken_92 (fun H locs hP hS => ?_) rfl
    have hP : va_P D vwCl (VW K ad I G A L) H := hP
    refine lv_iload hx hb dX7_isBroken_95 (lv_at hl 0 rfl) ?_
    refine lv_icmp_ge (tgt := 104) hx hb dX7_isBroken_97 (by decide) (fun c_11 => ?_) (fun c_11 => ?_)
    · have h := iN (Int32.not_lt.mpr c_11) h
      refine lv_iconst (v := 0) hx hb dX7_isBroken_104 (by decide) ?_
      exact W.zret (v := 0) hx hb hr (by decide) (fun t9 ht9 hW9 => ⟨⟨0, (I, G, A, L), rfl, by cases h; exact ⟨rfl, rfl⟩, by rw [ht9]; exact hP, va_K.moved hW9.alike hK⟩, hS.F ht9⟩) hS.2.2 dX7_isBroken_105
    · have h := ip (Int32.not_le.mp c_11) h
      refine lv_iconst (v := 1) hx hb dX7_isBroken_100 (by decide) ?_
      refine lv_goto (tgt := 105) hx hb dX7_isBroken_101 (by decide) ?_
      exact W.zret (v := 1) hx hb hr (by decide) (fun t9 ht9 hW9 => ⟨⟨1, (I, G, A, L), rfl, by cases h; exact ⟨rfl, rfl⟩, by rw [ht9]; exact hP, va_K.moved hW9.alike hK⟩, hS.F ht9⟩) hS.2.2 dX7_isBroken_105
  · have h := iN (by rw [hs2]; decide) h
    have h := iN (by rw [hs2]; decide) h
    have h := iN (by rw [hs2]; decide) h
    have h := ip hs2 h
    refine W_top hs2 ?_
    refine lv_tableIn (off := 85) (tgt := 106) hx hb dX7_isBroken_21 (by decide) (by decide) (by decide) (by decide) ?_
    refine lv_aload_n hx hb dX7_isBroken_106 rfl (lv_at hl 2 rfl) ?_
    refine lv_iload_n hx hb dX7_isBroken_107 rfl (lv_at hl 3 rfl) ?_
    refine lv_iload_n hx hb dX7_isBroken_108 rfl (lv_at hl 1 rfl) ?_
    refine lv_iconst (v := 1) hx hb dX7_isBroken_109 (by decide) ?_
    obtain ⟨r12, hc13, h⟩ := Option.bind_eq_some_iff.mp h
    refine ecV (As := [.int a1, .int ((8 * a1) + a2), .int 1]) (rest := []) ⟨hx, hb, hml, hown, hts⟩ (e_X7_sumOf l D K ad hap0 a1 ((8 * a1) + a2) 1 I G A L r12 hc13) (cwV 3 hts gX7_isBroken_X7_sumOf rfl rfl rfl (by decide +kernel) ⟨Nat.le_of_ble_eq_true rfl, Nat.le_of_ble_eq_true rfl⟩) hK hP hS (by decide) (show kd 318 = 7 by decide) (by decide) rfl rfl rfl hl.1 (Nat.le_of_ble_eq_true rfl) (Nat.le_of_ble_eq_true rfl) (Nat.le_of_ble_eq_true rfl) dX7_isBroken_110 (fun H locs hP hS => ?_) rfl
    have hP : va_P D vwCl (VW K ad I G A L) H := hP
    refine lv_iload hx hb dX7_isBroken_113 (lv_at hl 0 rfl) ?_
    refine lv_icmp_gt (tgt := 130) hx hb dX7_isBroken_115 (by decide) (fun c_14 => ?_) (fun c_14 => ?_)
    · have h := ip c_14 h
      refine lv_iconst (v := 1) hx hb dX7_isBroken_130 (by decide) ?_
      refine lv_goto (tgt := 135) hx hb dX7_isBroken_131 (by decide) ?_
      exact W.zret (v := 1) hx hb hr (by decide) (fun t9 ht9 hW9 => ⟨⟨1, (I, G, A, L), rfl, by cases h; exact ⟨rfl, rfl⟩, by rw [ht9]; exact hP, va_K.moved hW9.alike hK⟩, hS.F ht9⟩) hS.2.2 dX7_isBroken_135
    · have h := iN c_14 h
      refine lv_aload_n hx hb dX7_isBroken_118 rfl (lv_at hl 2 rfl) ?_
      refine lv_iload_n hx hb dX7_isBroken_119 rfl (lv_at hl 3 rfl) ?_
      refine lv_iload_n hx hb dX7_isBroken_120 rfl (lv_at hl 1 rfl) ?_
      refine lv_iconst (v := 0) hx hb dX7_isBroken_121 (by decide) ?_
      obtain ⟨r15, hc16, h⟩ := Option.bind_eq_some_iff.mp h
      refine ecV (As := [.int a1, .int ((8 * a1) + a2), .int 0]) (rest := []) ⟨hx, hb, hml, hown, hts⟩ (e_X7_sumOf l D K ad hap0 a1 ((8 * a1) + a2) 0 I G A L r15 hc16) (cwV 3 hts gX7_isBroken_X7_sumOf rfl rfl rfl (by decide +kernel) ⟨Nat.le_of_ble_eq_true rfl, Nat.le_of_ble_eq_true rfl⟩) hK hP hS (by decide) (show kd 318 = 7 by decide) (by decide) rfl rfl rfl hl.1 (Nat.le_of_ble_eq_true rfl) (Nat.le_of_ble_eq_true rfl) (Nat.le_of_ble_eq_true rfl) dX7_isBroken_122 (fun H locs hP hS => ?_) rfl
      have hP : va_P D vwCl (VW K ad I G A L) H := hP
      refine lv_iload hx hb dX7_isBroken_125 (lv_at hl 0 rfl) ?_
      refine lv_icmp_ge (tgt := 134) hx hb dX7_isBroken_127 (by decide) (fun c_17 => ?_) (fun c_17 => ?_)
      · have h := iN (Int32.not_lt.mpr c_17) h
        refine lv_iconst (v := 0) hx hb dX7_isBroken_134 (by decide) ?_
        exact W.zret (v := 0) hx hb hr (by decide) (fun t9 ht9 hW9 => ⟨⟨0, (I, G, A, L), rfl, by cases h; exact ⟨rfl, rfl⟩, by rw [ht9]; exact hP, va_K.moved hW9.alike hK⟩, hS.F ht9⟩) hS.2.2 dX7_isBroken_135
      · have h := ip (Int32.not_le.mp c_17) h
        refine lv_iconst (v := 1) hx hb dX7_isBroken_130 (by decide) ?_
        refine lv_goto (tgt := 135) hx hb dX7_isBroken_131 (by decide) ?_
        exact W.zret (v := 1) hx hb hr (by decide) (fun t9 ht9 hW9 => ⟨⟨1, (I, G, A, L), rfl, by cases h; exact ⟨rfl, rfl⟩, by rw [ht9]; exact hP, va_K.moved hW9.alike hK⟩, hS.F ht9⟩) hS.2.2 dX7_isBroken_135
  · have h := iN (by rw [hs2]; decide) h
    have h := iN (by rw [hs2]; decide) h
    have h := iN (by rw [hs2]; decide) h
    have h := iN (by rw [hs2]; decide) h
    have h := ip hs2 h
    refine W_top hs2 ?_
    refine lv_tableIn (off := 115) (tgt := 136) hx hb dX7_isBroken_21 (by decide) (by decide) (by decide) (by decide) ?_
    refine lv_aload_n hx hb dX7_isBroken_136 rfl (lv_at hl 2 rfl) ?_
    refine lv_iload_n hx hb dX7_isBroken_137 rfl (lv_at hl 1 rfl) ?_
    refine lv_iconst (v := 0) hx hb dX7_isBroken_138 (by decide) ?_
    obtain ⟨r18, hc19, h⟩ := Option.bind_eq_some_iff.mp h
    refine ecV (As := [.int ((8 * a1) + a2), .int 0]) (rest := []) ⟨hx, hb, hml, hown, hts⟩ (e_X7_isNear l D K ad hap0 ((8 * a1) + a2) 0 I G A L r18 hc19) (cwV 2 hts gX7_isBroken_X7_isNear rfl rfl rfl (by decide +kernel) ⟨Nat.le_of_ble_eq_true rfl, Nat.le_of_ble_eq_true rfl⟩) hK hP hS (by decide) (show kd 318 = 7 by decide) (by decide) rfl rfl rfl hl.1 (Nat.le_of_ble_eq_true rfl) (Nat.le_of_ble_eq_true rfl) (Nat.le_of_ble_eq_true rfl) dX7_isBroken_139 (fun H locs hP hS => ?_) rfl
    have hP : va_P D vwCl (VW K ad I G A L) H := hP
    obtain ⟨hz20, h⟩ := gk h
    exact W.zret (v := r18) hx hb hr (nar01 hz20) (fun t9 ht9 hW9 => ⟨⟨r18, (I, G, A, L), rfl, by cases h; exact ⟨rfl, rfl⟩, by rw [ht9]; exact hP, va_K.moved hW9.alike hK⟩, hS.F ht9⟩) hS.2.2 dX7_isBroken_142
  · have h := iN (by rw [hs2]; decide) h
    have h := iN (by rw [hs2]; decide) h
    have h := iN (by rw [hs2]; decide) h
    have h := iN (by rw [hs2]; decide) h
    have h := iN (by rw [hs2]; decide) h
    have h := ip hs2 h
    refine W_top hs2 ?_
    refine lv_tableIn (off := 122) (tgt := 143) hx hb dX7_isBroken_21 (by decide) (by decide) (by decide) (by decide) ?_
    refine lv_aload_n hx hb dX7_isBroken_143 rfl (lv_at hl 2 rfl) ?_
    refine lv_iload_n hx hb dX7_isBroken_144 rfl (lv_at hl 1 rfl) ?_
    refine lv_iconst (v := 1) hx hb dX7_isBroken_145 (by decide) ?_
    obtain ⟨r21, hc22, h⟩ := Option.bind_eq_some_iff.mp h
    refine ecV (As := [.int ((8 * a1) + a2), .int 1]) (rest := []) ⟨hx, hb, hml, hown, hts⟩ (e_X7_isNear l D K ad hap0 ((8 * a1) + a2) 1 I G A L r21 hc22) (cwV 2 hts gX7_isBroken_X7_isNear rfl rfl rfl (by decide +kernel) ⟨Nat.le_of_ble_eq_true rfl, Nat.le_of_ble_eq_true rfl⟩) hK hP hS (by decide) (show kd 318 = 7 by decide) (by decide) rfl rfl rfl hl.1 (Nat.le_of_ble_eq_true rfl) (Nat.le_of_ble_eq_true rfl) (Nat.le_of_ble_eq_true rfl) dX7_isBroken_146 (fun H locs hP hS => ?_) rfl
    have hP : va_P D vwCl (VW K ad I G A L) H := hP
    obtain ⟨hz23, h⟩ := gk h
    exact W.zret (v := r21) hx hb hr (nar01 hz23) (fun t9 ht9 hW9 => ⟨⟨r21, (I, G, A, L), rfl, by cases h; exact ⟨rfl, rfl⟩, by rw [ht9]; exact hP, va_K.moved hW9.alike hK⟩, hS.F ht9⟩) hS.2.2 dX7_isBroken_149
  · have h := iN (by rw [hs2]; decide) h
    have h := iN (by rw [hs2]; decide) h
    have h := iN (by rw [hs2]; decide) h
    have h := iN (by rw [hs2]; decide) h
    have h := iN (by rw [hs2]; decide) h
    have h := iN (by rw [hs2]; decide) h
    have h := ip hs2 h
    refine W_top hs2 ?_
    refine lv_tableIn (off := 129) (tgt := 150) hx hb dX7_isBroken_21 (by decide) (by decide) (by decide) (by decide) ?_
    refine lv_aload_n hx hb dX7_isBroken_150 rfl (lv_at hl 2 rfl) ?_
    refine lv_iload_n hx hb dX7_isBroken_151 rfl (lv_at hl 1 rfl) ?_
    obtain ⟨r24, hc25, h⟩ := Option.bind_eq_some_iff.mp h
    refine ecV (As := [.int ((8 * a1) + a2)]) (rest := []) ⟨hx, hb, hml, hown, hts⟩ (e_X7_isFalling l D K ad hap0 ((8 * a1) + a2) I G A L r24 hc25) (cwV 1 hts gX7_isBroken_X7_isFalling rfl rfl rfl (by decide +kernel) ⟨Nat.le_of_ble_eq_true rfl, Nat.le_of_ble_eq_true rfl⟩) hK hP hS (by decide) (show kd 318 = 7 by decide) (by decide) rfl rfl rfl hl.1 (Nat.le_of_ble_eq_true rfl) (Nat.le_of_ble_eq_true rfl) (Nat.le_of_ble_eq_true rfl) dX7_isBroken_152 (fun H locs hP hS => ?_) rfl
    have hP : va_P D vwCl (VW K ad I G A L) H := hP
    obtain ⟨hz26, h⟩ := gk h
    exact W.zret (v := r24) hx hb hr (nar01 hz26) (fun t9 ht9 hW9 => ⟨⟨r24, (I, G, A, L), rfl, by cases h; exact ⟨rfl, rfl⟩, by rw [ht9]; exact hP, va_K.moved hW9.alike hK⟩, hS.F ht9⟩) hS.2.2 dX7_isBroken_155
  · have h := iN (fun q => by rw [q] at hs2; exact absurd hs2 (by decide)) h
    have h := iN (fun q => by rw [q] at hs2; exact absurd hs2 (by decide)) h
    have h := iN (fun q => by rw [q] at hs2; exact absurd hs2 (by decide)) h
    have h := iN (fun q => by rw [q] at hs2; exact absurd hs2 (by decide)) h
    have h := iN (fun q => by rw [q] at hs2; exact absurd hs2 (by decide)) h
    have h := iN (fun q => by rw [q] at hs2; exact absurd hs2 (by decide)) h
    have h := iN (fun q => by rw [q] at hs2; exact absurd hs2 (by decide)) h
    refine lv_tableOut (tgt := 156) hx hb dX7_isBroken_21 hs2 (by decide) ?_
    refine lv_iconst (v := 0) hx hb dX7_isBroken_156 (by decide) ?_
    refine lv_istore (lv' := [(5, .int 0), (4, .int (A 325 (((8 * a1) + a2).toNatClampNeg))), (3, .int ((8 * a1) + a2)), (0, .ref (ad 318)), (1, .int a1), (2, .int a2)]) hx hb dX7_isBroken_157 hl (by decide) rfl (fun ls hl => ?_)
    refine lv_iconst (v := 0) hx hb dX7_isBroken_159 (by decide) ?_
    refine lv_istore (lv' := [(6, .int 0), (5, .int 0), (4, .int (A 325 (((8 * a1) + a2).toNatClampNeg))), (3, .int ((8 * a1) + a2)), (0, .ref (ad 318)), (1, .int a1), (2, .int a2)]) hx hb dX7_isBroken_160 hl (by decide) rfl (fun ls hl => ?_)
    obtain ⟨k32, ek32, h⟩ := bd_e h
    have kk32 : ∀ (v33 : Int32) (v34 : Int32), k32 v33 v34 = some r0 → ∀ (H : Heap) (locs : List Loc), va_P D vwCl (VW K ad I G A L) H → va_S (vF ad s.heap.size) s.heap H locs → ∀ (ls : Array Slot), lv_has ls 8 [(4, .int v33), (5, .int v34)] → W p l e ({ frames := 1, cells := 0, slots := 0, locals := 31 }) s m ([.ref (ad 318), .int a1, .int a2] : List Value).toArray below meth c H locs 0 0 (MQ below (va_Qi (fun (r : Int32) (u : Mem) => r = r0 ∧ u = (I, G, A, L)) (vB D K ad) (vF ad s.heap.size)) ([.ref (ad 318), .int a1, .int a2] : List Value).toArray s 0 0 (vF ad s.heap.size)) (F0 m 232 ls []) := by
      intro v33 v34 h H locs hP hS ls hl
      subst ek32
      refine lv_iload hx hb dX7_isBroken_232 (lv_at hl 1 rfl) ?_
      refine lv_iload hx hb dX7_isBroken_234 (lv_at hl 0 rfl) ?_
      refine lv_icmp_ge (tgt := 243) hx hb dX7_isBroken_236 (by decide) (fun c_35 => ?_) (fun c_35 => ?_)
      · have h := iN (Int32.not_lt.mpr c_35) h
        refine lv_iconst (v := 0) hx hb dX7_isBroken_243 (by decide) ?_
        exact W.zret (v := 0) hx hb hr (by decide) (fun t9 ht9 hW9 => ⟨⟨0, (I, G, A, L), rfl, by cases h; exact ⟨rfl, rfl⟩, by rw [ht9]; exact hP, va_K.moved hW9.alike hK⟩, hS.F ht9⟩) hS.2.2 dX7_isBroken_244
      · have h := ip (Int32.not_le.mp c_35) h
        refine lv_iconst (v := 1) hx hb dX7_isBroken_239 (by decide) ?_
        refine lv_goto (tgt := 244) hx hb dX7_isBroken_240 (by decide) ?_
        exact W.zret (v := 1) hx hb hr (by decide) (fun t9 ht9 hW9 => ⟨⟨1, (I, G, A, L), rfl, by cases h; exact ⟨rfl, rfl⟩, by rw [ht9]; exact hP, va_K.moved hW9.alike hK⟩, hS.F ht9⟩) hS.2.2 dX7_isBroken_244
    have lp27 : ∀ (n : Nat) (v28 : Int32) (v29 : Int32) (v30 : Int32) (v31 : Int32), f_X7_isBroken_L162 A k32 n v28 v29 v30 v31 = some r0 → ∀ (H : Heap) (locs : List Loc), va_P D vwCl (VW K ad I G A L) H → va_S (vF ad s.heap.size) s.heap H locs → ∀ (ls : Array Slot), lv_has ls 8 [(6, .int v28), (5, .int v29), (4, .int v30), (3, .int v31), (0, .ref (ad 318))] → W p l e ({ frames := 1, cells := 0, slots := 0, locals := 31 }) s m ([.ref (ad 318), .int a1, .int a2] : List Value).toArray below meth c H locs 0 0 (MQ below (va_Qi (fun (r : Int32) (u : Mem) => r = r0 ∧ u = (I, G, A, L)) (vB D K ad) (vF ad s.heap.size)) ([.ref (ad 318), .int a1, .int a2] : List Value).toArray s 0 0 (vF ad s.heap.size)) (F0 m 162 ls []) := by
      intro n
      induction n with
      | zero => intro v28 v29 v30 v31 h; exact absurd h (by rw [f_X7_isBroken_L162]; exact nofun)
      | succ n ih27 =>
        intro v28 v29 v30 v31 h H locs hP hS ls hl
        rw [f_X7_isBroken_L162] at h
        refine lv_iload hx hb dX7_isBroken_162 (lv_at hl 0 rfl) ?_
        refine lv_aload_n hx hb dX7_isBroken_164 rfl (lv_at hl 4 rfl) ?_
        refine vgC hx hb hts hi7 hown hK hP (318) (by decide) (show kd 318 = 7 by decide) (C := RX7) (T := TX7) (N := 79) rfl 10 (by decide) (by decide) (by decide) (by decide) (326) rfl (hts (.fieldLink RX7 31 "CrateHelpersModel" "parts" "[I") (by decide +kernel)) (fun _ h9 => h9) dX7_isBroken_165 ?_
        refine lv_iload_n hx hb dX7_isBroken_168 rfl (lv_at hl 3 rfl) ?_
        obtain ⟨hn36, h⟩ := gk h
        refine xiald hx hb hK hP (326) (by decide) (show kd 326 = 8 by decide) (by rw [show ln 326 = 40 by decide]; exact hn36) dX7_isBroken_169 ?_
        refine lv_icmp_ge (tgt := 232) hx hb dX7_isBroken_170 (by decide) (fun c_37 => ?_) (fun c_37 => ?_)
        · have h := iN (Int32.not_lt.mpr c_37) h
          exact kk32 v30 v29 h _ _ hP hS ls (lv_sub hl [2, 1] rfl)
        · have h := ip (Int32.not_le.mp c_37) h
          refine lv_aload_n hx hb dX7_isBroken_173 rfl (lv_at hl 4 rfl) ?_
          refine vgC hx hb hts hi7 hown hK hP (318) (by decide) (show kd 318 = 7 by decide) (C := RX7) (T := TX7) (N := 79) rfl 63 (by decide) (by decide) (by decide) (by decide) (364) rfl (hts (.fieldLink RX7 159 "CrateHelpersModel" "now" "[I") (by decide +kernel)) (fun _ h9 => h9) dX7_isBroken_174 ?_
          refine lv_aload_n hx hb dX7_isBroken_177 rfl (lv_at hl 4 rfl) ?_
          refine vgC hx hb hts hi7 hown hK hP (318) (by decide) (show kd 318 = 7 by decide) (C := RX7) (T := TX7) (N := 79) rfl 11 (by decide) (by decide) (by decide) (by decide) (327) rfl (hts (.fieldLink RX7 34 "CrateHelpersModel" "partOf" "[I") (by decide +kernel)) (fun _ h9 => h9) dX7_isBroken_178 ?_
          refine lv_bipush (v := 6) hx hb dX7_isBroken_181 (by decide) ?_
          refine lv_iload_n hx hb dX7_isBroken_183 rfl (lv_at hl 3 rfl) ?_
          refine lv_imul hx hb dX7_isBroken_184 ?_
          refine lv_iload hx hb dX7_isBroken_185 (lv_at hl 0 rfl) ?_
          refine lv_iadd hx hb dX7_isBroken_187 ?_
          obtain ⟨hn38, h⟩ := gk h
          refine xiald hx hb hK hP (327) (by decide) (show kd 327 = 8 by decide) (by rw [show ln 327 = 240 by decide]; exact hn38) dX7_isBroken_188 ?_
          obtain ⟨hn39, h⟩ := gk h
          refine xiald hx hb hK hP (364) (by decide) (show kd 364 = 8 by decide) (by rw [show ln 364 = 6 by decide]; exact hn39) dX7_isBroken_189 ?_
          refine lv_istore (lv' := [(7, .int (A 364 ((A 327 (((6 * v31) + v28).toNatClampNeg)).toNatClampNeg))), (6, .int v28), (5, .int v29), (4, .int v30), (3, .int v31), (0, .ref (ad 318))]) hx hb dX7_isBroken_190 hl (by decide) rfl (fun ls hl => ?_)
          refine lv_iload hx hb dX7_isBroken_192 (lv_at hl 2 rfl) ?_
          refine lv_iload hx hb dX7_isBroken_194 (lv_at hl 0 rfl) ?_
          refine lv_bipush (v := (-9)) hx hb dX7_isBroken_196 (by decide) ?_
          refine lv_icmp_eq (tgt := 218) hx hb dX7_isBroken_198 (by decide) (fun c_40 => ?_) (fun c_40 => ?_)
          · have h := ip c_40 h
            refine lv_iconst (v := 1) hx hb dX7_isBroken_218 (by decide) ?_
            refine lv_goto (tgt := 223) hx hb dX7_isBroken_219 (by decide) ?_
            refine lv_iadd hx hb dX7_isBroken_223 ?_
            refine lv_istore (lv' := [(5, .int (v29 + 1)), (7, .int (A 364 ((A 327 (((6 * v31) + v28).toNatClampNeg)).toNatClampNeg))), (6, .int v28), (4, .int v30), (3, .int v31), (0, .ref (ad 318))]) hx hb dX7_isBroken_224 hl (by decide) rfl (fun ls hl => ?_)
            refine lv_iinc (v := (v28 + 1)) (lv' := [(6, .int (v28 + 1)), (5, .int (v29 + 1)), (7, .int (A 364 ((A 327 (((6 * v31) + v28).toNatClampNeg)).toNatClampNeg))), (4, .int v30), (3, .int v31), (0, .ref (ad 318))]) hx hb dX7_isBroken_226 hl (k := 2) rfl rfl (by decide) rfl (fun ls hl => ?_)
            refine lv_goto (tgt := 162) hx hb dX7_isBroken_229 (by decide) ?_
            exact ih27 (v28 + 1) (v29 + 1) v30 v31 h _ _ hP hS ls (lv_sub hl [0, 1, 3, 4, 5] rfl)
          · have h := iN c_40 h
            refine lv_iload hx hb dX7_isBroken_201 (lv_at hl 0 rfl) ?_
            refine lv_aload_n hx hb dX7_isBroken_203 rfl (lv_at hl 5 rfl) ?_
            refine vgC hx hb hts hi7 hown hK hP (318) (by decide) (show kd 318 = 7 by decide) (C := RX7) (T := TX7) (N := 79) rfl 12 (by decide) (by decide) (by decide) (by decide) (328) rfl (hts (.fieldLink RX7 37 "CrateHelpersModel" "weight" "[I") (by decide +kernel)) (fun _ h9 => h9) dX7_isBroken_204 ?_
            refine lv_bipush (v := 6) hx hb dX7_isBroken_207 (by decide) ?_
            refine lv_iload_n hx hb dX7_isBroken_209 rfl (lv_at hl 4 rfl) ?_
            refine lv_imul hx hb dX7_isBroken_210 ?_
            refine lv_iload hx hb dX7_isBroken_211 (lv_at hl 1 rfl) ?_
            refine lv_iadd hx hb dX7_isBroken_213 ?_
            refine xiald hx hb hK hP (328) (by decide) (show kd 328 = 8 by decide) (by rw [show ln 328 = 240 by decide]; exact hn38) dX7_isBroken_214 ?_
            refine lv_icmp_ne (tgt := 222) hx hb dX7_isBroken_215 (by decide) (fun c_41 => ?_) (fun c_41 => ?_)
            · have h := iN c_41 h
              refine lv_iconst (v := 0) hx hb dX7_isBroken_222 (by decide) ?_
              refine lv_iadd hx hb dX7_isBroken_223 ?_
              refine lv_istore (lv' := [(5, .int (v29 + 0)), (7, .int (A 364 ((A 327 (((6 * v31) + v28).toNatClampNeg)).toNatClampNeg))), (6, .int v28), (4, .int v30), (3, .int v31), (0, .ref (ad 318))]) hx hb dX7_isBroken_224 hl (by decide) rfl (fun ls hl => ?_)
              refine lv_iinc (v := (v28 + 1)) (lv' := [(6, .int (v28 + 1)), (5, .int (v29 + 0)), (7, .int (A 364 ((A 327 (((6 * v31) + v28).toNatClampNeg)).toNatClampNeg))), (4, .int v30), (3, .int v31), (0, .ref (ad 318))]) hx hb dX7_isBroken_226 hl (k := 2) rfl rfl (by decide) rfl (fun ls hl => ?_)
              refine lv_goto (tgt := 162) hx hb dX7_isBroken_229 (by decide) ?_
              exact ih27 (v28 + 1) (v29 + 0) v30 v31 h _ _ hP hS ls (lv_sub hl [0, 1, 3, 4, 5] rfl)
            · have h := ip c_41 h
              refine lv_iconst (v := 1) hx hb dX7_isBroken_218 (by decide) ?_
              refine lv_goto (tgt := 223) hx hb dX7_isBroken_219 (by decide) ?_
              refine lv_iadd hx hb dX7_isBroken_223 ?_
              refine lv_istore (lv' := [(5, .int (v29 + 1)), (7, .int (A 364 ((A 327 (((6 * v31) + v28).toNatClampNeg)).toNatClampNeg))), (6, .int v28), (4, .int v30), (3, .int v31), (0, .ref (ad 318))]) hx hb dX7_isBroken_224 hl (by decide) rfl (fun ls hl => ?_)
              refine lv_iinc (v := (v28 + 1)) (lv' := [(6, .int (v28 + 1)), (5, .int (v29 + 1)), (7, .int (A 364 ((A 327 (((6 * v31) + v28).toNatClampNeg)).toNatClampNeg))), (4, .int v30), (3, .int v31), (0, .ref (ad 318))]) hx hb dX7_isBroken_226 hl (k := 2) rfl rfl (by decide) rfl (fun ls hl => ?_)
              refine lv_goto (tgt := 162) hx hb dX7_isBroken_229 (by decide) ?_
              exact ih27 (v28 + 1) (v29 + 1) v30 v31 h _ _ hP hS ls (lv_sub hl [0, 1, 3, 4, 5] rfl)
    exact lp27 FU 0 0 (A 325 (((8 * a1) + a2).toNatClampNeg)) ((8 * a1) + a2) h _ _ hP hS ls (lv_sub hl [0, 1, 2, 3, 4] rfl)
set_option maxHeartbeats 4000000 in
set_option maxRecDepth 100000 in
theorem e_X7_brokenBy (l : Launch) (D : va_G) (K : Nat → ClassId) (ad : Nat → Nat) (hap0 : apart ad (fun _ => True)) (a1 : Int32) (I : Nat → Nat → Int32) (G : Nat → Nat → Nat) (A : Nat → Nat → Int32) (L : Nat → Nat → Int64) (r0 : Int32) (h : f_X7_brokenBy A a1 = some r0) : Ci l D K ad yX7_brokenBy wsX7_brokenBy 2 61 [.ref (ad 318), .int a1] (I, G, A, L) (fun (r : Int32) (u : Mem) => r = r0 ∧ u = (I, G, A, L)) := by
  intro sz
  refine Met.ofW (cc := cX7_brokenBy) (maxL := 3) (ret := (some .int)) (by decide) rfl ?_
  intro p e s m args below meth c s₁ Bd hml hv0
  obtain ⟨rfl, hsz, hP, hK⟩ := hv0
  have hx := Bd.exec
  have hb := Bd.bytes
  have hr := Bd.returns
  have hts := atoms_spec (ws := wsX7_brokenBy) Bd.pre
  have hown : s.vm.findClass RX7 = some m.cls := findClass_of_methodNamed Bd.named
  have hlocks := Bd.notSynchronized
  have hi7 : ∀ w ∈ u_ws RX7 TX7 79, w ∈ wsX7_brokenBy := fun w h => List.mem_cons_of_mem _ (List.mem_append_right _ h)
  subst hsz
  have hap := vF_ap hap0 s.heap.size
  have hS : va_S (vF ad s.heap.size) s.heap s.heap [] := va_S.rf
  have hP : va_P D vwCl (VW K ad I G A L) s.heap := hP
  have hl := lv_entry ([.ref (ad 318), .int a1]) (n := 3) (Nat.le_of_ble_eq_true rfl)
  rw [lg_entry_eq]
  generalize (lg_sl ([.ref (ad 318), .int a1]) ++ List.replicate (3 - (lg_sl ([.ref (ad 318), .int a1])).length) Slot.unset).toArray = ls at hl ⊢
  have hl : lv_has ls 3 [(0, .ref (ad 318)), (1, .int a1)] := hl
  rw [f_X7_brokenBy] at h
  refine lv_iconst (v := 0) hx hb dX7_brokenBy_0 (by decide) ?_
  refine lv_istore_n (lv' := [(2, .int 0), (0, .ref (ad 318)), (1, .int a1)]) hx hb dX7_brokenBy_1 rfl hl (by decide) rfl (fun ls hl => ?_)
  obtain ⟨k3, ek3, h⟩ := bd_e h
  have kk3 : ∀ (v4 : Int32), k3 v4 = some r0 → ∀ (H : Heap) (locs : List Loc), va_P D vwCl (VW K ad I G A L) H → va_S (vF ad s.heap.size) s.heap H locs → ∀ (ls : Array Slot), lv_has ls 3 [(2, .int v4)] → W p l e ({ frames := 2, cells := 0, slots := 0, locals := 61 }) s m ([.ref (ad 318), .int a1] : List Value).toArray below meth c H locs 0 0 (MQ below (va_Qi (fun (r : Int32) (u : Mem) => r = r0 ∧ u = (I, G, A, L)) (vB D K ad) (vF ad s.heap.size)) ([.ref (ad 318), .int a1] : List Value).toArray s 0 0 (vF ad s.heap.size)) (F0 m 21 ls []) := by
    intro v4 h H locs hP hS ls hl
    subst ek3
    refine lv_iload_n hx hb dX7_brokenBy_21 rfl (lv_at hl 0 rfl) ?_
    exact W.iret (v := v4) hx hb hr (fun t9 ht9 hW9 => ⟨⟨v4, (I, G, A, L), rfl, by cases h; exact ⟨rfl, rfl⟩, by rw [ht9]; exact hP, va_K.moved hW9.alike hK⟩, hS.F ht9⟩) hS.2.2 dX7_brokenBy_22
  obtain ⟨k5, ek5, h⟩ := bd_e h
  have kk5 : ∀ (_ : Unit), k5 () = some r0 → ∀ (H : Heap) (locs : List Loc), va_P D vwCl (VW K ad I G A L) H → va_S (vF ad s.heap.size) s.heap H locs → ∀ (ls : Array Slot), lv_has ls 3 [] → W p l e ({ frames := 2, cells := 0, slots := 0, locals := 61 }) s m ([.ref (ad 318), .int a1] : List Value).toArray below meth c H locs 0 0 (MQ below (va_Qi (fun (r : Int32) (u : Mem) => r = r0 ∧ u = (I, G, A, L)) (vB D K ad) (vF ad s.heap.size)) ([.ref (ad 318), .int a1] : List Value).toArray s 0 0 (vF ad s.heap.size)) (F0 m 29 ls []) := by
    intro _ h H locs hP hS ls hl
    subst ek5
    refine lv_bipush (v := (-9)) hx hb dX7_brokenBy_29 (by decide) ?_
    exact W.iret (v := (-9)) hx hb hr (fun t9 ht9 hW9 => ⟨⟨(-9), (I, G, A, L), rfl, by cases h; exact ⟨rfl, rfl⟩, by rw [ht9]; exact hP, va_K.moved hW9.alike hK⟩, hS.F ht9⟩) hS.2.2 dX7_brokenBy_31
  have lp1 : ∀ (n : Nat) (v2 : Int32), f_X7_brokenBy_L2 a1 A k3 k5 n v2 = some r0 → ∀ (H : Heap) (locs : List Loc), va_P D vwCl (VW K ad I G A L) H → va_S (vF ad s.heap.size) s.heap H locs → ∀ (ls : Array Slot), lv_has ls 3 [(2, .int v2), (0, .ref (ad 318)), (1, .int a1)] → W p l e ({ frames := 2, cells := 0, slots := 0, locals := 61 }) s m ([.ref (ad 318), .int a1] : List Value).toArray below meth c H locs 0 0 (MQ below (va_Qi (fun (r : Int32) (u : Mem) => r = r0 ∧ u = (I, G, A, L)) (vB D K ad) (vF ad s.heap.size)) ([.ref (ad 318), .int a1] : List Value).toArray s 0 0 (vF ad s.heap.size)) (F0 m 2 ls []) := by
    intro n
    induction n with
    | zero => intro v2 h; exact absurd h (by rw [f_X7_brokenBy_L2]; exact nofun)
    | succ n ih1 =>
      intro v2 h H locs hP hS ls hl
      rw [f_X7_brokenBy_L2] at h
      refine lv_iload_n hx hb dX7_brokenBy_2 rfl (lv_at hl 0 rfl) ?_
      refine lv_aload_n hx hb dX7_brokenBy_3 rfl (lv_at hl 1 rfl) ?_
      refine vgC hx hb hts hi7 hown hK hP (318) (by decide) (show kd 318 = 7 by decide) (C := RX7) (T := TX7) (N := 79) rfl 4 (by decide) (by decide) (by decide) (by decide) (320) rfl (hts (.fieldLink RX7 13 "CrateHelpersModel" "rules" "[I") (by decide +kernel)) (fun _ h9 => h9) dX7_brokenBy_4 ?_
      refine lv_iload_n hx hb dX7_brokenBy_7 rfl (lv_at hl 2 rfl) ?_
      obtain ⟨hn6, h⟩ := gk h
      refine xiald hx hb hK hP (320) (by decide) (show kd 320 = 8 by decide) (by rw [show ln 320 = 5 by decide]; exact hn6) dX7_brokenBy_8 ?_
      refine lv_icmp_ge (tgt := 29) hx hb dX7_brokenBy_9 (by decide) (fun c_7 => ?_) (fun c_7 => ?_)
      · have h := iN (Int32.not_lt.mpr c_7) h
        exact kk5 () h _ _ hP hS ls (lv_sub hl [] rfl)
      · have h := ip (Int32.not_le.mp c_7) h
        refine lv_aload_n hx hb dX7_brokenBy_12 rfl (lv_at hl 1 rfl) ?_
        refine lv_iload_n hx hb dX7_brokenBy_13 rfl (lv_at hl 2 rfl) ?_
        refine lv_iload_n hx hb dX7_brokenBy_14 rfl (lv_at hl 0 rfl) ?_
        obtain ⟨r8, hc9, h⟩ := Option.bind_eq_some_iff.mp h
        refine ecV (As := [.int a1, .int v2]) (rest := []) ⟨hx, hb, hml, hown, hts⟩ (e_X7_isBroken l D K ad hap0 a1 v2 I G A L r8 hc9) (cwV 2 hts gX7_brokenBy_X7_isBroken rfl rfl rfl (by decide +kernel) ⟨Nat.le_of_ble_eq_true rfl, Nat.le_of_ble_eq_true rfl⟩) hK hP hS (by decide) (show kd 318 = 7 by decide) (by decide) rfl rfl rfl hl.1 (Nat.le_of_ble_eq_true rfl) (Nat.le_of_ble_eq_true rfl) (Nat.le_of_ble_eq_true rfl) dX7_brokenBy_15 (fun H locs hP hS => ?_) rfl
        have hP : va_P D vwCl (VW K ad I G A L) H := hP
        refine lv_if_eq (tgt := 23) hx hb dX7_brokenBy_18 (by decide) (fun c_10 => ?_) (fun c_10 => ?_)
        · have h := ip c_10 h
          refine lv_iinc (v := (v2 + 1)) (lv' := [(2, .int (v2 + 1)), (0, .ref (ad 318)), (1, .int a1)]) hx hb dX7_brokenBy_23 hl (k := 0) rfl rfl (by decide) rfl (fun ls hl => ?_)
          refine lv_goto (tgt := 2) hx hb dX7_brokenBy_26 (by decide) ?_
          exact ih1 (v2 + 1) h _ _ hP hS ls (lv_sub hl [0, 1, 2] rfl)
        · have h := iN c_10 h
          exact kk3 v2 h _ _ hP hS ls (lv_sub hl [0] rfl)
  exact lp1 FU 0 h _ _ hP hS ls (lv_sub hl [0, 1, 2] rfl)
