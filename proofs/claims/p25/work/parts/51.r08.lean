set_option maxHeartbeats 4000000 in
set_option maxRecDepth 100000 in
theorem e_X7_walks (l : Launch) (D : va_G) (K : Nat → ClassId) (ad : Nat → Nat) (hap0 : apart ad (fun _ => True)) (a1 : Int32) (I : Nat → Nat → Int32) (G : Nat → Nat → Nat) (A : Nat → Nat → Int32) (L : Nat → Nat → Int64) (r0 : Int32) (I0 : Nat → Nat → Int32) (A0 : Nat → Nat → Int32) (h : f_X7_walks I A a1 = some (r0, I0, A0)) : Ci l D K ad yX7_walks wsX7_walks 2 51 [.ref (ad 318), .int a1] (I, G, A, L) (fun (r : Int32) (u : Mem) => r = r0 ∧ u = (I0, G, A0, L)) := by
  intro sz
  refine Met.ofW (cc := cX7_walks) (maxL := 3) (ret := (some .int)) (by decide) rfl ?_
  intro p e s m args below meth c s₁ Bd hml hv0
  obtain ⟨rfl, hsz, hP, hK⟩ := hv0
  have hx := Bd.exec
  have hb := Bd.bytes
  have hr := Bd.returns
  have hts := atoms_spec (ws := wsX7_walks) Bd.pre
  have hown : s.vm.findClass RX7 = some m.cls := findClass_of_methodNamed Bd.named
  have hlocks := Bd.notSynchronized
  have hi7 : ∀ w ∈ u_ws RX7 TX7 79, w ∈ wsX7_walks := fun w h => List.mem_cons_of_mem _ (List.mem_append_right _ h)
  subst hsz
  have hap := vF_ap hap0 s.heap.size
  have hS : va_S (vF ad s.heap.size) s.heap s.heap [] := va_S.rf
  have hP : va_P D vwCl (VW K ad I G A L) s.heap := hP
  have hl := lv_entry ([.ref (ad 318), .int a1]) (n := 3) (Nat.le_of_ble_eq_true rfl)
  rw [lg_entry_eq]
  generalize (lg_sl ([.ref (ad 318), .int a1]) ++ List.replicate (3 - (lg_sl ([.ref (ad 318), .int a1])).length) Slot.unset).toArray = ls at hl ⊢
  have hl : lv_has ls 3 [(0, .ref (ad 318)), (1, .int a1)] := hl
  rw [f_X7_walks] at h
  refine lv_aload_n hx hb dX7_walks_0 rfl (lv_at hl 0 rfl) ?_
  obtain ⟨r1, hc2, h⟩ := Option.bind_eq_some_iff.mp h
  refine ecV (As := []) (rest := []) ⟨hx, hb, hml, hown, hts⟩ (e_X7_nextOf l D K ad hap0  I G A L r1 hc2) (cwV 0 hts gX7_walks_X7_nextOf rfl rfl rfl (by decide +kernel) ⟨Nat.le_of_ble_eq_true rfl, Nat.le_of_ble_eq_true rfl⟩) hK hP hS (by decide) (show kd 318 = 7 by decide) (by decide) rfl rfl rfl hl.1 (Nat.le_of_ble_eq_true rfl) (Nat.le_of_ble_eq_true rfl) (Nat.le_of_ble_eq_true rfl) dX7_walks_1 (fun H locs hP hS => ?_) rfl
  have hP : va_P D vwCl (VW K ad I G A L) H := hP
  refine lv_istore_n (lv' := [(2, .int r1), (0, .ref (ad 318)), (1, .int a1)]) hx hb dX7_walks_4 rfl hl (by decide) rfl (fun ls hl => ?_)
  obtain ⟨k7, ek7, h⟩ := bd_e h
  have kk7 : ∀ (I8 : Nat → Nat → Int32) (A9 : Nat → Nat → Int32), k7 I8 A9 = some (r0, I0, A0) → ∀ (H : Heap) (locs : List Loc), va_P D vwCl (VW K ad I8 G A9 L) H → va_S (vF ad s.heap.size) s.heap H locs → ∀ (ls : Array Slot), lv_has ls 3 [] → W p l e ({ frames := 2, cells := 0, slots := 0, locals := 51 }) s m ([.ref (ad 318), .int a1] : List Value).toArray below meth c H locs 0 0 (MQ below (va_Qi (fun (r : Int32) (u : Mem) => r = r0 ∧ u = (I0, G, A0, L)) (vB D K ad) (vF ad s.heap.size)) ([.ref (ad 318), .int a1] : List Value).toArray s 0 0 (vF ad s.heap.size)) (F0 m 40 ls []) := by
    intro I8 A9 h H locs hP hS ls hl
    subst ek7
    refine lv_iconst (v := 1) hx hb dX7_walks_40 (by decide) ?_
    exact W.iret (v := 1) hx hb hr (fun t9 ht9 hW9 => ⟨⟨1, (I8, G, A9, L), rfl, by cases h; exact ⟨rfl, rfl⟩, by rw [ht9]; exact hP, va_K.moved hW9.alike hK⟩, hS.F ht9⟩) hS.2.2 dX7_walks_41
  obtain ⟨k10, ek10, h⟩ := bd_e h
  have kk10 : ∀ (I11 : Nat → Nat → Int32) (A12 : Nat → Nat → Int32), k10 I11 A12 = some (r0, I0, A0) → ∀ (H : Heap) (locs : List Loc), va_P D vwCl (VW K ad I11 G A12 L) H → va_S (vF ad s.heap.size) s.heap H locs → ∀ (ls : Array Slot), lv_has ls 3 [] → W p l e ({ frames := 2, cells := 0, slots := 0, locals := 51 }) s m ([.ref (ad 318), .int a1] : List Value).toArray below meth c H locs 0 0 (MQ below (va_Qi (fun (r : Int32) (u : Mem) => r = r0 ∧ u = (I0, G, A0, L)) (vB D K ad) (vF ad s.heap.size)) ([.ref (ad 318), .int a1] : List Value).toArray s 0 0 (vF ad s.heap.size)) (F0 m 52 ls []) := by
    intro I11 A12 h H locs hP hS ls hl
    subst ek10
    refine lv_iconst (v := 4) hx hb dX7_walks_52 (by decide) ?_
    exact W.iret (v := 4) hx hb hr (fun t9 ht9 hW9 => ⟨⟨4, (I11, G, A12, L), rfl, by cases h; exact ⟨rfl, rfl⟩, by rw [ht9]; exact hP, va_K.moved hW9.alike hK⟩, hS.F ht9⟩) hS.2.2 dX7_walks_53
  obtain ⟨k13, ek13, h⟩ := bd_e h
  have kk13 : ∀ (I14 : Nat → Nat → Int32) (A15 : Nat → Nat → Int32), k13 I14 A15 = some (r0, I0, A0) → ∀ (H : Heap) (locs : List Loc), va_P D vwCl (VW K ad I14 G A15 L) H → va_S (vF ad s.heap.size) s.heap H locs → ∀ (ls : Array Slot), lv_has ls 3 [] → W p l e ({ frames := 2, cells := 0, slots := 0, locals := 51 }) s m ([.ref (ad 318), .int a1] : List Value).toArray below meth c H locs 0 0 (MQ below (va_Qi (fun (r : Int32) (u : Mem) => r = r0 ∧ u = (I0, G, A0, L)) (vB D K ad) (vF ad s.heap.size)) ([.ref (ad 318), .int a1] : List Value).toArray s 0 0 (vF ad s.heap.size)) (F0 m 65 ls []) := by
    intro I14 A15 h H locs hP hS ls hl
    subst ek13
    refine lv_iconst (v := 3) hx hb dX7_walks_65 (by decide) ?_
    exact W.iret (v := 3) hx hb hr (fun t9 ht9 hW9 => ⟨⟨3, (I14, G, A15, L), rfl, by cases h; exact ⟨rfl, rfl⟩, by rw [ht9]; exact hP, va_K.moved hW9.alike hK⟩, hS.F ht9⟩) hS.2.2 dX7_walks_66
  obtain ⟨k16, ek16, h⟩ := bd_e h
  have kk16 : ∀ (v17 : Int32) (I18 : Nat → Nat → Int32) (A19 : Nat → Nat → Int32), k16 v17 I18 A19 = some (r0, I0, A0) → ∀ (H : Heap) (locs : List Loc), va_P D vwCl (VW K ad I18 G A19 L) H → va_S (vF ad s.heap.size) s.heap H locs → ∀ (ls : Array Slot), lv_has ls 3 [(2, .int v17)] → W p l e ({ frames := 2, cells := 0, slots := 0, locals := 51 }) s m ([.ref (ad 318), .int a1] : List Value).toArray below meth c H locs 0 0 (MQ below (va_Qi (fun (r : Int32) (u : Mem) => r = r0 ∧ u = (I0, G, A0, L)) (vB D K ad) (vF ad s.heap.size)) ([.ref (ad 318), .int a1] : List Value).toArray s 0 0 (vF ad s.heap.size)) (F0 m 75 ls []) := by
    intro v17 I18 A19 h H locs hP hS ls hl
    subst ek16
    refine lv_iload_n hx hb dX7_walks_75 rfl (lv_at hl 0 rfl) ?_
    refine lv_bipush (v := (-9)) hx hb dX7_walks_76 (by decide) ?_
    refine lv_icmp_ne (tgt := 85) hx hb dX7_walks_78 (by decide) (fun c_20 => ?_) (fun c_20 => ?_)
    · have h := iN c_20 h
      refine lv_iconst (v := 0) hx hb dX7_walks_85 (by decide) ?_
      exact W.iret (v := 0) hx hb hr (fun t9 ht9 hW9 => ⟨⟨0, (I18, G, A19, L), rfl, by cases h; exact ⟨rfl, rfl⟩, by rw [ht9]; exact hP, va_K.moved hW9.alike hK⟩, hS.F ht9⟩) hS.2.2 dX7_walks_86
    · have h := ip c_20 h
      refine lv_iconst (v := 2) hx hb dX7_walks_81 (by decide) ?_
      refine lv_goto (tgt := 86) hx hb dX7_walks_82 (by decide) ?_
      exact W.iret (v := 2) hx hb hr (fun t9 ht9 hW9 => ⟨⟨2, (I18, G, A19, L), rfl, by cases h; exact ⟨rfl, rfl⟩, by rw [ht9]; exact hP, va_K.moved hW9.alike hK⟩, hS.F ht9⟩) hS.2.2 dX7_walks_86
  have lp3 : ∀ (n : Nat) (v4 : Int32) (I5 : Nat → Nat → Int32) (A6 : Nat → Nat → Int32), f_X7_walks_L5 a1 k7 k10 k13 k16 n v4 I5 A6 = some (r0, I0, A0) → ∀ (H : Heap) (locs : List Loc), va_P D vwCl (VW K ad I5 G A6 L) H → va_S (vF ad s.heap.size) s.heap H locs → ∀ (ls : Array Slot), lv_has ls 3 [(2, .int v4), (0, .ref (ad 318)), (1, .int a1)] → W p l e ({ frames := 2, cells := 0, slots := 0, locals := 51 }) s m ([.ref (ad 318), .int a1] : List Value).toArray below meth c H locs 0 0 (MQ below (va_Qi (fun (r : Int32) (u : Mem) => r = r0 ∧ u = (I0, G, A0, L)) (vB D K ad) (vF ad s.heap.size)) ([.ref (ad 318), .int a1] : List Value).toArray s 0 0 (vF ad s.heap.size)) (F0 m 5 ls []) := by
    intro n
    induction n with
    | zero => intro v4 I5 A6 h; exact absurd h (by rw [f_X7_walks_L5]; exact nofun)
    | succ n ih3 =>
      intro v4 I5 A6 h H locs hP hS ls hl
      rw [f_X7_walks_L5] at h
      refine lv_iload_n hx hb dX7_walks_5 rfl (lv_at hl 0 rfl) ?_
      refine lv_bipush (v := (-9)) hx hb dX7_walks_6 (by decide) ?_
      refine lv_icmp_eq (tgt := 75) hx hb dX7_walks_8 (by decide) (fun c_21 => ?_) (fun c_21 => ?_)
      · have h := ip c_21 h
        exact kk16 v4 I5 A6 h _ _ hP hS ls (lv_sub hl [0] rfl)
      · have h := iN c_21 h
        refine lv_aload_n hx hb dX7_walks_11 rfl (lv_at hl 1 rfl) ?_
        refine vgC hx hb hts hi7 hown hK hP (318) (by decide) (show kd 318 = 7 by decide) (C := RX7) (T := TX7) (N := 79) rfl 38 (by decide) (by decide) (by decide) (by decide) (344) rfl (hts (.fieldLink RX7 92 "CrateHelpersModel" "isDone" "[Z") (by decide +kernel)) (fun _ h9 => h9) dX7_walks_12 ?_
        refine lv_iload_n hx hb dX7_walks_15 rfl (lv_at hl 0 rfl) ?_
        obtain ⟨hn22, h⟩ := gk h
        refine xzald hx hb hK hP (344) (by decide) (show kd 344 = 11 by decide) (by rw [show ln 344 = 2000 by decide]; exact hn22) dX7_walks_16 ?_
        refine lv_if_eq (tgt := 75) hx hb dX7_walks_17 (by decide) (fun c_23 => ?_) (fun c_23 => ?_)
        · have h := ip c_23 h
          exact kk16 v4 I5 A6 h _ _ hP hS ls (lv_sub hl [0] rfl)
        · have h := iN c_23 h
          refine lv_aload_n hx hb dX7_walks_20 rfl (lv_at hl 1 rfl) ?_
          refine lv_iload_n hx hb dX7_walks_21 rfl (lv_at hl 0 rfl) ?_
          obtain ⟨⟨I24, A25⟩, hc26, h⟩ := Option.bind_eq_some_iff.mp h
          refine ecVv (As := [.int v4]) (rest := []) ⟨hx, hb, hml, hown, hts⟩ (e_X7_takes l D K ad hap0 v4 I5 G A6 L I24 A25 hc26) (cwV 1 hts gX7_walks_X7_takes rfl rfl rfl (by decide +kernel) ⟨Nat.le_of_ble_eq_true rfl, Nat.le_of_ble_eq_true rfl⟩) hK hP hS (by decide) (show kd 318 = 7 by decide) (by decide) rfl rfl rfl hl.1 (Nat.le_of_ble_eq_true rfl) (Nat.le_of_ble_eq_true rfl) (Nat.le_of_ble_eq_true rfl) dX7_walks_22 (fun H locs hP hS => ?_) rfl
          have hP : va_P D vwCl (VW K ad I24 G A25 L) H := hP
          refine lv_aload_n hx hb dX7_walks_25 rfl (lv_at hl 1 rfl) ?_
          refine vgC hx hb hts hi7 hown hK hP (318) (by decide) (show kd 318 = 7 by decide) (C := RX7) (T := TX7) (N := 79) rfl 32 (by decide) (by decide) (by decide) (by decide) (338) rfl (hts (.fieldLink RX7 74 "CrateHelpersModel" "depth" "[I") (by decide +kernel)) (fun _ h9 => h9) dX7_walks_26 ?_
          refine lv_iload_n hx hb dX7_walks_29 rfl (lv_at hl 0 rfl) ?_
          refine xiald hx hb hK hP (338) (by decide) (show kd 338 = 8 by decide) (by rw [show ln 338 = 2000 by decide]; exact hn22) dX7_walks_30 ?_
          refine lv_aload_n hx hb dX7_walks_31 rfl (lv_at hl 1 rfl) ?_
          refine vgC hx hb hts hi7 hown hK hP (318) (by decide) (show kd 318 = 7 by decide) (C := RX7) (T := TX7) (N := 79) rfl 3 (by decide) (by decide) (by decide) (by decide) (319) rfl (hts (.fieldLink RX7 7 "CrateHelpersModel" "variables" "[I") (by decide +kernel)) (fun _ h9 => h9) dX7_walks_32 ?_
          refine lv_iload_n hx hb dX7_walks_35 rfl (lv_at hl 2 rfl) ?_
          obtain ⟨hn27, h⟩ := gk h
          refine xiald hx hb hK hP (319) (by decide) (show kd 319 = 8 by decide) (by rw [show ln 319 = 5 by decide]; exact hn27) dX7_walks_36 ?_
          refine lv_icmp_ne (tgt := 42) hx hb dX7_walks_37 (by decide) (fun c_28 => ?_) (fun c_28 => ?_)
          · have h := iN c_28 h
            refine lv_aload_n hx hb dX7_walks_42 rfl (lv_at hl 1 rfl) ?_
            refine vgI hx hb hts hi7 hown hK hP (318) (by decide) (show kd 318 = 7 by decide) (C := RX7) (T := TX7) (N := 79) rfl 31 (by decide) (by decide) (by decide) (by decide) (hts (.fieldLink RX7 303 "CrateHelpersModel" "taken" "I") (by decide +kernel)) (fun _ h9 => h9) dX7_walks_43 ?_
            refine lv_sipush (v := 250) hx hb dX7_walks_46 (by decide) ?_
            refine lv_icmp_ne (tgt := 54) hx hb dX7_walks_49 (by decide) (fun c_29 => ?_) (fun c_29 => ?_)
            · have h := iN c_29 h
              refine lv_aload_n hx hb dX7_walks_54 rfl (lv_at hl 1 rfl) ?_
              refine vgI hx hb hts hi7 hown hK hP (318) (by decide) (show kd 318 = 7 by decide) (C := RX7) (T := TX7) (N := 79) rfl 31 (by decide) (by decide) (by decide) (by decide) (hts (.fieldLink RX7 303 "CrateHelpersModel" "taken" "I") (by decide +kernel)) (fun _ h9 => h9) dX7_walks_55 ?_
              refine lv_aload_n hx hb dX7_walks_58 rfl (lv_at hl 1 rfl) ?_
              refine vgI hx hb hts hi7 hown hK hP (318) (by decide) (show kd 318 = 7 by decide) (C := RX7) (T := TX7) (N := 79) rfl 24 (by decide) (by decide) (by decide) (by decide) (hts (.fieldLink RX7 319 "CrateHelpersModel" "limitNow" "I") (by decide +kernel)) (fun _ h9 => h9) dX7_walks_59 ?_
              refine lv_icmp_ne (tgt := 67) hx hb dX7_walks_62 (by decide) (fun c_30 => ?_) (fun c_30 => ?_)
              · have h := iN c_30 h
                refine lv_aload_n hx hb dX7_walks_67 rfl (lv_at hl 1 rfl) ?_
                obtain ⟨r31, hc32, h⟩ := Option.bind_eq_some_iff.mp h
                refine ecV (As := []) (rest := []) ⟨hx, hb, hml, hown, hts⟩ (e_X7_nextOf l D K ad hap0  I24 G A25 L r31 hc32) (cwV 0 hts gX7_walks_X7_nextOf rfl rfl rfl (by decide +kernel) ⟨Nat.le_of_ble_eq_true rfl, Nat.le_of_ble_eq_true rfl⟩) hK hP hS (by decide) (show kd 318 = 7 by decide) (by decide) rfl rfl rfl hl.1 (Nat.le_of_ble_eq_true rfl) (Nat.le_of_ble_eq_true rfl) (Nat.le_of_ble_eq_true rfl) dX7_walks_68 (fun H locs hP hS => ?_) rfl
                have hP : va_P D vwCl (VW K ad I24 G A25 L) H := hP
                refine lv_istore_n (lv' := [(2, .int r31), (0, .ref (ad 318)), (1, .int a1)]) hx hb dX7_walks_71 rfl hl (by decide) rfl (fun ls hl => ?_)
                refine lv_goto (tgt := 5) hx hb dX7_walks_72 (by decide) ?_
                exact ih3 r31 I24 A25 h _ _ hP hS ls (lv_sub hl [0, 1, 2] rfl)
              · have h := ip c_30 h
                exact kk13 I24 A25 h _ _ hP hS ls (lv_sub hl [] rfl)
            · have h := ip c_29 h
              exact kk10 I24 A25 h _ _ hP hS ls (lv_sub hl [] rfl)
          · have h := ip c_28 h
            exact kk7 I24 A25 h _ _ hP hS ls (lv_sub hl [] rfl)
  exact lp3 FU r1 I A h _ _ hP hS ls (lv_sub hl [0, 1, 2] rfl)
set_option maxHeartbeats 4000000 in
set_option maxRecDepth 100000 in
theorem e_X7_solve (l : Launch) (D : va_G) (K : Nat → ClassId) (ad : Nat → Nat) (hap0 : apart ad (fun _ => True)) (a1 : Int32) (a2 : Int32) (I : Nat → Nat → Int32) (G : Nat → Nat → Nat) (A : Nat → Nat → Int32) (L : Nat → Nat → Int64) (r0 : Int32) (I0 : Nat → Nat → Int32) (A0 : Nat → Nat → Int32) (h : f_X7_solve I A a1 a2 = some (r0, I0, A0)) : Ci l D K ad yX7_solve wsX7_solve 7 199 [.ref (ad 318), .int a1, .int a2] (I, G, A, L) (fun (r : Int32) (u : Mem) => r = r0 ∧ u = (I0, G, A0, L)) := by
  intro sz
  refine Met.ofW (cc := cX7_solve) (maxL := 6) (ret := (some .int)) (by decide) rfl ?_
  intro p e s m args below meth c s₁ Bd hml hv0
  obtain ⟨rfl, hsz, hP, hK⟩ := hv0
  have hx := Bd.exec
  have hb := Bd.bytes
  have hr := Bd.returns
  have hts := atoms_spec (ws := wsX7_solve) Bd.pre
  have hown : s.vm.findClass RX7 = some m.cls := findClass_of_methodNamed Bd.named
  have hlocks := Bd.notSynchronized
  have hi7 : ∀ w ∈ u_ws RX7 TX7 79, w ∈ wsX7_solve := fun w h => List.mem_cons_of_mem _ (List.mem_append_right _ h)
  subst hsz
  have hap := vF_ap hap0 s.heap.size
  have hS : va_S (vF ad s.heap.size) s.heap s.heap [] := va_S.rf
  have hP : va_P D vwCl (VW K ad I G A L) s.heap := hP
  have hl := lv_entry ([.ref (ad 318), .int a1, .int a2]) (n := 6) (Nat.le_of_ble_eq_true rfl)
  rw [lg_entry_eq]
  generalize (lg_sl ([.ref (ad 318), .int a1, .int a2]) ++ List.replicate (6 - (lg_sl ([.ref (ad 318), .int a1, .int a2])).length) Slot.unset).toArray = ls at hl ⊢
  have hl : lv_has ls 6 [(0, .ref (ad 318)), (1, .int a1), (2, .int a2)] := hl
  rw [f_X7_solve] at h
  refine lv_aload_n hx hb dX7_solve_0 rfl (lv_at hl 0 rfl) ?_
  refine lv_iconst (v := 0) hx hb dX7_solve_1 (by decide) ?_
  refine vpI (v := 0) (ty := .int) hx hb hts hi7 tyX7 tyX7_ok nmX7 hown hK hP hap hS (318) (by decide) (show kd 318 = 7 by decide) (C := RX7) (T := TX7) (N := 79) rfl 0 (by decide) (by decide) (by decide) (by decide) (hts (.fieldLink RX7 201 "CrateHelpersModel" "thrown" "I") (by decide +kernel)) (fun _ h9 => h9) rfl (by decide +kernel) rfl rfl dX7_solve_2 (fun H locs hP hS => ?_)
  obtain ⟨I1, eI1, h⟩ := bd_e h
  rw [← eI1] at hP
  have hP : va_P D vwCl (VW K ad I1 G A L) H := hP
  refine lv_aload_n hx hb dX7_solve_5 rfl (lv_at hl 0 rfl) ?_
  refine lv_iload_n hx hb dX7_solve_6 rfl (lv_at hl 1 rfl) ?_
  obtain ⟨r2, hc3, h⟩ := Option.bind_eq_some_iff.mp h
  refine ecV (As := [.int a1]) (rest := []) ⟨hx, hb, hml, hown, hts⟩ (e_X7_isProblem l D K ad hap0 a1 I1 G A L r2 hc3) (cwV 1 hts gX7_solve_X7_isProblem rfl rfl rfl (by decide +kernel) ⟨Nat.le_of_ble_eq_true rfl, Nat.le_of_ble_eq_true rfl⟩) hK hP hS (by decide) (show kd 318 = 7 by decide) (by decide) rfl rfl rfl hl.1 (Nat.le_of_ble_eq_true rfl) (Nat.le_of_ble_eq_true rfl) (Nat.le_of_ble_eq_true rfl) dX7_solve_7 (fun H locs hP hS => ?_) rfl
  have hP : va_P D vwCl (VW K ad I1 G A L) H := hP
  refine lv_if_eq (tgt := 24) hx hb dX7_solve_10 (by decide) (fun c_4 => ?_) (fun c_4 => ?_)
  · have h := ip c_4 h
    refine lv_iconst (v := (-1)) hx hb dX7_solve_24 (by decide) ?_
    exact W.iret (v := (-1)) hx hb hr (fun t9 ht9 hW9 => ⟨⟨(-1), (I1, G, A, L), rfl, by cases h; exact ⟨rfl, rfl⟩, by rw [ht9]; exact hP, va_K.moved hW9.alike hK⟩, hS.F ht9⟩) hS.2.2 dX7_solve_25
  · have h := iN c_4 h
    refine lv_iload_n hx hb dX7_solve_13 rfl (lv_at hl 2 rfl) ?_
    refine lv_iconst (v := 1) hx hb dX7_solve_14 (by decide) ?_
    refine lv_sipush (v := 500) hx hb dX7_solve_15 (by decide) ?_
    obtain ⟨r5, hc6, h⟩ := Option.bind_eq_some_iff.mp h
    refine ecS (As := [.int a2, .int 1, .int 500]) (rest := []) ⟨hx, hb, hml, hown, hts⟩ (e_X7_in l D K ad hap0 a2 1 500 I1 G A L r5 hc6) (va_cwS 3 hts gX7_solve_X7_in rfl rfl rfl (by decide +kernel) ⟨Nat.le_of_ble_eq_true rfl, Nat.le_of_ble_eq_true rfl⟩) hK hP hS rfl hl.1 (Nat.le_of_ble_eq_true rfl) (Nat.le_of_ble_eq_true rfl) (Nat.le_of_ble_eq_true rfl) dX7_solve_18 (fun H locs hP hS => ?_) rfl
    have hP : va_P D vwCl (VW K ad I1 G A L) H := hP
    refine lv_if_ne (tgt := 26) hx hb dX7_solve_21 (by decide) (fun c_7 => ?_) (fun c_7 => ?_)
    · have h := iN c_7 h
      refine lv_aload_n hx hb dX7_solve_26 rfl (lv_at hl 0 rfl) ?_
      refine vgI hx hb hts hi7 hown hK hP (318) (by decide) (show kd 318 = 7 by decide) (C := RX7) (T := TX7) (N := 79) rfl 23 (by decide) (by decide) (by decide) (by decide) (hts (.fieldLink RX7 62 "CrateHelpersModel" "under" "I") (by decide +kernel)) (fun _ h9 => h9) dX7_solve_27 ?_
      refine lv_bipush (v := (-9)) hx hb dX7_solve_30 (by decide) ?_
      obtain ⟨j9, ej9, h⟩ := bd_e h
      have kj9 : ∀ (_ : Unit), j9 () = some (r0, I0, A0) → ∀ (H : Heap) (locs : List Loc), va_P D vwCl (VW K ad I1 G A L) H → va_S (vF ad s.heap.size) s.heap H locs → ∀ (ls : Array Slot), lv_has ls 6 [(0, .ref (ad 318)), (1, .int a1), (2, .int a2)] → W p l e ({ frames := 7, cells := 0, slots := 0, locals := 199 }) s m ([.ref (ad 318), .int a1, .int a2] : List Value).toArray below meth c H locs 0 0 (MQ below (va_Qi (fun (r : Int32) (u : Mem) => r = r0 ∧ u = (I0, G, A0, L)) (vB D K ad) (vF ad s.heap.size)) ([.ref (ad 318), .int a1, .int a2] : List Value).toArray s 0 0 (vF ad s.heap.size)) (F0 m 46 ls []) := by
        intro _ h H locs hP hS ls hl
        subst ej9
        refine lv_aload_n hx hb dX7_solve_46 rfl (lv_at hl 0 rfl) ?_
        refine vgI hx hb hts hi7 hown hK hP (318) (by decide) (show kd 318 = 7 by decide) (C := RX7) (T := TX7) (N := 79) rfl 23 (by decide) (by decide) (by decide) (by decide) (hts (.fieldLink RX7 62 "CrateHelpersModel" "under" "I") (by decide +kernel)) (fun _ h9 => h9) dX7_solve_47 ?_
        refine lv_bipush (v := (-9)) hx hb dX7_solve_50 (by decide) ?_
        obtain ⟨j33, ej33, h⟩ := bd_e h
        have kj33 : ∀ (I31 : Nat → Nat → Int32) (A32 : Nat → Nat → Int32), j33 I31 A32 = some (r0, I0, A0) → ∀ (H : Heap) (locs : List Loc), va_P D vwCl (VW K ad I31 G A32 L) H → va_S (vF ad s.heap.size) s.heap H locs → ∀ (ls : Array Slot), lv_has ls 6 [(0, .ref (ad 318)), (1, .int a1), (2, .int a2)] → W p l e ({ frames := 7, cells := 0, slots := 0, locals := 199 }) s m ([.ref (ad 318), .int a1, .int a2] : List Value).toArray below meth c H locs 0 0 (MQ below (va_Qi (fun (r : Int32) (u : Mem) => r = r0 ∧ u = (I0, G, A0, L)) (vB D K ad) (vF ad s.heap.size)) ([.ref (ad 318), .int a1, .int a2] : List Value).toArray s 0 0 (vF ad s.heap.size)) (F0 m 141 ls []) := by
          intro I31 A32 h H locs hP hS ls hl
          subst ej33
          refine lv_iconst (v := 0) hx hb dX7_solve_141 (by decide) ?_
          refine lv_istore_n (lv' := [(3, .int 0), (0, .ref (ad 318)), (1, .int a1), (2, .int a2)]) hx hb dX7_solve_142 rfl hl (by decide) rfl (fun ls hl => ?_)
          obtain ⟨k38, ek38, h⟩ := bd_e h
          have kk38 : ∀ (v39 : Int32) (I40 : Nat → Nat → Int32) (A41 : Nat → Nat → Int32), k38 v39 I40 A41 = some (r0, I0, A0) → ∀ (H : Heap) (locs : List Loc), va_P D vwCl (VW K ad I40 G A41 L) H → va_S (vF ad s.heap.size) s.heap H locs → ∀ (ls : Array Slot), lv_has ls 6 [(0, .ref (ad 318)), (1, .int a1), (5, .int v39)] → W p l e ({ frames := 7, cells := 0, slots := 0, locals := 199 }) s m ([.ref (ad 318), .int a1, .int a2] : List Value).toArray below meth c H locs 0 0 (MQ below (va_Qi (fun (r : Int32) (u : Mem) => r = r0 ∧ u = (I0, G, A0, L)) (vB D K ad) (vF ad s.heap.size)) ([.ref (ad 318), .int a1, .int a2] : List Value).toArray s 0 0 (vF ad s.heap.size)) (F0 m 229 ls []) := by
            intro v39 I40 A41 h H locs hP hS ls hl
            subst ek38
            refine lv_aload_n hx hb dX7_solve_229 rfl (lv_at hl 0 rfl) ?_
            refine lv_iload_n hx hb dX7_solve_230 rfl (lv_at hl 1 rfl) ?_
            refine lv_iload hx hb dX7_solve_231 (lv_at hl 2 rfl) ?_
            obtain ⟨⟨I42, A43⟩, hc44, h⟩ := Option.bind_eq_some_iff.mp h
            refine ecVv (As := [.int a1, .int v39]) (rest := []) ⟨hx, hb, hml, hown, hts⟩ (e_X7_endsAs l D K ad hap0 a1 v39 I40 G A41 L I42 A43 hc44) (cwV 2 hts gX7_solve_X7_endsAs rfl rfl rfl (by decide +kernel) ⟨Nat.le_of_ble_eq_true rfl, Nat.le_of_ble_eq_true rfl⟩) hK hP hS (by decide) (show kd 318 = 7 by decide) (by decide) rfl rfl rfl hl.1 (Nat.le_of_ble_eq_true rfl) (Nat.le_of_ble_eq_true rfl) (Nat.le_of_ble_eq_true rfl) dX7_solve_233 (fun H locs hP hS => ?_) rfl
            have hP : va_P D vwCl (VW K ad I42 G A43 L) H := hP
            refine lv_iload hx hb dX7_solve_236 (lv_at hl 2 rfl) ?_
            exact W.iret (v := v39) hx hb hr (fun t9 ht9 hW9 => ⟨⟨v39, (I42, G, A43, L), rfl, by cases h; exact ⟨rfl, rfl⟩, by rw [ht9]; exact hP, va_K.moved hW9.alike hK⟩, hS.F ht9⟩) hS.2.2 dX7_solve_238
          obtain ⟨k45, ek45, h⟩ := bd_e h
          have kk45 : ∀ (I46 : Nat → Nat → Int32) (A47 : Nat → Nat → Int32), k45 I46 A47 = some (r0, I0, A0) → ∀ (H : Heap) (locs : List Loc), va_P D vwCl (VW K ad I46 G A47 L) H → va_S (vF ad s.heap.size) s.heap H locs → ∀ (ls : Array Slot), lv_has ls 6 [] → W p l e ({ frames := 7, cells := 0, slots := 0, locals := 199 }) s m ([.ref (ad 318), .int a1, .int a2] : List Value).toArray below meth c H locs 0 0 (MQ below (va_Qi (fun (r : Int32) (u : Mem) => r = r0 ∧ u = (I0, G, A0, L)) (vB D K ad) (vF ad s.heap.size)) ([.ref (ad 318), .int a1, .int a2] : List Value).toArray s 0 0 (vF ad s.heap.size)) (F0 m 245 ls []) := by
            intro I46 A47 h H locs hP hS ls hl
            subst ek45
            refine lv_iconst (v := 0) hx hb dX7_solve_245 (by decide) ?_
            exact W.iret (v := 0) hx hb hr (fun t9 ht9 hW9 => ⟨⟨0, (I46, G, A47, L), rfl, by cases h; exact ⟨rfl, rfl⟩, by rw [ht9]; exact hP, va_K.moved hW9.alike hK⟩, hS.F ht9⟩) hS.2.2 dX7_solve_246
          have lp34 : ∀ (n : Nat) (v35 : Int32) (I36 : Nat → Nat → Int32) (A37 : Nat → Nat → Int32), f_X7_solve_L143 a1 a2 k38 k45 n v35 I36 A37 = some (r0, I0, A0) → ∀ (H : Heap) (locs : List Loc), va_P D vwCl (VW K ad I36 G A37 L) H → va_S (vF ad s.heap.size) s.heap H locs → ∀ (ls : Array Slot), lv_has ls 6 [(3, .int v35), (0, .ref (ad 318)), (1, .int a1), (2, .int a2)] → W p l e ({ frames := 7, cells := 0, slots := 0, locals := 199 }) s m ([.ref (ad 318), .int a1, .int a2] : List Value).toArray below meth c H locs 0 0 (MQ below (va_Qi (fun (r : Int32) (u : Mem) => r = r0 ∧ u = (I0, G, A0, L)) (vB D K ad) (vF ad s.heap.size)) ([.ref (ad 318), .int a1, .int a2] : List Value).toArray s 0 0 (vF ad s.heap.size)) (F0 m 143 ls []) := by
            intro n
            induction n with
            | zero => intro v35 I36 A37 h; exact absurd h (by rw [f_X7_solve_L143]; exact nofun)
            | succ n ih34 =>
              intro v35 I36 A37 h H locs hP hS ls hl
              rw [f_X7_solve_L143] at h
              refine lv_iload_n hx hb dX7_solve_143 rfl (lv_at hl 0 rfl) ?_
              refine lv_iload_n hx hb dX7_solve_144 rfl (lv_at hl 3 rfl) ?_
              refine lv_icmp_ge (tgt := 245) hx hb dX7_solve_145 (by decide) (fun c_48 => ?_) (fun c_48 => ?_)
              · have h := iN (Int32.not_lt.mpr c_48) h
                exact kk45 I36 A37 h _ _ hP hS ls (lv_sub hl [] rfl)
              · have h := ip (Int32.not_le.mp c_48) h
                refine lv_aload_n hx hb dX7_solve_148 rfl (lv_at hl 1 rfl) ?_
                refine vgI hx hb hts hi7 hown hK hP (318) (by decide) (show kd 318 = 7 by decide) (C := RX7) (T := TX7) (N := 79) rfl 28 (by decide) (by decide) (by decide) (by decide) (hts (.fieldLink RX7 310 "CrateHelpersModel" "turns" "I") (by decide +kernel)) (fun _ h9 => h9) dX7_solve_149 ?_
                refine lv_aload_n hx hb dX7_solve_152 rfl (lv_at hl 1 rfl) ?_
                refine vgI hx hb hts hi7 hown hK hP (318) (by decide) (show kd 318 = 7 by decide) (C := RX7) (T := TX7) (N := 79) rfl 18 (by decide) (by decide) (by decide) (by decide) (hts (.fieldLink RX7 243 "CrateHelpersModel" "scheduled" "I") (by decide +kernel)) (fun _ h9 => h9) dX7_solve_153 ?_
                obtain ⟨j52, ej52, h⟩ := bd_e h
                have kj52 : ∀ (z51 : Int32), j52 z51 = some (r0, I0, A0) → ∀ (H : Heap) (locs : List Loc), va_P D vwCl (VW K ad I36 G A37 L) H → va_S (vF ad s.heap.size) s.heap H locs → ∀ (ls : Array Slot), lv_has ls 6 [(3, .int v35), (0, .ref (ad 318)), (1, .int a1), (2, .int a2)] → W p l e ({ frames := 7, cells := 0, slots := 0, locals := 199 }) s m ([.ref (ad 318), .int a1, .int a2] : List Value).toArray below meth c H locs 0 0 (MQ below (va_Qi (fun (r : Int32) (u : Mem) => r = r0 ∧ u = (I0, G, A0, L)) (vB D K ad) (vF ad s.heap.size)) ([.ref (ad 318), .int a1, .int a2] : List Value).toArray s 0 0 (vF ad s.heap.size)) (F0 m 185 ls [.int z51]) := by
                  intro z51 h H locs hP hS ls hl
                  subst ej52
                  refine lv_istore (lv' := [(4, .int z51), (3, .int v35), (0, .ref (ad 318)), (1, .int a1), (2, .int a2)]) hx hb dX7_solve_185 hl (by decide) rfl (fun ls hl => ?_)
                  refine lv_aload_n hx hb dX7_solve_187 rfl (lv_at hl 2 rfl) ?_
                  refine lv_dup hx hb dX7_solve_188 rfl ?_
                  refine vgI hx hb hts hi7 hown hK hP (318) (by decide) (show kd 318 = 7 by decide) (C := RX7) (T := TX7) (N := 79) rfl 28 (by decide) (by decide) (by decide) (by decide) (hts (.fieldLink RX7 310 "CrateHelpersModel" "turns" "I") (by decide +kernel)) (fun _ h9 => h9) dX7_solve_189 ?_
                  refine lv_iconst (v := 1) hx hb dX7_solve_192 (by decide) ?_
                  refine lv_iadd hx hb dX7_solve_193 ?_
                  refine vpI (v := ((I36 318 28) + 1)) (ty := .int) hx hb hts hi7 tyX7 tyX7_ok nmX7 hown hK hP hap hS (318) (by decide) (show kd 318 = 7 by decide) (C := RX7) (T := TX7) (N := 79) rfl 28 (by decide) (by decide) (by decide) (by decide) (hts (.fieldLink RX7 310 "CrateHelpersModel" "turns" "I") (by decide +kernel)) (fun _ h9 => h9) rfl (by decide +kernel) rfl rfl dX7_solve_194 (fun H locs hP hS => ?_)
                  obtain ⟨I53, eI53, h⟩ := bd_e h
                  rw [← eI53] at hP
                  have hP : va_P D vwCl (VW K ad I53 G A37 L) H := hP
                  refine lv_aload_n hx hb dX7_solve_197 rfl (lv_at hl 2 rfl) ?_
                  refine lv_iload_n hx hb dX7_solve_198 rfl (lv_at hl 3 rfl) ?_
                  refine lv_iload hx hb dX7_solve_199 (lv_at hl 0 rfl) ?_
                  refine lv_aload_n hx hb dX7_solve_201 rfl (lv_at hl 2 rfl) ?_
                  refine vgI hx hb hts hi7 hown hK hP (318) (by decide) (show kd 318 = 7 by decide) (C := RX7) (T := TX7) (N := 79) rfl 15 (by decide) (by decide) (by decide) (by decide) (hts (.fieldLink RX7 43 "CrateHelpersModel" "helpers" "I") (by decide +kernel)) (fun _ h9 => h9) dX7_solve_202 ?_
                  refine lv_icmp_ge (tgt := 213) hx hb dX7_solve_205 (by decide) (fun c_54 => ?_) (fun c_54 => ?_)
                  · have h := iN (Int32.not_lt.mpr c_54) h
                    refine lv_iconst (v := 0) hx hb dX7_solve_213 (by decide) ?_
                    obtain ⟨⟨I55, A56⟩, hc57, h⟩ := Option.bind_eq_some_iff.mp h
                    refine ecVv (As := [.int a1, .int 0]) (rest := []) ⟨hx, hb, hml, hown, hts⟩ (e_X7_turnOf l D K ad hap0 a1 0 I53 G A37 L I55 A56 hc57) (cwV 2 hts gX7_solve_X7_turnOf rfl rfl rfl (by decide +kernel) ⟨Nat.le_of_ble_eq_true rfl, Nat.le_of_ble_eq_true rfl⟩) hK hP hS (by decide) (show kd 318 = 7 by decide) (by decide) rfl rfl rfl hl.1 (Nat.le_of_ble_eq_true rfl) (Nat.le_of_ble_eq_true rfl) (Nat.le_of_ble_eq_true rfl) dX7_solve_214 (fun H locs hP hS => ?_) rfl
                    have hP : va_P D vwCl (VW K ad I55 G A56 L) H := hP
                    refine lv_aload_n hx hb dX7_solve_217 rfl (lv_at hl 2 rfl) ?_
                    refine lv_iload_n hx hb dX7_solve_218 rfl (lv_at hl 3 rfl) ?_
                    obtain ⟨⟨r58, I59, A60⟩, hc61, h⟩ := Option.bind_eq_some_iff.mp h
                    refine ecV (As := [.int a1]) (rest := []) ⟨hx, hb, hml, hown, hts⟩ (e_X7_walks l D K ad hap0 a1 I55 G A56 L r58 I59 A60 hc61) (cwV 1 hts gX7_solve_X7_walks rfl rfl rfl (by decide +kernel) ⟨Nat.le_of_ble_eq_true rfl, Nat.le_of_ble_eq_true rfl⟩) hK hP hS (by decide) (show kd 318 = 7 by decide) (by decide) rfl rfl rfl hl.1 (Nat.le_of_ble_eq_true rfl) (Nat.le_of_ble_eq_true rfl) (Nat.le_of_ble_eq_true rfl) dX7_solve_219 (fun H locs hP hS => ?_) rfl
                    have hP : va_P D vwCl (VW K ad I59 G A60 L) H := hP
                    refine lv_istore (lv' := [(5, .int r58), (4, .int z51), (3, .int v35), (0, .ref (ad 318)), (1, .int a1), (2, .int a2)]) hx hb dX7_solve_222 hl (by decide) rfl (fun ls hl => ?_)
                    refine lv_iload hx hb dX7_solve_224 (lv_at hl 0 rfl) ?_
                    refine lv_if_le (tgt := 239) hx hb dX7_solve_226 (by decide) (fun c_62 => ?_) (fun c_62 => ?_)
                    · have h := iN (Int32.not_lt.mpr c_62) h
                      refine lv_iinc (v := (v35 + 1)) (lv' := [(3, .int (v35 + 1)), (5, .int r58), (4, .int z51), (0, .ref (ad 318)), (1, .int a1), (2, .int a2)]) hx hb dX7_solve_239 hl (k := 2) rfl rfl (by decide) rfl (fun ls hl => ?_)
                      refine lv_goto (tgt := 143) hx hb dX7_solve_242 (by decide) ?_
                      exact ih34 (v35 + 1) I59 A60 h _ _ hP hS ls (lv_sub hl [0, 3, 4, 5] rfl)
                    · have h := ip (Int32.not_le.mp c_62) h
                      exact kk38 r58 I59 A60 h _ _ hP hS ls (lv_sub hl [3, 4, 0] rfl)
                  · have h := ip (Int32.not_le.mp c_54) h
                    refine lv_iload hx hb dX7_solve_208 (lv_at hl 0 rfl) ?_
                    refine lv_goto (tgt := 214) hx hb dX7_solve_210 (by decide) ?_
                    obtain ⟨⟨I63, A64⟩, hc65, h⟩ := Option.bind_eq_some_iff.mp h
                    refine ecVv (As := [.int a1, .int z51]) (rest := []) ⟨hx, hb, hml, hown, hts⟩ (e_X7_turnOf l D K ad hap0 a1 z51 I53 G A37 L I63 A64 hc65) (cwV 2 hts gX7_solve_X7_turnOf rfl rfl rfl (by decide +kernel) ⟨Nat.le_of_ble_eq_true rfl, Nat.le_of_ble_eq_true rfl⟩) hK hP hS (by decide) (show kd 318 = 7 by decide) (by decide) rfl rfl rfl hl.1 (Nat.le_of_ble_eq_true rfl) (Nat.le_of_ble_eq_true rfl) (Nat.le_of_ble_eq_true rfl) dX7_solve_214 (fun H locs hP hS => ?_) rfl
                    have hP : va_P D vwCl (VW K ad I63 G A64 L) H := hP
                    refine lv_aload_n hx hb dX7_solve_217 rfl (lv_at hl 2 rfl) ?_
                    refine lv_iload_n hx hb dX7_solve_218 rfl (lv_at hl 3 rfl) ?_
                    obtain ⟨⟨r66, I67, A68⟩, hc69, h⟩ := Option.bind_eq_some_iff.mp h
                    refine ecV (As := [.int a1]) (rest := []) ⟨hx, hb, hml, hown, hts⟩ (e_X7_walks l D K ad hap0 a1 I63 G A64 L r66 I67 A68 hc69) (cwV 1 hts gX7_solve_X7_walks rfl rfl rfl (by decide +kernel) ⟨Nat.le_of_ble_eq_true rfl, Nat.le_of_ble_eq_true rfl⟩) hK hP hS (by decide) (show kd 318 = 7 by decide) (by decide) rfl rfl rfl hl.1 (Nat.le_of_ble_eq_true rfl) (Nat.le_of_ble_eq_true rfl) (Nat.le_of_ble_eq_true rfl) dX7_solve_219 (fun H locs hP hS => ?_) rfl
                    have hP : va_P D vwCl (VW K ad I67 G A68 L) H := hP
                    refine lv_istore (lv' := [(5, .int r66), (4, .int z51), (3, .int v35), (0, .ref (ad 318)), (1, .int a1), (2, .int a2)]) hx hb dX7_solve_222 hl (by decide) rfl (fun ls hl => ?_)
                    refine lv_iload hx hb dX7_solve_224 (lv_at hl 0 rfl) ?_
                    refine lv_if_le (tgt := 239) hx hb dX7_solve_226 (by decide) (fun c_70 => ?_) (fun c_70 => ?_)
                    · have h := iN (Int32.not_lt.mpr c_70) h
                      refine lv_iinc (v := (v35 + 1)) (lv' := [(3, .int (v35 + 1)), (5, .int r66), (4, .int z51), (0, .ref (ad 318)), (1, .int a1), (2, .int a2)]) hx hb dX7_solve_239 hl (k := 2) rfl rfl (by decide) rfl (fun ls hl => ?_)
                      refine lv_goto (tgt := 143) hx hb dX7_solve_242 (by decide) ?_
                      exact ih34 (v35 + 1) I67 A68 h _ _ hP hS ls (lv_sub hl [0, 3, 4, 5] rfl)
                    · have h := ip (Int32.not_le.mp c_70) h
                      exact kk38 r66 I67 A68 h _ _ hP hS ls (lv_sub hl [3, 4, 0] rfl)
                refine lv_icmp_ge (tgt := 171) hx hb dX7_solve_156 (by decide) (fun c_71 => ?_) (fun c_71 => ?_)
                · have h := iN (Int32.not_lt.mpr c_71) h
                  refine lv_aload_n hx hb dX7_solve_171 rfl (lv_at hl 1 rfl) ?_
                  refine vgI hx hb hts hi7 hown hK hP (318) (by decide) (show kd 318 = 7 by decide) (C := RX7) (T := TX7) (N := 79) rfl 28 (by decide) (by decide) (by decide) (by decide) (hts (.fieldLink RX7 310 "CrateHelpersModel" "turns" "I") (by decide +kernel)) (fun _ h9 => h9) dX7_solve_172 ?_
                  refine lv_aload_n hx hb dX7_solve_175 rfl (lv_at hl 1 rfl) ?_
                  refine vgI hx hb hts hi7 hown hK hP (318) (by decide) (show kd 318 = 7 by decide) (C := RX7) (T := TX7) (N := 79) rfl 18 (by decide) (by decide) (by decide) (by decide) (hts (.fieldLink RX7 243 "CrateHelpersModel" "scheduled" "I") (by decide +kernel)) (fun _ h9 => h9) dX7_solve_176 ?_
                  refine lv_isub hx hb dX7_solve_179 ?_
                  refine lv_aload_n hx hb dX7_solve_180 rfl (lv_at hl 1 rfl) ?_
                  refine vgI hx hb hts hi7 hown hK hP (318) (by decide) (show kd 318 = 7 by decide) (C := RX7) (T := TX7) (N := 79) rfl 15 (by decide) (by decide) (by decide) (by decide) (hts (.fieldLink RX7 43 "CrateHelpersModel" "helpers" "I") (by decide +kernel)) (fun _ h9 => h9) dX7_solve_181 ?_
                  obtain ⟨hz72, h⟩ := gk h
                  refine lv_irem hx hb dX7_solve_184 hz72 ?_
                  exact kj52 (((I36 318 28) - (I36 318 18)) - ((I36 318 28) - (I36 318 18)) / (I36 318 15) * (I36 318 15)) h _ _ hP hS ls (lv_sub hl [0, 1, 2, 3] rfl)
                · have h := ip (Int32.not_le.mp c_71) h
                  refine lv_aload_n hx hb dX7_solve_159 rfl (lv_at hl 1 rfl) ?_
                  refine vgC hx hb hts hi7 hown hK hP (318) (by decide) (show kd 318 = 7 by decide) (C := RX7) (T := TX7) (N := 79) rfl 17 (by decide) (by decide) (by decide) (by decide) (331) rfl (hts (.fieldLink RX7 50 "CrateHelpersModel" "schedule" "[I") (by decide +kernel)) (fun _ h9 => h9) dX7_solve_160 ?_
                  refine lv_aload_n hx hb dX7_solve_163 rfl (lv_at hl 1 rfl) ?_
                  refine vgI hx hb hts hi7 hown hK hP (318) (by decide) (show kd 318 = 7 by decide) (C := RX7) (T := TX7) (N := 79) rfl 28 (by decide) (by decide) (by decide) (by decide) (hts (.fieldLink RX7 310 "CrateHelpersModel" "turns" "I") (by decide +kernel)) (fun _ h9 => h9) dX7_solve_164 ?_
                  obtain ⟨hn73, h⟩ := gk h
                  refine xiald hx hb hK hP (331) (by decide) (show kd 331 = 8 by decide) (by rw [show ln 331 = 200 by decide]; exact hn73) dX7_solve_167 ?_
                  refine lv_goto (tgt := 185) hx hb dX7_solve_168 (by decide) ?_
                  exact kj52 (A37 331 ((I36 318 28).toNatClampNeg)) h _ _ hP hS ls (lv_sub hl [0, 1, 2, 3] rfl)
          exact lp34 FU 0 I31 A32 h _ _ hP hS ls (lv_sub hl [0, 1, 2, 3] rfl)
        refine lv_icmp_ne (tgt := 141) hx hb dX7_solve_52 (by decide) (fun c_74 => ?_) (fun c_74 => ?_)
        · have h := iN c_74 h
          exact kj33 I1 A h _ _ hP hS ls (lv_sub hl [0, 1, 2] rfl)
        · have h := ip c_74 h
          refine lv_aload_n hx hb dX7_solve_55 rfl (lv_at hl 0 rfl) ?_
          refine lv_iload_n hx hb dX7_solve_56 rfl (lv_at hl 1 rfl) ?_
          refine vpI (v := a1) (ty := .int) hx hb hts hi7 tyX7 tyX7_ok nmX7 hown hK hP hap hS (318) (by decide) (show kd 318 = 7 by decide) (C := RX7) (T := TX7) (N := 79) rfl 23 (by decide) (by decide) (by decide) (by decide) (hts (.fieldLink RX7 62 "CrateHelpersModel" "under" "I") (by decide +kernel)) (fun _ h9 => h9) rfl (by decide +kernel) rfl rfl dX7_solve_57 (fun H locs hP hS => ?_)
          obtain ⟨I75, eI75, h⟩ := bd_e h
          rw [← eI75] at hP
          have hP : va_P D vwCl (VW K ad I75 G A L) H := hP
          refine lv_aload_n hx hb dX7_solve_60 rfl (lv_at hl 0 rfl) ?_
          refine lv_aload_n hx hb dX7_solve_61 rfl (lv_at hl 0 rfl) ?_
          refine vgI hx hb hts hi7 hown hK hP (318) (by decide) (show kd 318 = 7 by decide) (C := RX7) (T := TX7) (N := 79) rfl 19 (by decide) (by decide) (by decide) (by decide) (hts (.fieldLink RX7 246 "CrateHelpersModel" "limit" "I") (by decide +kernel)) (fun _ h9 => h9) dX7_solve_62 ?_
          refine vpI (v := (I75 318 19)) (ty := .int) hx hb hts hi7 tyX7 tyX7_ok nmX7 hown hK hP hap hS (318) (by decide) (show kd 318 = 7 by decide) (C := RX7) (T := TX7) (N := 79) rfl 24 (by decide) (by decide) (by decide) (by decide) (hts (.fieldLink RX7 319 "CrateHelpersModel" "limitNow" "I") (by decide +kernel)) (fun _ h9 => h9) rfl (by decide +kernel) rfl rfl dX7_solve_65 (fun H locs hP hS => ?_)
          obtain ⟨I76, eI76, h⟩ := bd_e h
          rw [← eI76] at hP
          have hP : va_P D vwCl (VW K ad I76 G A L) H := hP
          refine lv_aload_n hx hb dX7_solve_68 rfl (lv_at hl 0 rfl) ?_
          refine lv_iconst (v := 0) hx hb dX7_solve_69 (by decide) ?_
          refine vpI (v := 0) (ty := .int) hx hb hts hi7 tyX7 tyX7_ok nmX7 hown hK hP hap hS (318) (by decide) (show kd 318 = 7 by decide) (C := RX7) (T := TX7) (N := 79) rfl 28 (by decide) (by decide) (by decide) (by decide) (hts (.fieldLink RX7 310 "CrateHelpersModel" "turns" "I") (by decide +kernel)) (fun _ h9 => h9) rfl (by decide +kernel) rfl rfl dX7_solve_70 (fun H locs hP hS => ?_)
          obtain ⟨I77, eI77, h⟩ := bd_e h
          rw [← eI77] at hP
          have hP : va_P D vwCl (VW K ad I77 G A L) H := hP
          refine lv_iconst (v := 0) hx hb dX7_solve_73 (by decide) ?_
          refine lv_istore_n (lv' := [(3, .int 0), (0, .ref (ad 318)), (1, .int a1), (2, .int a2)]) hx hb dX7_solve_74 rfl hl (by decide) rfl (fun ls hl => ?_)
          obtain ⟨k81, ek81, h⟩ := bd_e h
          have kk81 : ∀ (A82 : Nat → Nat → Int32), k81 A82 = some (r0, I0, A0) → ∀ (H : Heap) (locs : List Loc), va_P D vwCl (VW K ad I77 G A82 L) H → va_S (vF ad s.heap.size) s.heap H locs → ∀ (ls : Array Slot), lv_has ls 6 [(0, .ref (ad 318)), (1, .int a1), (2, .int a2)] → W p l e ({ frames := 7, cells := 0, slots := 0, locals := 199 }) s m ([.ref (ad 318), .int a1, .int a2] : List Value).toArray below meth c H locs 0 0 (MQ below (va_Qi (fun (r : Int32) (u : Mem) => r = r0 ∧ u = (I0, G, A0, L)) (vB D K ad) (vF ad s.heap.size)) ([.ref (ad 318), .int a1, .int a2] : List Value).toArray s 0 0 (vF ad s.heap.size)) (F0 m 120 ls []) := by
            intro A82 h H locs hP hS ls hl
            subst ek81
            refine lv_aload_n hx hb dX7_solve_120 rfl (lv_at hl 0 rfl) ?_
            refine lv_iload_n hx hb dX7_solve_121 rfl (lv_at hl 1 rfl) ?_
            refine lv_iconst (v := 1) hx hb dX7_solve_122 (by decide) ?_
            obtain ⟨⟨I83, A84⟩, hc85, h⟩ := Option.bind_eq_some_iff.mp h
            refine ecVv (As := [.int a1, .int 1]) (rest := []) ⟨hx, hb, hml, hown, hts⟩ (e_X7_begins l D K ad hap0 a1 1 I77 G A82 L I83 A84 hc85) (cwV 2 hts gX7_solve_X7_begins rfl rfl rfl (by decide +kernel) ⟨Nat.le_of_ble_eq_true rfl, Nat.le_of_ble_eq_true rfl⟩) hK hP hS (by decide) (show kd 318 = 7 by decide) (by decide) rfl rfl rfl hl.1 (Nat.le_of_ble_eq_true rfl) (Nat.le_of_ble_eq_true rfl) (Nat.le_of_ble_eq_true rfl) dX7_solve_123 (fun H locs hP hS => ?_) rfl
            have hP : va_P D vwCl (VW K ad I83 G A84 L) H := hP
            refine lv_aload_n hx hb dX7_solve_126 rfl (lv_at hl 0 rfl) ?_
            refine vgI hx hb hts hi7 hown hK hP (318) (by decide) (show kd 318 = 7 by decide) (C := RX7) (T := TX7) (N := 79) rfl 29 (by decide) (by decide) (by decide) (by decide) (hts (.fieldLink RX7 284 "CrateHelpersModel" "nodes" "I") (by decide +kernel)) (fun _ h9 => h9) dX7_solve_127 ?_
            refine lv_if_ne (tgt := 141) hx hb dX7_solve_130 (by decide) (fun c_86 => ?_) (fun c_86 => ?_)
            · have h := iN c_86 h
              exact kj33 I83 A84 h _ _ hP hS ls (lv_sub hl [0, 1, 2] rfl)
            · have h := ip c_86 h
              refine lv_aload_n hx hb dX7_solve_133 rfl (lv_at hl 0 rfl) ?_
              refine lv_iload_n hx hb dX7_solve_134 rfl (lv_at hl 1 rfl) ?_
              refine lv_iconst (v := 2) hx hb dX7_solve_135 (by decide) ?_
              obtain ⟨⟨I87, A88⟩, hc89, h⟩ := Option.bind_eq_some_iff.mp h
              refine ecVv (As := [.int a1, .int 2]) (rest := []) ⟨hx, hb, hml, hown, hts⟩ (e_X7_endsAs l D K ad hap0 a1 2 I83 G A84 L I87 A88 hc89) (cwV 2 hts gX7_solve_X7_endsAs rfl rfl rfl (by decide +kernel) ⟨Nat.le_of_ble_eq_true rfl, Nat.le_of_ble_eq_true rfl⟩) hK hP hS (by decide) (show kd 318 = 7 by decide) (by decide) rfl rfl rfl hl.1 (Nat.le_of_ble_eq_true rfl) (Nat.le_of_ble_eq_true rfl) (Nat.le_of_ble_eq_true rfl) dX7_solve_136 (fun H locs hP hS => ?_) rfl
              have hP : va_P D vwCl (VW K ad I87 G A88 L) H := hP
              refine lv_iconst (v := 2) hx hb dX7_solve_139 (by decide) ?_
              exact W.iret (v := 2) hx hb hr (fun t9 ht9 hW9 => ⟨⟨2, (I87, G, A88, L), rfl, by cases h; exact ⟨rfl, rfl⟩, by rw [ht9]; exact hP, va_K.moved hW9.alike hK⟩, hS.F ht9⟩) hS.2.2 dX7_solve_140
          have lp78 : ∀ (n : Nat) (v79 : Int32) (A80 : Nat → Nat → Int32), f_X7_solve_L75 a1 a2 I77 k81 n v79 A80 = some (r0, I0, A0) → ∀ (H : Heap) (locs : List Loc), va_P D vwCl (VW K ad I77 G A80 L) H → va_S (vF ad s.heap.size) s.heap H locs → ∀ (ls : Array Slot), lv_has ls 6 [(3, .int v79), (0, .ref (ad 318)), (1, .int a1), (2, .int a2)] → W p l e ({ frames := 7, cells := 0, slots := 0, locals := 199 }) s m ([.ref (ad 318), .int a1, .int a2] : List Value).toArray below meth c H locs 0 0 (MQ below (va_Qi (fun (r : Int32) (u : Mem) => r = r0 ∧ u = (I0, G, A0, L)) (vB D K ad) (vF ad s.heap.size)) ([.ref (ad 318), .int a1, .int a2] : List Value).toArray s 0 0 (vF ad s.heap.size)) (F0 m 75 ls []) := by
            intro n
            induction n with
            | zero => intro v79 A80 h; exact absurd h (by rw [f_X7_solve_L75]; exact nofun)
            | succ n ih78 =>
              intro v79 A80 h H locs hP hS ls hl
              rw [f_X7_solve_L75] at h
              refine lv_iload_n hx hb dX7_solve_75 rfl (lv_at hl 0 rfl) ?_
              refine lv_iconst (v := 5) hx hb dX7_solve_76 (by decide) ?_
              refine lv_icmp_ge (tgt := 120) hx hb dX7_solve_77 (by decide) (fun c_90 => ?_) (fun c_90 => ?_)
              · have h := iN (Int32.not_lt.mpr c_90) h
                exact kk81 A80 h _ _ hP hS ls (lv_sub hl [1, 2, 3] rfl)
              · have h := ip (Int32.not_le.mp c_90) h
                refine lv_aload_n hx hb dX7_solve_80 rfl (lv_at hl 1 rfl) ?_
                refine vgC hx hb hts hi7 hown hK hP (318) (by decide) (show kd 318 = 7 by decide) (C := RX7) (T := TX7) (N := 79) rfl 25 (by decide) (by decide) (by decide) (by decide) (335) rfl (hts (.fieldLink RX7 65 "CrateHelpersModel" "failNow" "[I") (by decide +kernel)) (fun _ h9 => h9) dX7_solve_81 ?_
                refine lv_iload_n hx hb dX7_solve_84 rfl (lv_at hl 0 rfl) ?_
                refine lv_aload_n hx hb dX7_solve_85 rfl (lv_at hl 1 rfl) ?_
                refine vgC hx hb hts hi7 hown hK hP (318) (by decide) (show kd 318 = 7 by decide) (C := RX7) (T := TX7) (N := 79) rfl 16 (by decide) (by decide) (by decide) (by decide) (330) rfl (hts (.fieldLink RX7 47 "CrateHelpersModel" "failAt" "[I") (by decide +kernel)) (fun _ h9 => h9) dX7_solve_86 ?_
                refine lv_iload_n hx hb dX7_solve_89 rfl (lv_at hl 0 rfl) ?_
                obtain ⟨hn91, h⟩ := gk h
                refine xiald hx hb hK hP (330) (by decide) (show kd 330 = 8 by decide) (by rw [show ln 330 = 5 by decide]; exact hn91) dX7_solve_90 ?_
                refine xiast hx hb hK hP hap hS (335) (by decide) (show kd 335 = 8 by decide) (by rw [show ln 335 = 5 by decide]; exact hn91) dX7_solve_91 (fun H locs hP hS => ?_)
                obtain ⟨A92, eA92, h⟩ := bd_e h
                rw [← eA92] at hP
                have hP : va_P D vwCl (VW K ad I77 G A92 L) H := hP
                refine lv_aload_n hx hb dX7_solve_92 rfl (lv_at hl 1 rfl) ?_
                refine vgC hx hb hts hi7 hown hK hP (318) (by decide) (show kd 318 = 7 by decide) (C := RX7) (T := TX7) (N := 79) rfl 26 (by decide) (by decide) (by decide) (by decide) (336) rfl (hts (.fieldLink RX7 68 "CrateHelpersModel" "hadNow" "[I") (by decide +kernel)) (fun _ h9 => h9) dX7_solve_93 ?_
                refine lv_iload_n hx hb dX7_solve_96 rfl (lv_at hl 0 rfl) ?_
                refine lv_iconst (v := 0) hx hb dX7_solve_97 (by decide) ?_
                refine xiast hx hb hK hP hap hS (336) (by decide) (show kd 336 = 8 by decide) (by rw [show ln 336 = 5 by decide]; exact hn91) dX7_solve_98 (fun H locs hP hS => ?_)
                obtain ⟨A93, eA93, h⟩ := bd_e h
                rw [← eA93] at hP
                have hP : va_P D vwCl (VW K ad I77 G A93 L) H := hP
                refine lv_aload_n hx hb dX7_solve_99 rfl (lv_at hl 1 rfl) ?_
                refine vgC hx hb hts hi7 hown hK hP (318) (by decide) (show kd 318 = 7 by decide) (C := RX7) (T := TX7) (N := 79) rfl 22 (by decide) (by decide) (by decide) (by decide) (334) rfl (hts (.fieldLink RX7 59 "CrateHelpersModel" "didNow" "[I") (by decide +kernel)) (fun _ h9 => h9) dX7_solve_100 ?_
                refine lv_iload_n hx hb dX7_solve_103 rfl (lv_at hl 0 rfl) ?_
                refine lv_iconst (v := 0) hx hb dX7_solve_104 (by decide) ?_
                refine xiast hx hb hK hP hap hS (334) (by decide) (show kd 334 = 8 by decide) (by rw [show ln 334 = 5 by decide]; exact hn91) dX7_solve_105 (fun H locs hP hS => ?_)
                obtain ⟨A94, eA94, h⟩ := bd_e h
                rw [← eA94] at hP
                have hP : va_P D vwCl (VW K ad I77 G A94 L) H := hP
                refine lv_aload_n hx hb dX7_solve_106 rfl (lv_at hl 1 rfl) ?_
                refine vgC hx hb hts hi7 hown hK hP (318) (by decide) (show kd 318 = 7 by decide) (C := RX7) (T := TX7) (N := 79) rfl 27 (by decide) (by decide) (by decide) (by decide) (337) rfl (hts (.fieldLink RX7 71 "CrateHelpersModel" "holds" "[I") (by decide +kernel)) (fun _ h9 => h9) dX7_solve_107 ?_
                refine lv_iload_n hx hb dX7_solve_110 rfl (lv_at hl 0 rfl) ?_
                refine lv_bipush (v := (-9)) hx hb dX7_solve_111 (by decide) ?_
                refine xiast hx hb hK hP hap hS (337) (by decide) (show kd 337 = 8 by decide) (by rw [show ln 337 = 5 by decide]; exact hn91) dX7_solve_113 (fun H locs hP hS => ?_)
                obtain ⟨A95, eA95, h⟩ := bd_e h
                rw [← eA95] at hP
                have hP : va_P D vwCl (VW K ad I77 G A95 L) H := hP
                refine lv_iinc (v := (v79 + 1)) (lv' := [(3, .int (v79 + 1)), (0, .ref (ad 318)), (1, .int a1), (2, .int a2)]) hx hb dX7_solve_114 hl (k := 0) rfl rfl (by decide) rfl (fun ls hl => ?_)
                refine lv_goto (tgt := 75) hx hb dX7_solve_117 (by decide) ?_
                exact ih78 (v79 + 1) A95 h _ _ hP hS ls (lv_sub hl [0, 1, 2, 3] rfl)
          exact lp78 FU 0 A h _ _ hP hS ls (lv_sub hl [0, 1, 2, 3] rfl)
      refine lv_icmp_eq (tgt := 46) hx hb dX7_solve_32 (by decide) (fun c_96 => ?_) (fun c_96 => ?_)
      · have h := ip c_96 h
        exact kj9 () h _ _ hP hS ls (lv_sub hl [0, 1, 2] rfl)
      · have h := iN c_96 h
        refine lv_aload_n hx hb dX7_solve_35 rfl (lv_at hl 0 rfl) ?_
        refine vgI hx hb hts hi7 hown hK hP (318) (by decide) (show kd 318 = 7 by decide) (C := RX7) (T := TX7) (N := 79) rfl 23 (by decide) (by decide) (by decide) (by decide) (hts (.fieldLink RX7 62 "CrateHelpersModel" "under" "I") (by decide +kernel)) (fun _ h9 => h9) dX7_solve_36 ?_
        refine lv_iload_n hx hb dX7_solve_39 rfl (lv_at hl 1 rfl) ?_
        refine lv_icmp_eq (tgt := 46) hx hb dX7_solve_40 (by decide) (fun c_97 => ?_) (fun c_97 => ?_)
        · have h := ip c_97 h
          exact kj9 () h _ _ hP hS ls (lv_sub hl [0, 1, 2] rfl)
        · have h := iN c_97 h
          refine lv_bipush (v := (-2)) hx hb dX7_solve_43 (by decide) ?_
          exact W.iret (v := (-2)) hx hb hr (fun t9 ht9 hW9 => ⟨⟨(-2), (I1, G, A, L), rfl, by cases h; exact ⟨rfl, rfl⟩, by rw [ht9]; exact hP, va_K.moved hW9.alike hK⟩, hS.F ht9⟩) hS.2.2 dX7_solve_45
    · have h := ip c_7 h
      refine lv_iconst (v := (-1)) hx hb dX7_solve_24 (by decide) ?_
      exact W.iret (v := (-1)) hx hb hr (fun t9 ht9 hW9 => ⟨⟨(-1), (I1, G, A, L), rfl, by cases h; exact ⟨rfl, rfl⟩, by rw [ht9]; exact hP, va_K.moved hW9.alike hK⟩, hS.F ht9⟩) hS.2.2 dX7_solve_25
set_option maxHeartbeats 4000000 in
set_option maxRecDepth 100000 in
theorem e_X7_status (l : Launch) (D : va_G) (K : Nat → ClassId) (ad : Nat → Nat) (hap0 : apart ad (fun _ => True)) (I : Nat → Nat → Int32) (G : Nat → Nat → Nat) (A : Nat → Nat → Int32) (L : Nat → Nat → Int64) (r0 : Int32) (I0 : Nat → Nat → Int32) (h : f_X7_status I = some (r0, I0)) : Ci l D K ad yX7_status wsX7_status 0 0 [.ref (ad 318)] (I, G, A, L) (fun (r : Int32) (u : Mem) => r = r0 ∧ u = (I0, G, A, L)) := by
  intro sz
  refine Met.ofW (cc := cX7_status) (maxL := 1) (ret := (some .int)) (by decide) rfl ?_
  intro p e s m args below meth c s₁ Bd hml hv0
  obtain ⟨rfl, hsz, hP, hK⟩ := hv0
  have hx := Bd.exec
  have hb := Bd.bytes
  have hr := Bd.returns
  have hts := atoms_spec (ws := wsX7_status) Bd.pre
  have hown : s.vm.findClass RX7 = some m.cls := findClass_of_methodNamed Bd.named
  have hlocks := Bd.notSynchronized
  have hi7 : ∀ w ∈ u_ws RX7 TX7 79, w ∈ wsX7_status := fun w h => List.mem_cons_of_mem _ (List.mem_append_right _ h)
  subst hsz
  have hap := vF_ap hap0 s.heap.size
  have hS : va_S (vF ad s.heap.size) s.heap s.heap [] := va_S.rf
  have hP : va_P D vwCl (VW K ad I G A L) s.heap := hP
  have hl := lv_entry ([.ref (ad 318)]) (n := 1) (Nat.le_of_ble_eq_true rfl)
  rw [lg_entry_eq]
  generalize (lg_sl ([.ref (ad 318)]) ++ List.replicate (1 - (lg_sl ([.ref (ad 318)])).length) Slot.unset).toArray = ls at hl ⊢
  have hl : lv_has ls 1 [(0, .ref (ad 318))] := hl
  rw [f_X7_status] at h
  refine lv_aload_n hx hb dX7_status_0 rfl (lv_at hl 0 rfl) ?_
  refine lv_iconst (v := 0) hx hb dX7_status_1 (by decide) ?_
  refine vpI (v := 0) (ty := .int) hx hb hts hi7 tyX7 tyX7_ok nmX7 hown hK hP hap hS (318) (by decide) (show kd 318 = 7 by decide) (C := RX7) (T := TX7) (N := 79) rfl 0 (by decide) (by decide) (by decide) (by decide) (hts (.fieldLink RX7 201 "CrateHelpersModel" "thrown" "I") (by decide +kernel)) (fun _ h9 => h9) rfl (by decide +kernel) rfl rfl dX7_status_2 (fun H locs hP hS => ?_)
  obtain ⟨I1, eI1, h⟩ := bd_e h
  rw [← eI1] at hP
  have hP : va_P D vwCl (VW K ad I1 G A L) H := hP
  refine lv_aload_n hx hb dX7_status_5 rfl (lv_at hl 0 rfl) ?_
  refine vgI hx hb hts hi7 hown hK hP (318) (by decide) (show kd 318 = 7 by decide) (C := RX7) (T := TX7) (N := 79) rfl 1 (by decide) (by decide) (by decide) (by decide) (hts (.fieldLink RX7 221 "CrateHelpersModel" "status" "I") (by decide +kernel)) (fun _ h9 => h9) dX7_status_6 ?_
  exact W.iret (v := (I1 318 1)) hx hb hr (fun t9 ht9 hW9 => ⟨⟨(I1 318 1), (I1, G, A, L), rfl, by cases h; exact ⟨rfl, rfl⟩, by rw [ht9]; exact hP, va_K.moved hW9.alike hK⟩, hS.F ht9⟩) hS.2.2 dX7_status_9
set_option maxHeartbeats 4000000 in
set_option maxRecDepth 100000 in
theorem e_X7_told (l : Launch) (D : va_G) (K : Nat → ClassId) (ad : Nat → Nat) (hap0 : apart ad (fun _ => True)) (a1 : Int32) (a2 : Int32) (I : Nat → Nat → Int32) (G : Nat → Nat → Nat) (A : Nat → Nat → Int32) (L : Nat → Nat → Int64) (r0 : Int32) (I0 : Nat → Nat → Int32) (h : f_X7_told I A a1 a2 = some (r0, I0)) : Ci l D K ad yX7_told wsX7_told 2 49 [.ref (ad 318), .int a1, .int a2] (I, G, A, L) (fun (r : Int32) (u : Mem) => r = r0 ∧ u = (I0, G, A, L)) := by
  intro sz
  refine Met.ofW (cc := cX7_told) (maxL := 3) (ret := (some .int)) (by decide) rfl ?_
  intro p e s m args below meth c s₁ Bd hml hv0
  obtain ⟨rfl, hsz, hP, hK⟩ := hv0
  have hx := Bd.exec
  have hb := Bd.bytes
  have hr := Bd.returns
  have hts := atoms_spec (ws := wsX7_told) Bd.pre
  have hown : s.vm.findClass RX7 = some m.cls := findClass_of_methodNamed Bd.named
  have hlocks := Bd.notSynchronized
  have hi7 : ∀ w ∈ u_ws RX7 TX7 79, w ∈ wsX7_told := fun w h => List.mem_cons_of_mem _ (List.mem_append_right _ h)
  subst hsz
  have hap := vF_ap hap0 s.heap.size
  have hS : va_S (vF ad s.heap.size) s.heap s.heap [] := va_S.rf
  have hP : va_P D vwCl (VW K ad I G A L) s.heap := hP
  have hl := lv_entry ([.ref (ad 318), .int a1, .int a2]) (n := 3) (Nat.le_of_ble_eq_true rfl)
  rw [lg_entry_eq]
  generalize (lg_sl ([.ref (ad 318), .int a1, .int a2]) ++ List.replicate (3 - (lg_sl ([.ref (ad 318), .int a1, .int a2])).length) Slot.unset).toArray = ls at hl ⊢
  have hl : lv_has ls 3 [(0, .ref (ad 318)), (1, .int a1), (2, .int a2)] := hl
  rw [f_X7_told] at h
  refine lv_aload_n hx hb dX7_told_0 rfl (lv_at hl 0 rfl) ?_
  refine lv_iconst (v := 0) hx hb dX7_told_1 (by decide) ?_
  refine vpI (v := 0) (ty := .int) hx hb hts hi7 tyX7 tyX7_ok nmX7 hown hK hP hap hS (318) (by decide) (show kd 318 = 7 by decide) (C := RX7) (T := TX7) (N := 79) rfl 0 (by decide) (by decide) (by decide) (by decide) (hts (.fieldLink RX7 201 "CrateHelpersModel" "thrown" "I") (by decide +kernel)) (fun _ h9 => h9) rfl (by decide +kernel) rfl rfl dX7_told_2 (fun H locs hP hS => ?_)
  obtain ⟨I1, eI1, h⟩ := bd_e h
  rw [← eI1] at hP
  have hP : va_P D vwCl (VW K ad I1 G A L) H := hP
  refine lv_aload_n hx hb dX7_told_5 rfl (lv_at hl 0 rfl) ?_
  refine lv_iload_n hx hb dX7_told_6 rfl (lv_at hl 1 rfl) ?_
  obtain ⟨r2, hc3, h⟩ := Option.bind_eq_some_iff.mp h
  refine ecV (As := [.int a1]) (rest := []) ⟨hx, hb, hml, hown, hts⟩ (e_X7_isProblem l D K ad hap0 a1 I1 G A L r2 hc3) (cwV 1 hts gX7_told_X7_isProblem rfl rfl rfl (by decide +kernel) ⟨Nat.le_of_ble_eq_true rfl, Nat.le_of_ble_eq_true rfl⟩) hK hP hS (by decide) (show kd 318 = 7 by decide) (by decide) rfl rfl rfl hl.1 (Nat.le_of_ble_eq_true rfl) (Nat.le_of_ble_eq_true rfl) (Nat.le_of_ble_eq_true rfl) dX7_told_7 (fun H locs hP hS => ?_) rfl
  have hP : va_P D vwCl (VW K ad I1 G A L) H := hP
  refine lv_if_eq (tgt := 22) hx hb dX7_told_10 (by decide) (fun c_4 => ?_) (fun c_4 => ?_)
  · have h := ip c_4 h
    refine lv_iconst (v := (-1)) hx hb dX7_told_22 (by decide) ?_
    exact W.iret (v := (-1)) hx hb hr (fun t9 ht9 hW9 => ⟨⟨(-1), (I1, G, A, L), rfl, by cases h; exact ⟨rfl, rfl⟩, by rw [ht9]; exact hP, va_K.moved hW9.alike hK⟩, hS.F ht9⟩) hS.2.2 dX7_told_23
  · have h := iN c_4 h
    refine lv_iload_n hx hb dX7_told_13 rfl (lv_at hl 2 rfl) ?_
    refine lv_iconst (v := 0) hx hb dX7_told_14 (by decide) ?_
    refine lv_iconst (v := 5) hx hb dX7_told_15 (by decide) ?_
    obtain ⟨r5, hc6, h⟩ := Option.bind_eq_some_iff.mp h
    refine ecS (As := [.int a2, .int 0, .int 5]) (rest := []) ⟨hx, hb, hml, hown, hts⟩ (e_X7_in l D K ad hap0 a2 0 5 I1 G A L r5 hc6) (va_cwS 3 hts gX7_told_X7_in rfl rfl rfl (by decide +kernel) ⟨Nat.le_of_ble_eq_true rfl, Nat.le_of_ble_eq_true rfl⟩) hK hP hS rfl hl.1 (Nat.le_of_ble_eq_true rfl) (Nat.le_of_ble_eq_true rfl) (Nat.le_of_ble_eq_true rfl) dX7_told_16 (fun H locs hP hS => ?_) rfl
    have hP : va_P D vwCl (VW K ad I1 G A L) H := hP
    refine lv_if_ne (tgt := 24) hx hb dX7_told_19 (by decide) (fun c_7 => ?_) (fun c_7 => ?_)
    · have h := iN c_7 h
      refine lv_aload_n hx hb dX7_told_24 rfl (lv_at hl 0 rfl) ?_
      refine vgC hx hb hts hi7 hown hK hP (318) (by decide) (show kd 318 = 7 by decide) (C := RX7) (T := TX7) (N := 79) rfl 45 (by decide) (by decide) (by decide) (by decide) (351) rfl (hts (.fieldLink RX7 114 "CrateHelpersModel" "isTold" "[Z") (by decide +kernel)) (fun _ h9 => h9) dX7_told_25 ?_
      refine lv_iload_n hx hb dX7_told_28 rfl (lv_at hl 1 rfl) ?_
      obtain ⟨hn8, h⟩ := gk h
      refine xzald hx hb hK hP (351) (by decide) (show kd 351 = 11 by decide) (by rw [show ln 351 = 5 by decide]; exact hn8) dX7_told_29 ?_
      refine lv_if_eq (tgt := 47) hx hb dX7_told_30 (by decide) (fun c_9 => ?_) (fun c_9 => ?_)
      · have h := ip c_9 h
        refine lv_bipush (v := (-9)) hx hb dX7_told_47 (by decide) ?_
        exact W.iret (v := (-9)) hx hb hr (fun t9 ht9 hW9 => ⟨⟨(-9), (I1, G, A, L), rfl, by cases h; exact ⟨rfl, rfl⟩, by rw [ht9]; exact hP, va_K.moved hW9.alike hK⟩, hS.F ht9⟩) hS.2.2 dX7_told_49
      · have h := iN c_9 h
        refine lv_aload_n hx hb dX7_told_33 rfl (lv_at hl 0 rfl) ?_
        refine vgC hx hb hts hi7 hown hK hP (318) (by decide) (show kd 318 = 7 by decide) (C := RX7) (T := TX7) (N := 79) rfl 44 (by decide) (by decide) (by decide) (by decide) (350) rfl (hts (.fieldLink RX7 111 "CrateHelpersModel" "toldAt" "[I") (by decide +kernel)) (fun _ h9 => h9) dX7_told_34 ?_
        refine lv_bipush (v := 6) hx hb dX7_told_37 (by decide) ?_
        refine lv_iload_n hx hb dX7_told_39 rfl (lv_at hl 1 rfl) ?_
        refine lv_imul hx hb dX7_told_40 ?_
        refine lv_iload_n hx hb dX7_told_41 rfl (lv_at hl 2 rfl) ?_
        refine lv_iadd hx hb dX7_told_42 ?_
        obtain ⟨hn10, h⟩ := gk h
        refine xiald hx hb hK hP (350) (by decide) (show kd 350 = 8 by decide) (by rw [show ln 350 = 30 by decide]; exact hn10) dX7_told_43 ?_
        refine lv_goto (tgt := 49) hx hb dX7_told_44 (by decide) ?_
        exact W.iret (v := (A 350 (((6 * a1) + a2).toNatClampNeg))) hx hb hr (fun t9 ht9 hW9 => ⟨⟨(A 350 (((6 * a1) + a2).toNatClampNeg)), (I1, G, A, L), rfl, by cases h; exact ⟨rfl, rfl⟩, by rw [ht9]; exact hP, va_K.moved hW9.alike hK⟩, hS.F ht9⟩) hS.2.2 dX7_told_49
    · have h := ip c_7 h
      refine lv_iconst (v := (-1)) hx hb dX7_told_22 (by decide) ?_
      exact W.iret (v := (-1)) hx hb hr (fun t9 ht9 hW9 => ⟨⟨(-1), (I1, G, A, L), rfl, by cases h; exact ⟨rfl, rfl⟩, by rw [ht9]; exact hP, va_K.moved hW9.alike hK⟩, hS.F ht9⟩) hS.2.2 dX7_told_23
set_option maxHeartbeats 4000000 in
set_option maxRecDepth 100000 in
theorem e_X7_turn (l : Launch) (D : va_G) (K : Nat → ClassId) (ad : Nat → Nat) (hap0 : apart ad (fun _ => True)) (a1 : Int32) (I : Nat → Nat → Int32) (G : Nat → Nat → Nat) (A : Nat → Nat → Int32) (L : Nat → Nat → Int64) (r0 : Int32) (I0 : Nat → Nat → Int32) (A0 : Nat → Nat → Int32) (h : f_X7_turn I A a1 = some (r0, I0, A0)) : Ci l D K ad yX7_turn wsX7_turn 1 25 [.ref (ad 318), .int a1] (I, G, A, L) (fun (r : Int32) (u : Mem) => r = r0 ∧ u = (I0, G, A0, L)) := by
  intro sz
  refine Met.ofW (cc := cX7_turn) (maxL := 2) (ret := (some .int)) (by decide) rfl ?_
  intro p e s m args below meth c s₁ Bd hml hv0
  obtain ⟨rfl, hsz, hP, hK⟩ := hv0
  have hx := Bd.exec
  have hb := Bd.bytes
  have hr := Bd.returns
  have hts := atoms_spec (ws := wsX7_turn) Bd.pre
  have hown : s.vm.findClass RX7 = some m.cls := findClass_of_methodNamed Bd.named
  have hlocks := Bd.notSynchronized
  have hi7 : ∀ w ∈ u_ws RX7 TX7 79, w ∈ wsX7_turn := fun w h => List.mem_cons_of_mem _ (List.mem_append_right _ h)
  subst hsz
  have hap := vF_ap hap0 s.heap.size
  have hS : va_S (vF ad s.heap.size) s.heap s.heap [] := va_S.rf
  have hP : va_P D vwCl (VW K ad I G A L) s.heap := hP
  have hl := lv_entry ([.ref (ad 318), .int a1]) (n := 2) (Nat.le_of_ble_eq_true rfl)
  rw [lg_entry_eq]
  generalize (lg_sl ([.ref (ad 318), .int a1]) ++ List.replicate (2 - (lg_sl ([.ref (ad 318), .int a1])).length) Slot.unset).toArray = ls at hl ⊢
  have hl : lv_has ls 2 [(0, .ref (ad 318)), (1, .int a1)] := hl
  rw [f_X7_turn] at h
  refine lv_aload_n hx hb dX7_turn_0 rfl (lv_at hl 0 rfl) ?_
  refine lv_iconst (v := 0) hx hb dX7_turn_1 (by decide) ?_
  refine vpI (v := 0) (ty := .int) hx hb hts hi7 tyX7 tyX7_ok nmX7 hown hK hP hap hS (318) (by decide) (show kd 318 = 7 by decide) (C := RX7) (T := TX7) (N := 79) rfl 0 (by decide) (by decide) (by decide) (by decide) (hts (.fieldLink RX7 201 "CrateHelpersModel" "thrown" "I") (by decide +kernel)) (fun _ h9 => h9) rfl (by decide +kernel) rfl rfl dX7_turn_2 (fun H locs hP hS => ?_)
  obtain ⟨I1, eI1, h⟩ := bd_e h
  rw [← eI1] at hP
  have hP : va_P D vwCl (VW K ad I1 G A L) H := hP
  refine lv_iload_n hx hb dX7_turn_5 rfl (lv_at hl 1 rfl) ?_
  refine lv_iconst (v := 0) hx hb dX7_turn_6 (by decide) ?_
  refine lv_iconst (v := 4) hx hb dX7_turn_7 (by decide) ?_
  obtain ⟨r2, hc3, h⟩ := Option.bind_eq_some_iff.mp h
  refine ecS (As := [.int a1, .int 0, .int 4]) (rest := []) ⟨hx, hb, hml, hown, hts⟩ (e_X7_in l D K ad hap0 a1 0 4 I1 G A L r2 hc3) (va_cwS 3 hts gX7_turn_X7_in rfl rfl rfl (by decide +kernel) ⟨Nat.le_of_ble_eq_true rfl, Nat.le_of_ble_eq_true rfl⟩) hK hP hS rfl hl.1 (Nat.le_of_ble_eq_true rfl) (Nat.le_of_ble_eq_true rfl) (Nat.le_of_ble_eq_true rfl) dX7_turn_8 (fun H locs hP hS => ?_) rfl
  have hP : va_P D vwCl (VW K ad I1 G A L) H := hP
  refine lv_if_ne (tgt := 16) hx hb dX7_turn_11 (by decide) (fun c_4 => ?_) (fun c_4 => ?_)
  · have h := iN c_4 h
    refine lv_aload_n hx hb dX7_turn_16 rfl (lv_at hl 0 rfl) ?_
    refine vgI hx hb hts hi7 hown hK hP (318) (by decide) (show kd 318 = 7 by decide) (C := RX7) (T := TX7) (N := 79) rfl 23 (by decide) (by decide) (by decide) (by decide) (hts (.fieldLink RX7 62 "CrateHelpersModel" "under" "I") (by decide +kernel)) (fun _ h9 => h9) dX7_turn_17 ?_
    refine lv_bipush (v := (-9)) hx hb dX7_turn_20 (by decide) ?_
    refine lv_icmp_eq (tgt := 28) hx hb dX7_turn_22 (by decide) (fun c_5 => ?_) (fun c_5 => ?_)
    · have h := ip c_5 h
      refine lv_aload_n hx hb dX7_turn_28 rfl (lv_at hl 0 rfl) ?_
      refine vgI hx hb hts hi7 hown hK hP (318) (by decide) (show kd 318 = 7 by decide) (C := RX7) (T := TX7) (N := 79) rfl 18 (by decide) (by decide) (by decide) (by decide) (hts (.fieldLink RX7 243 "CrateHelpersModel" "scheduled" "I") (by decide +kernel)) (fun _ h9 => h9) dX7_turn_29 ?_
      refine lv_sipush (v := 200) hx hb dX7_turn_32 (by decide) ?_
      refine lv_icmp_ne (tgt := 41) hx hb dX7_turn_35 (by decide) (fun c_6 => ?_) (fun c_6 => ?_)
      · have h := iN c_6 h
        refine lv_aload_n hx hb dX7_turn_41 rfl (lv_at hl 0 rfl) ?_
        refine vgC hx hb hts hi7 hown hK hP (318) (by decide) (show kd 318 = 7 by decide) (C := RX7) (T := TX7) (N := 79) rfl 17 (by decide) (by decide) (by decide) (by decide) (331) rfl (hts (.fieldLink RX7 50 "CrateHelpersModel" "schedule" "[I") (by decide +kernel)) (fun _ h9 => h9) dX7_turn_42 ?_
        refine lv_aload_n hx hb dX7_turn_45 rfl (lv_at hl 0 rfl) ?_
        refine vgI hx hb hts hi7 hown hK hP (318) (by decide) (show kd 318 = 7 by decide) (C := RX7) (T := TX7) (N := 79) rfl 18 (by decide) (by decide) (by decide) (by decide) (hts (.fieldLink RX7 243 "CrateHelpersModel" "scheduled" "I") (by decide +kernel)) (fun _ h9 => h9) dX7_turn_46 ?_
        refine lv_iload_n hx hb dX7_turn_49 rfl (lv_at hl 1 rfl) ?_
        obtain ⟨hn7, h⟩ := gk h
        refine xiast hx hb hK hP hap hS (331) (by decide) (show kd 331 = 8 by decide) (by rw [show ln 331 = 200 by decide]; exact hn7) dX7_turn_50 (fun H locs hP hS => ?_)
        obtain ⟨A8, eA8, h⟩ := bd_e h
        rw [← eA8] at hP
        have hP : va_P D vwCl (VW K ad I1 G A8 L) H := hP
        refine lv_aload_n hx hb dX7_turn_51 rfl (lv_at hl 0 rfl) ?_
        refine lv_dup hx hb dX7_turn_52 rfl ?_
        refine vgI hx hb hts hi7 hown hK hP (318) (by decide) (show kd 318 = 7 by decide) (C := RX7) (T := TX7) (N := 79) rfl 18 (by decide) (by decide) (by decide) (by decide) (hts (.fieldLink RX7 243 "CrateHelpersModel" "scheduled" "I") (by decide +kernel)) (fun _ h9 => h9) dX7_turn_53 ?_
        refine lv_iconst (v := 1) hx hb dX7_turn_56 (by decide) ?_
        refine lv_iadd hx hb dX7_turn_57 ?_
        refine vpI (v := ((I1 318 18) + 1)) (ty := .int) hx hb hts hi7 tyX7 tyX7_ok nmX7 hown hK hP hap hS (318) (by decide) (show kd 318 = 7 by decide) (C := RX7) (T := TX7) (N := 79) rfl 18 (by decide) (by decide) (by decide) (by decide) (hts (.fieldLink RX7 243 "CrateHelpersModel" "scheduled" "I") (by decide +kernel)) (fun _ h9 => h9) rfl (by decide +kernel) rfl rfl dX7_turn_58 (fun H locs hP hS => ?_)
        obtain ⟨I9, eI9, h⟩ := bd_e h
        rw [← eI9] at hP
        have hP : va_P D vwCl (VW K ad I9 G A8 L) H := hP
        refine lv_aload_n hx hb dX7_turn_61 rfl (lv_at hl 0 rfl) ?_
        refine vgI hx hb hts hi7 hown hK hP (318) (by decide) (show kd 318 = 7 by decide) (C := RX7) (T := TX7) (N := 79) rfl 18 (by decide) (by decide) (by decide) (by decide) (hts (.fieldLink RX7 243 "CrateHelpersModel" "scheduled" "I") (by decide +kernel)) (fun _ h9 => h9) dX7_turn_62 ?_
        exact W.iret (v := (I9 318 18)) hx hb hr (fun t9 ht9 hW9 => ⟨⟨(I9 318 18), (I9, G, A8, L), rfl, by cases h; exact ⟨rfl, rfl⟩, by rw [ht9]; exact hP, va_K.moved hW9.alike hK⟩, hS.F ht9⟩) hS.2.2 dX7_turn_65
      · have h := ip c_6 h
        refine lv_bipush (v := (-3)) hx hb dX7_turn_38 (by decide) ?_
        exact W.iret (v := (-3)) hx hb hr (fun t9 ht9 hW9 => ⟨⟨(-3), (I1, G, A, L), rfl, by cases h; exact ⟨rfl, rfl⟩, by rw [ht9]; exact hP, va_K.moved hW9.alike hK⟩, hS.F ht9⟩) hS.2.2 dX7_turn_40
    · have h := iN c_5 h
      refine lv_bipush (v := (-2)) hx hb dX7_turn_25 (by decide) ?_
      exact W.iret (v := (-2)) hx hb hr (fun t9 ht9 hW9 => ⟨⟨(-2), (I1, G, A, L), rfl, by cases h; exact ⟨rfl, rfl⟩, by rw [ht9]; exact hP, va_K.moved hW9.alike hK⟩, hS.F ht9⟩) hS.2.2 dX7_turn_27
  · have h := ip c_4 h
    refine lv_iconst (v := (-1)) hx hb dX7_turn_14 (by decide) ?_
    exact W.iret (v := (-1)) hx hb hr (fun t9 ht9 hW9 => ⟨⟨(-1), (I1, G, A, L), rfl, by cases h; exact ⟨rfl, rfl⟩, by rw [ht9]; exact hP, va_K.moved hW9.alike hK⟩, hS.F ht9⟩) hS.2.2 dX7_turn_15
set_option maxHeartbeats 4000000 in
set_option maxRecDepth 100000 in
theorem e_X7_variable (l : Launch) (D : va_G) (K : Nat → ClassId) (ad : Nat → Nat) (hap0 : apart ad (fun _ => True)) (a1 : Int32) (a2 : Int32) (a3 : Int32) (I : Nat → Nat → Int32) (G : Nat → Nat → Nat) (A : Nat → Nat → Int32) (L : Nat → Nat → Int64) (r0 : Int32) (I0 : Nat → Nat → Int32) (A0 : Nat → Nat → Int32) (h : f_X7_variable I A a1 a2 a3 = some (r0, I0, A0)) : Ci l D K ad yX7_variable wsX7_variable 2 49 [.ref (ad 318), .int a1, .int a2, .int a3] (I, G, A, L) (fun (r : Int32) (u : Mem) => r = r0 ∧ u = (I0, G, A0, L)) := by
  intro sz
  refine Met.ofW (cc := cX7_variable) (maxL := 5) (ret := (some .int)) (by decide) rfl ?_
  intro p e s m args below meth c s₁ Bd hml hv0
  obtain ⟨rfl, hsz, hP, hK⟩ := hv0
  have hx := Bd.exec
  have hb := Bd.bytes
  have hr := Bd.returns
  have hts := atoms_spec (ws := wsX7_variable) Bd.pre
  have hown : s.vm.findClass RX7 = some m.cls := findClass_of_methodNamed Bd.named
  have hlocks := Bd.notSynchronized
  have hi7 : ∀ w ∈ u_ws RX7 TX7 79, w ∈ wsX7_variable := fun w h => List.mem_cons_of_mem _ (List.mem_append_right _ h)
  subst hsz
  have hap := vF_ap hap0 s.heap.size
  have hS : va_S (vF ad s.heap.size) s.heap s.heap [] := va_S.rf
  have hP : va_P D vwCl (VW K ad I G A L) s.heap := hP
  have hl := lv_entry ([.ref (ad 318), .int a1, .int a2, .int a3]) (n := 5) (Nat.le_of_ble_eq_true rfl)
  rw [lg_entry_eq]
  generalize (lg_sl ([.ref (ad 318), .int a1, .int a2, .int a3]) ++ List.replicate (5 - (lg_sl ([.ref (ad 318), .int a1, .int a2, .int a3])).length) Slot.unset).toArray = ls at hl ⊢
  have hl : lv_has ls 5 [(0, .ref (ad 318)), (1, .int a1), (2, .int a2), (3, .int a3)] := hl
  rw [f_X7_variable] at h
  refine lv_aload_n hx hb dX7_variable_0 rfl (lv_at hl 0 rfl) ?_
  refine lv_iconst (v := 0) hx hb dX7_variable_1 (by decide) ?_
  refine vpI (v := 0) (ty := .int) hx hb hts hi7 tyX7 tyX7_ok nmX7 hown hK hP hap hS (318) (by decide) (show kd 318 = 7 by decide) (C := RX7) (T := TX7) (N := 79) rfl 0 (by decide) (by decide) (by decide) (by decide) (hts (.fieldLink RX7 201 "CrateHelpersModel" "thrown" "I") (by decide +kernel)) (fun _ h9 => h9) rfl (by decide +kernel) rfl rfl dX7_variable_2 (fun H locs hP hS => ?_)
  obtain ⟨I1, eI1, h⟩ := bd_e h
  rw [← eI1] at hP
  have hP : va_P D vwCl (VW K ad I1 G A L) H := hP
  refine lv_aload_n hx hb dX7_variable_5 rfl (lv_at hl 0 rfl) ?_
  refine lv_iload_n hx hb dX7_variable_6 rfl (lv_at hl 1 rfl) ?_
  obtain ⟨r2, hc3, h⟩ := Option.bind_eq_some_iff.mp h
  refine ecV (As := [.int a1]) (rest := []) ⟨hx, hb, hml, hown, hts⟩ (e_X7_isProblem l D K ad hap0 a1 I1 G A L r2 hc3) (cwV 1 hts gX7_variable_X7_isProblem rfl rfl rfl (by decide +kernel) ⟨Nat.le_of_ble_eq_true rfl, Nat.le_of_ble_eq_true rfl⟩) hK hP hS (by decide) (show kd 318 = 7 by decide) (by decide) rfl rfl rfl hl.1 (Nat.le_of_ble_eq_true rfl) (Nat.le_of_ble_eq_true rfl) (Nat.le_of_ble_eq_true rfl) dX7_variable_7 (fun H locs hP hS => ?_) rfl
  have hP : va_P D vwCl (VW K ad I1 G A L) H := hP
  refine lv_if_eq (tgt := 32) hx hb dX7_variable_10 (by decide) (fun c_4 => ?_) (fun c_4 => ?_)
  · have h := ip c_4 h
    refine lv_iconst (v := (-1)) hx hb dX7_variable_32 (by decide) ?_
    exact W.iret (v := (-1)) hx hb hr (fun t9 ht9 hW9 => ⟨⟨(-1), (I1, G, A, L), rfl, by cases h; exact ⟨rfl, rfl⟩, by rw [ht9]; exact hP, va_K.moved hW9.alike hK⟩, hS.F ht9⟩) hS.2.2 dX7_variable_33
  · have h := iN c_4 h
    refine lv_iload_n hx hb dX7_variable_13 rfl (lv_at hl 2 rfl) ?_
    refine lv_iconst (v := 1) hx hb dX7_variable_14 (by decide) ?_
    refine lv_bipush (v := 6) hx hb dX7_variable_15 (by decide) ?_
    obtain ⟨r5, hc6, h⟩ := Option.bind_eq_some_iff.mp h
    refine ecS (As := [.int a2, .int 1, .int 6]) (rest := []) ⟨hx, hb, hml, hown, hts⟩ (e_X7_in l D K ad hap0 a2 1 6 I1 G A L r5 hc6) (va_cwS 3 hts gX7_variable_X7_in rfl rfl rfl (by decide +kernel) ⟨Nat.le_of_ble_eq_true rfl, Nat.le_of_ble_eq_true rfl⟩) hK hP hS rfl hl.1 (Nat.le_of_ble_eq_true rfl) (Nat.le_of_ble_eq_true rfl) (Nat.le_of_ble_eq_true rfl) dX7_variable_17 (fun H locs hP hS => ?_) rfl
    have hP : va_P D vwCl (VW K ad I1 G A L) H := hP
    refine lv_if_eq (tgt := 32) hx hb dX7_variable_20 (by decide) (fun c_7 => ?_) (fun c_7 => ?_)
    · have h := ip c_7 h
      refine lv_iconst (v := (-1)) hx hb dX7_variable_32 (by decide) ?_
      exact W.iret (v := (-1)) hx hb hr (fun t9 ht9 hW9 => ⟨⟨(-1), (I1, G, A, L), rfl, by cases h; exact ⟨rfl, rfl⟩, by rw [ht9]; exact hP, va_K.moved hW9.alike hK⟩, hS.F ht9⟩) hS.2.2 dX7_variable_33
    · have h := iN c_7 h
      refine lv_iload_n hx hb dX7_variable_23 rfl (lv_at hl 3 rfl) ?_
      refine lv_iconst (v := 0) hx hb dX7_variable_24 (by decide) ?_
      refine lv_iconst (v := 3) hx hb dX7_variable_25 (by decide) ?_
      obtain ⟨r8, hc9, h⟩ := Option.bind_eq_some_iff.mp h
      refine ecS (As := [.int a3, .int 0, .int 3]) (rest := []) ⟨hx, hb, hml, hown, hts⟩ (e_X7_in l D K ad hap0 a3 0 3 I1 G A L r8 hc9) (va_cwS 3 hts gX7_variable_X7_in rfl rfl rfl (by decide +kernel) ⟨Nat.le_of_ble_eq_true rfl, Nat.le_of_ble_eq_true rfl⟩) hK hP hS rfl hl.1 (Nat.le_of_ble_eq_true rfl) (Nat.le_of_ble_eq_true rfl) (Nat.le_of_ble_eq_true rfl) dX7_variable_26 (fun H locs hP hS => ?_) rfl
      have hP : va_P D vwCl (VW K ad I1 G A L) H := hP
      refine lv_if_ne (tgt := 34) hx hb dX7_variable_29 (by decide) (fun c_10 => ?_) (fun c_10 => ?_)
      · have h := iN c_10 h
        refine lv_aload_n hx hb dX7_variable_34 rfl (lv_at hl 0 rfl) ?_
        refine vgI hx hb hts hi7 hown hK hP (318) (by decide) (show kd 318 = 7 by decide) (C := RX7) (T := TX7) (N := 79) rfl 23 (by decide) (by decide) (by decide) (by decide) (hts (.fieldLink RX7 62 "CrateHelpersModel" "under" "I") (by decide +kernel)) (fun _ h9 => h9) dX7_variable_35 ?_
        refine lv_bipush (v := (-9)) hx hb dX7_variable_38 (by decide) ?_
        refine lv_icmp_eq (tgt := 46) hx hb dX7_variable_40 (by decide) (fun c_11 => ?_) (fun c_11 => ?_)
        · have h := ip c_11 h
          refine lv_aload_n hx hb dX7_variable_46 rfl (lv_at hl 0 rfl) ?_
          refine vgC hx hb hts hi7 hown hK hP (318) (by decide) (show kd 318 = 7 by decide) (C := RX7) (T := TX7) (N := 79) rfl 3 (by decide) (by decide) (by decide) (by decide) (319) rfl (hts (.fieldLink RX7 7 "CrateHelpersModel" "variables" "[I") (by decide +kernel)) (fun _ h9 => h9) dX7_variable_47 ?_
          refine lv_iload_n hx hb dX7_variable_50 rfl (lv_at hl 1 rfl) ?_
          obtain ⟨hn12, h⟩ := gk h
          refine xiald hx hb hK hP (319) (by decide) (show kd 319 = 8 by decide) (by rw [show ln 319 = 5 by decide]; exact hn12) dX7_variable_51 ?_
          refine lv_bipush (v := 6) hx hb dX7_variable_52 (by decide) ?_
          refine lv_icmp_ne (tgt := 60) hx hb dX7_variable_54 (by decide) (fun c_13 => ?_) (fun c_13 => ?_)
          · have h := iN c_13 h
            refine lv_aload_n hx hb dX7_variable_60 rfl (lv_at hl 0 rfl) ?_
            refine vgC hx hb hts hi7 hown hK hP (318) (by decide) (show kd 318 = 7 by decide) (C := RX7) (T := TX7) (N := 79) rfl 3 (by decide) (by decide) (by decide) (by decide) (319) rfl (hts (.fieldLink RX7 7 "CrateHelpersModel" "variables" "[I") (by decide +kernel)) (fun _ h9 => h9) dX7_variable_61 ?_
            refine lv_iload_n hx hb dX7_variable_64 rfl (lv_at hl 1 rfl) ?_
            refine xiald hx hb hK hP (319) (by decide) (show kd 319 = 8 by decide) (by rw [show ln 319 = 5 by decide]; exact hn12) dX7_variable_65 ?_
            refine lv_istore (lv' := [(4, .int (A 319 a1.toNatClampNeg)), (0, .ref (ad 318)), (1, .int a1), (2, .int a2), (3, .int a3)]) hx hb dX7_variable_66 hl (by decide) rfl (fun ls hl => ?_)
            refine lv_aload_n hx hb dX7_variable_68 rfl (lv_at hl 1 rfl) ?_
            refine vgC hx hb hts hi7 hown hK hP (318) (by decide) (show kd 318 = 7 by decide) (C := RX7) (T := TX7) (N := 79) rfl 5 (by decide) (by decide) (by decide) (by decide) (321) rfl (hts (.fieldLink RX7 16 "CrateHelpersModel" "values" "[I") (by decide +kernel)) (fun _ h9 => h9) dX7_variable_69 ?_
            refine lv_bipush (v := 6) hx hb dX7_variable_72 (by decide) ?_
            refine lv_iload_n hx hb dX7_variable_74 rfl (lv_at hl 2 rfl) ?_
            refine lv_imul hx hb dX7_variable_75 ?_
            refine lv_iload hx hb dX7_variable_76 (lv_at hl 0 rfl) ?_
            refine lv_iadd hx hb dX7_variable_78 ?_
            refine lv_iload_n hx hb dX7_variable_79 rfl (lv_at hl 3 rfl) ?_
            obtain ⟨hn14, h⟩ := gk h
            refine xiast hx hb hK hP hap hS (321) (by decide) (show kd 321 = 8 by decide) (by rw [show ln 321 = 30 by decide]; exact hn14) dX7_variable_80 (fun H locs hP hS => ?_)
            obtain ⟨A15, eA15, h⟩ := bd_e h
            rw [← eA15] at hP
            have hP : va_P D vwCl (VW K ad I1 G A15 L) H := hP
            refine lv_aload_n hx hb dX7_variable_81 rfl (lv_at hl 1 rfl) ?_
            refine vgC hx hb hts hi7 hown hK hP (318) (by decide) (show kd 318 = 7 by decide) (C := RX7) (T := TX7) (N := 79) rfl 6 (by decide) (by decide) (by decide) (by decide) (322) rfl (hts (.fieldLink RX7 19 "CrateHelpersModel" "kinds" "[I") (by decide +kernel)) (fun _ h9 => h9) dX7_variable_82 ?_
            refine lv_bipush (v := 6) hx hb dX7_variable_85 (by decide) ?_
            refine lv_iload_n hx hb dX7_variable_87 rfl (lv_at hl 2 rfl) ?_
            refine lv_imul hx hb dX7_variable_88 ?_
            refine lv_iload hx hb dX7_variable_89 (lv_at hl 0 rfl) ?_
            refine lv_iadd hx hb dX7_variable_91 ?_
            refine lv_iload_n hx hb dX7_variable_92 rfl (lv_at hl 4 rfl) ?_
            refine xiast hx hb hK hP hap hS (322) (by decide) (show kd 322 = 8 by decide) (by rw [show ln 322 = 30 by decide]; exact hn14) dX7_variable_93 (fun H locs hP hS => ?_)
            obtain ⟨A16, eA16, h⟩ := bd_e h
            rw [← eA16] at hP
            have hP : va_P D vwCl (VW K ad I1 G A16 L) H := hP
            refine lv_aload_n hx hb dX7_variable_94 rfl (lv_at hl 1 rfl) ?_
            refine vgC hx hb hts hi7 hown hK hP (318) (by decide) (show kd 318 = 7 by decide) (C := RX7) (T := TX7) (N := 79) rfl 3 (by decide) (by decide) (by decide) (by decide) (319) rfl (hts (.fieldLink RX7 7 "CrateHelpersModel" "variables" "[I") (by decide +kernel)) (fun _ h9 => h9) dX7_variable_95 ?_
            refine lv_iload_n hx hb dX7_variable_98 rfl (lv_at hl 2 rfl) ?_
            refine lv_dup2_11 hx hb dX7_variable_99 rfl rfl ?_
            refine xiald hx hb hK hP (319) (by decide) (show kd 319 = 8 by decide) (by rw [show ln 319 = 5 by decide]; exact hn12) dX7_variable_100 ?_
            refine lv_iconst (v := 1) hx hb dX7_variable_101 (by decide) ?_
            refine lv_iadd hx hb dX7_variable_102 ?_
            refine xiast hx hb hK hP hap hS (319) (by decide) (show kd 319 = 8 by decide) (by rw [show ln 319 = 5 by decide]; exact hn12) dX7_variable_103 (fun H locs hP hS => ?_)
            obtain ⟨A17, eA17, h⟩ := bd_e h
            rw [← eA17] at hP
            have hP : va_P D vwCl (VW K ad I1 G A17 L) H := hP
            refine lv_aload_n hx hb dX7_variable_104 rfl (lv_at hl 1 rfl) ?_
            refine lv_iload_n hx hb dX7_variable_105 rfl (lv_at hl 2 rfl) ?_
            obtain ⟨⟨I18, A19⟩, hc20, h⟩ := Option.bind_eq_some_iff.mp h
            refine ecVv (As := [.int a1]) (rest := []) ⟨hx, hb, hml, hown, hts⟩ (e_X7_changes l D K ad hap0 a1 I1 G A17 L I18 A19 hc20) (cwV 1 hts gX7_variable_X7_changes rfl rfl rfl (by decide +kernel) ⟨Nat.le_of_ble_eq_true rfl, Nat.le_of_ble_eq_true rfl⟩) hK hP hS (by decide) (show kd 318 = 7 by decide) (by decide) rfl rfl rfl hl.1 (Nat.le_of_ble_eq_true rfl) (Nat.le_of_ble_eq_true rfl) (Nat.le_of_ble_eq_true rfl) dX7_variable_106 (fun H locs hP hS => ?_) rfl
            have hP : va_P D vwCl (VW K ad I18 G A19 L) H := hP
            refine lv_iload hx hb dX7_variable_109 (lv_at hl 0 rfl) ?_
            exact W.iret (v := (A 319 a1.toNatClampNeg)) hx hb hr (fun t9 ht9 hW9 => ⟨⟨(A 319 a1.toNatClampNeg), (I18, G, A19, L), rfl, by cases h; exact ⟨rfl, rfl⟩, by rw [ht9]; exact hP, va_K.moved hW9.alike hK⟩, hS.F ht9⟩) hS.2.2 dX7_variable_111
          · have h := ip c_13 h
            refine lv_bipush (v := (-3)) hx hb dX7_variable_57 (by decide) ?_
            exact W.iret (v := (-3)) hx hb hr (fun t9 ht9 hW9 => ⟨⟨(-3), (I1, G, A, L), rfl, by cases h; exact ⟨rfl, rfl⟩, by rw [ht9]; exact hP, va_K.moved hW9.alike hK⟩, hS.F ht9⟩) hS.2.2 dX7_variable_59
        · have h := iN c_11 h
          refine lv_bipush (v := (-2)) hx hb dX7_variable_43 (by decide) ?_
          exact W.iret (v := (-2)) hx hb hr (fun t9 ht9 hW9 => ⟨⟨(-2), (I1, G, A, L), rfl, by cases h; exact ⟨rfl, rfl⟩, by rw [ht9]; exact hP, va_K.moved hW9.alike hK⟩, hS.F ht9⟩) hS.2.2 dX7_variable_45
      · have h := ip c_10 h
        refine lv_iconst (v := (-1)) hx hb dX7_variable_32 (by decide) ?_
        exact W.iret (v := (-1)) hx hb hr (fun t9 ht9 hW9 => ⟨⟨(-1), (I1, G, A, L), rfl, by cases h; exact ⟨rfl, rfl⟩, by rw [ht9]; exact hP, va_K.moved hW9.alike hK⟩, hS.F ht9⟩) hS.2.2 dX7_variable_33
