set_option maxHeartbeats 4000000 in
set_option maxRecDepth 100000 in
theorem e_X7_walks (l : Launch) (D : va_G) (K : Nat → ClassId) (ad : Nat → Nat) (hap0 : apart ad (fun _ => True)) (a1 : Int32) (I : Nat → Nat → Int32) (G : Nat → Nat → Nat) (A : Nat → Nat → Int32) (L : Nat → Nat → Int64) (r0 : Int32) (I0 : Nat → Nat → Int32) (A0 : Nat → Nat → Int32) (h : f_X7_walks I A a1 = some (r0, I0, A0)) : Ci l D K ad yX7_walks wsX7_walks 2 51 [.ref (ad 318), .int a1] (I, G, A, L) (fun (r : Int32) (u : Mem) => r = r0 ∧ u = (I0, G, A0, L)) := by
  intro sz
  refine Met.ofW (cc := cX7_walks) (maxL := 3) (ret := (some .int)) (by decide) rfl ?_
  intro p e s m args below meth c s₁ Bd hml hv0
  obtain ⟨rfl, hsz, hP, hK⟩ := hv0
  have hx := Bd.exec
  have hb := Bd.bytes
  have hr := Bd.returns
  have hts := atoms_spec (ws := wsX7_walks) Bd.pre
  have hown : s.vm.findClass RX7 = some m.cls := findClass_of_methodNamed Bd.named
  have hlocks := Bd.notSynchronized
  have hi7 : ∀ w ∈ u_ws RX7 TX7 79, w ∈ wsX7_walks := fun w h => List.mem_cons_of_mem _ (List.mem_append_right _ h)
  subst hsz
  have hap := vF_ap hap0 s.heap.size
  have hS : va_S (vF ad s.heap.size) s.heap s.heap [] := va_S.rf
  have hP : va_P D vwCl (VW K ad I G A L) s.heap := hP
  have hl := lv_entry ([.ref (ad 318), .int a1]) (n := 3) (Nat.le_of_ble_eq_true rfl)
  rw [lg_entry_eq]
  generalize (lg_sl ([.ref (ad 318), .int a1]) ++ List.replicate (3 - (lg_sl ([.ref (ad 318), .int a1])).length) Slot.unset).toArray = ls at hl ⊢
  have hl : lv_has ls 3 [(0, .ref (ad 318)), (1, .int a1)] := hl
  rw [f_X7_walks] at h
  refine lv_aload_n hx hb dX7_walks_0 rfl (lv_at hl 0 rfl) ?_
  obtain ⟨r1, hc2, h⟩ := Option.bind_eq_some_iff.mp h
  refine ecV (As := []) (rest := []) ⟨hx, hb, hml, hown, hts⟩ (e_X7_nextOf l D K ad hap0  I G A L r1 hc2) (cwV 0 hts gX7_walks_X7_nextOf rfl rfl rfl (by decide +kernel) ⟨Nat.le_of_ble_eq_true rfl, Nat.le_of_ble_eq_true rfl⟩) hK hP hS (by decide) (show kd 318 = 7 by decide) (by decide) rfl rfl rfl hl.1 (Nat.le_of_ble_eq_true rfl) (Nat.le_of_ble_eq_true rfl) (Nat.le_of_ble_eq_true rfl) dX7_walks_1 (fun H locs hP hS => ?_) rfl
  have hP : va_P D vwCl (VW K ad I G A L) H := hP
  refine lv_istore_n (lv' := [(2, .int r1), (0, .ref (ad 318)), (1, .int a1)]) hx hb dX7_walks_4 rfl hl (by decide) rfl (fun ls hl => ?_)
  obtain ⟨k7, ek7, h⟩ := bd_e h
  have kk7 : ∀ (I8 : Nat → Nat → Int32) (A9 : Nat → Nat → Int32), k7 I8 A9 = some (r0, I0, A0) → ∀ (H : Heap) (locs : List Loc), va_P D vwCl (VW K ad I8 G A9 L) H → va_S (vF ad s.heap.size) s.heap H locs → ∀ (ls : Array Slot), lv_has ls 3 [] → W p l e ({ frames := 2, cells := 0, slots := 0, locals := 51 }) s m ([.ref (ad 318), .int a1] : List Value).toArray below meth c H locs 0 0 (MQ below (va_Qi (fun (r : Int32) (u : Mem) => r = r0 ∧ u = (I0, G, A0, L)) (vB D K ad) (vF ad s.heap.size)) ([.ref (ad 318), .int a1] : List Value).toArray s 0 0 (vF ad s.heap.size)) (F0 m 40 ls []) := by
    intro I8 A9 h H locs hP hS ls hl
    subst ek7
    refine lv_iconst (v := 1) hx hb dX7_walks_40 (by decide) ?_
    exact W.iret (v := 1) hx hb hr (fun t9 ht9 hW9 => ⟨⟨1, (I8, G, A9, L), rfl, by cases h; exact ⟨rfl, rfl⟩, by rw [ht9]; exact hP, va_K.moved hW9.alike hK⟩, hS.F ht9⟩) hS.2.2 dX7_walks_41
  obtain ⟨k10, ek10, h⟩ := bd_e h
  have kk10 : ∀ (I11 : Nat → Nat → Int32) (A12 : Nat → Nat → Int32), k10 I11 A12 = some (r0, I0, A0) → ∀ (H : Heap) (locs : List Loc), va_P D vwCl (VW K ad I11 G A12 L) H → va_S (vF ad s.heap.size) s.heap H locs → ∀ (ls : Array Slot), lv_has ls 3 [] → W p l e ({ frames := 2, cells := 0, slots := 0, locals := 51 }) s m ([.ref (ad 318), .int a1] : List Value).toArray below meth c H locs 0 0 (MQ below (va_Qi (fun (r : Int32) (u : Mem) => r = r0 ∧ u = (I0, G, A0, L)) (vB D K ad) (vF ad s.heap.size)) ([.ref (ad 318), .int a1] : List Value).toArray s 0 0 (vF ad s.heap.size)) (F0 m 52 ls []) := by
    intro I11 A12 h H locs hP hS ls hl
    subst ek10
    refine lv_iconst (v := 4) hx hb dX7_walks_52 (by decide) ?_
    exact W.iret (v := 4) hx hb hr (fun t9 ht9 hW9 => ⟨⟨4, (I11, G, A12, L), rfl, by cases h; exact ⟨rfl, rfl⟩, by rw [ht9]; exact hP, va_K.moved hW9.alike hK⟩, hS.F ht9⟩) hS.2.2 dX7_walks_53
  obtain ⟨k13, ek13, h⟩ := bd_e h
  have kk13 : ∀ (I14 : Nat → Nat → Int32) (A15 : Nat → Nat → Int32), k13 I14 A15 = some (r0, I0, A0) → ∀ (H : Heap) (locs : List Loc), va_P D vwCl (VW K ad I14 G A15 L) H → va_S (vF ad s.heap.size) s.heap H locs → ∀ (ls : Array Slot), lv_has ls 3 [] → W p l e ({ frames := 2, cells := 0, slots := 0, locals := 51 }) s m ([.ref (ad 318), .int a1] : List Value).toArray below meth c H locs 0 0 (MQ below (va_Qi (fun (r : Int32) (u : Mem) => r = r0 ∧ u = (I0, G, A0, L)) (vB D K ad) (vF ad s.heap.size)) ([.ref (ad 318), .int a1] : List Value).toArray s 0 0 (vF ad s.heap.size)) (F0 m 65 ls []) := by
    intro I14 A15 h H locs hP hS ls hl
    subst ek13
    refine lv_iconst (v := 3) hx hb dX7_walks_65 (by decide) ?_
    exact W.iret (v := 3) hx hb hr (fun t9 ht9 hW9 => ⟨⟨3, (I14, G, A15, L), rfl, by cases h; exact ⟨rfl, rfl⟩, by rw [ht9]; exact hP, va_K.moved hW9.alike hK⟩, hS.F ht9⟩) hS.2.2 dX7_walks_66
  obtain ⟨k16, ek16, h⟩ := bd_e h
  have kk16 : ∀ (v17 : Int32) (I18 : Nat → Nat → Int32) (A19 : Nat → Nat → Int32), k16 v17 I18 A19 = some (r0, I0, A0) → ∀ (H : Heap) (locs : List Loc), va_P D vwCl (VW K ad I18 G A19 L) H → va_S (vF ad s.heap.size) s.heap H locs → ∀ (ls : Array Slot), lv_has ls 3 [(2, .int v17)] → W p l e ({ frames := 2, cells := 0, slots := 0, locals := 51 }) s m ([.ref (ad 318), .int a1] : List Value).toArray below meth c H locs 0 0 (MQ below (va_Qi (fun (r : Int32) (u : Mem) => r = r0 ∧ u = (I0, G, A0, L)) (vB D K ad) (vF ad s.heap.size)) ([.ref (ad 318), .int a1] : List Value).toArray s 0 0 (vF ad s.heap.size)) (F0 m 75 ls []) := by
    intro v17 I18 A19 h H locs hP hS ls hl
    subst ek16
    refine lv_iload_n hx hb dX7_walks_75 rfl (lv_at hl 0 rfl) ?_
    refine lv_bipush (v := (-9)) hx hb dX7_walks_76 (by decide) ?_
    refine lv_icmp_ne (tgt := 85) hx hb dX7_walks_78 (by decide) (fun c_20 => ?_) (fun c_20 => ?_)
    · have h := iN c_20 h
      refine lv_iconst (v := 0) hx hb dX7_walks_85 (by decide) ?_
      exact W.iret (v := 0) hx hb hr (fun t9 ht9 hW9 => ⟨⟨0, (I18, G, A19, L), rfl, by cases h; exact ⟨rfl, rfl⟩, by rw [ht9]; exact hP, va_K.moved hW9.alike hK⟩, hS.F ht9⟩) hS.2.2 dX7_walks_86
    · have h := ip c_20 h
      refine lv_iconst (v := 2) hx hb dX7_walks_81 (by decide) ?_
      refine lv_goto (tgt := 86) hx hb dX7_walks_82 (by decide) ?_
      exact W.iret (v := 2) hx hb hr (fun t9 ht9 hW9 => ⟨⟨2, (I18, G, A19, L), rfl, by cases h; exact ⟨rfl, rfl⟩, by rw [ht9]; exact hP, va_K.moved hW9.alike hK⟩, hS.F ht9⟩) hS.2.2 dX7_walks_86
  have lp3 : ∀ (n : Nat) (v4 : Int32) (I5 : Nat → Nat → Int32) (A6 : Nat → Nat → Int32), f_X7_walks_L5 a1 k7 k10 k13 k16 n v4 I5 A6 = some (r0, I0, A0) → ∀ (H : Heap) (locs : List Loc), va_P D vwCl (VW K ad I5 G A6 L) H → va_S (vF ad s.heap.size) s.heap H locs → ∀ (ls : Array Slot), lv_has ls 3 [(2, .int v4), (0, .ref (ad 318)), (1, .int a1)] → W p l e ({ frames := 2, cells := 0, slots := 0, locals := 51 }) s m ([.ref (ad 318), .int a1] : List Value).toArray below meth c H locs 0 0 (MQ below (va_Qi (fun (r : Int32) (u : Mem) => r = r0 ∧ u = (I0, G, A0, L)) (vB D K ad) (vF ad s.heap.size)) ([.ref (ad 318), .int a1] : List Value).toArray s 0 0 (vF ad s.heap.size)) (F0 m 5 ls []) := by
    intro n
    induction n with
    | zero => intro v4 I5 A6 h; exact absurd h (by rw [f_X7_walks_L5]; exact nofun)
    | succ n ih3 =>
      intro v4 I5 A6 h H locs hP hS ls hl
      rw [f_X7_walks_L5] at h
      refine lv_iload_n hx hb dX7_walks_5 rfl (lv_at hl 0 rfl) ?_
      refine lv_bipush (v := (-9)) hx hb dX7_walks_6 (by decide) ?_
      refine lv_icmp_eq (tgt := 75) hx hb dX7_walks_8 (by decide) (fun c_21 => ?_) (fun c_21 => ?_)
      · have h := ip c_21 h
        exact kk16 v4 I5 A6 h _ _ hP hS ls (lv_sub hl [0] rfl)
      · have h := iN c_21 h
        refine lv_aload_n hx hb dX7_walks_11 rfl (lv_at hl 1 rfl) ?_
        refine vgC hx hb hts hi7 hown hK hP (318) (by decide) (show kd 318 = 7 by decide) (C := RX7) (T := TX7) (N := 79) rfl 38 (by decide) (by decide) (by decide) (by decide) (344) rfl (hts (.fieldLink RX7 92 "CrateHelpersModel" "isDone" "[Z") (by decide +kernel)) (fun _ h9 => h9) dX7_walks_12 ?_
        refine lv_iload_n hx hb dX7_walks_15 rfl (lv_at hl 0 rfl) ?_
        obtain ⟨hn22, h⟩ := gk h
        refine xzald hx hb hK hP (344) (by decide) (show kd 344 = 11 by decide) (by rw [show ln 344 = 2000 by decide]; exact hn22) dX7_walks_16 ?_
        refine lv_if_eq (tgt := 75) hx hb dX7_walks_17 (by decide) (fun c_23 => ?_) (fun c_23 => ?_)
        · have h := ip c_23 h
          exact kk16 v4 I5 A6 h _ _ hP hS ls (lv_sub hl [0] rfl)
        · have h := iN c_23 h
          refine lv_aload_n hx hb dX7_walks_20 rfl (lv_at hl 1 rfl) ?_
          refine lv_iload_n hx hb dX7_walks_21 rfl (lv_at hl 0 rfl) ?_
          obtain ⟨⟨I24, A25⟩, hc26, h⟩ := Option.bind_eq_some_iff.mp h
          refine ecVv (As := [.int v4]) (rest := []) ⟨hx, hb, hml, hown, hts⟩ (e_X7_takes l D K ad hap0 v4 I5 G A6 L I24 A25 hc26) (cwV 1 hts gX7_walks_X7_takes rfl rfl rfl (by decide +kernel) ⟨Nat.le_of_ble_eq_true rfl, Nat.le_of_ble_eq_true rfl⟩) hK hP hS (by decide) (show kd 318 = 7 by decide) (by decide) rfl rfl rfl hl.1 (Nat.le_of_ble_eq_true rfl) (Nat.le_of_ble_eq_true rfl) (Nat.le_of_ble_eq_true rfl) dX7_walks_22 (fun H locs hP hS => ?_) rfl
          have hP : va_P D vwCl (VW K ad I24 G A25 L) H := hP
          refine lv_aload_n hx hb dX7_walks_25 rfl (lv_at hl 1 rfl) ?_
          refine vgC hx hb hts hi7 hown hK hP (318) (by decide) (show kd 318 = 7 by decide) (C := RX7) (T := TX7) (N := 79) rfl 32 (by decide) (by decide) (by decide) (by decide) (338) rfl (hts (.fieldLink RX7 74 "CrateHelpersModel" "depth" "[I") (by decide +kernel)) (fun _ h9 => h9) dX7_walks_26 ?_
          refine lv_iload_n hx hb dX7_walks_29 rfl (lv_at hl 0 rfl) ?_
          refine xiald hx hb hK hP (338) (by decide) (show kd 338 = 8 by decide) (by rw [show ln 338 = 2000 by decide]; exact hn22) dX7_walks_30 ?_
          refine lv_aload_n hx hb dX7_walks_31 rfl (lv_at hl 1 rfl) ?_
          refine vgC hx hb hts hi7 hown hK hP (318) (by decide) (show kd 318 = 7 by decide) (C := RX7) (T := TX7) (N := 79) rfl 3 (by decide) (by decide) (by decide) (by decide) (319) rfl (hts (.fieldLink RX7 7 "CrateHelpersModel" "variables" "[I") (by decide +kernel)) (fun _ h9 => h9) dX7_walks_32 ?_
          refine lv_iload_n hx hb dX7_walks_35 rfl (lv_at hl 2 rfl) ?_
          obtain ⟨hn27, h⟩ := gk h
          refine xiald hx hb hK hP (319) (by decide) (show kd 319 = 8 by decide) (by rw [show ln 319 = 5 by decide]; exact hn27) dX7_walks_36 ?_
          refine lv_icmp_ne (tgt := 42) hx hb dX7_walks_37 (by decide) (fun c_28 => ?_) (fun c_28 => ?_)
          · have h := iN c_28 h
            refine lv_aload_n hx hb dX7_walks_42 rfl (lv_at hl 1 rfl) ?_
            refine vgI hx hb hts hi7 hown hK hP (318) (by decide) (show kd 318 = 7 by decide) (C := RX7) (T := TX7) (N := 79) rfl 31 (by decide) (by decide) (by decide) (by decide) (hts (.fieldLink RX7 303 "CrateHelpersModel" "taken" "I") (by decide +kernel)) (fun _ h9 => h9) dX7_walks_43 ?_
            refine lv_sipush (v := 250) hx hb dX7_walks_46 (by decide) ?_
            refine lv_icmp_ne (tgt := 54) hx hb dX7_walks_49 (by decide) (fun c_29 => ?_) (fun c_29 => ?_)
            · have h := iN c_29 h
              refine lv_aload_n hx hb dX7_walks_54 rfl (lv_at hl 1 rfl) ?_
              refine vgI hx hb hts hi7 hown hK hP (318) (by decide) (show kd 318 = 7 by decide) (C := RX7) (T := TX7) (N := 79) rfl 31 (by decide) (by decide) (by decide) (by decide) (hts (.fieldLink RX7 303 "CrateHelpersModel" "taken" "I") (by decide +kernel)) (fun _ h9 => h9) dX7_walks_55 ?_
              refine lv_aload_n hx hb dX7_walks_58 rfl (lv_at hl 1 rfl) ?_
              refine vgI hx hb hts hi7 hown hK hP (318) (by decide) (show kd 318 = 7 by decide) (C := RX7) (T := TX7) (N := 79) rfl 24 (by decide) (by decide) (by decide) (by decide) (hts (.fieldLink RX7 319 "CrateHelpersModel" "limitNow" "I") (by decide +kernel)) (fun _ h9 => h9) dX7_walks_59 ?_
              refine lv_icmp_ne (tgt := 67) hx hb dX7_walks_62 (by decide) (fun c_30 => ?_) (fun c_30 => ?_)
              · have h := iN c_30 h
                refine lv_aload_n hx hb dX7_walks_67 rfl (lv_at hl 1 rfl) ?_
                obtain ⟨r31, hc32, h⟩ := Option.bind_eq_some_iff.mp h
                refine ecV (As := []) (rest := []) ⟨hx, hb, hml, hown, hts⟩ (e_X7_nextOf l D K ad hap0  I24 G A25 L r31 hc32) (cwV 0 hts gX7_walks_X7_nextOf rfl rfl rfl (by decide +kernel) ⟨Nat.le_of_ble_eq_true rfl, Nat.le_of_ble_eq_true rfl⟩) hK hP hS (by decide) (show kd 318 = 7 by decide) (by decide) rfl rfl rfl hl.1 (Nat.le_of_ble_eq_true rfl) (Nat.le_of_ble_eq_true rfl) (Nat.le_of_ble_eq_true rfl) dX7_walks_68 (fun H locs hP hS => ?_) rfl
                have hP : va_P D vwCl (VW K ad I24 G A25 L) H := hP
                refine lv_istore_n (lv' := [(2, .int r31), (0, .ref (ad 318)), (1, .int a1)]) hx hb dX7_walks_71 rfl hl (by decide) rfl (fun ls hl => ?_)
                refine lv_goto (tgt := 5) hx hb dX7_walks_72 (by decide) ?_
                exact ih3 r31 I24 A25 h _ _ hP hS ls (lv_sub hl [0, 1, 2] rfl)
              · have h := ip c_30 h
                exact kk13 I24 A25 h _ _ hP hS ls (lv_sub hl [] rfl)
            · have h := ip c_29 h
              exact kk10 I24 A25 h _ _ hP hS ls (lv_sub hl [] rfl)
          · have h := ip c_28 h
            exact kk7 I24 A25 h _ _ hP hS ls (lv_sub hl [] rfl)
  exact lp3 FU r1 I A h _ _ hP hS ls (lv_sub hl [0, 1, 2] rfl)
