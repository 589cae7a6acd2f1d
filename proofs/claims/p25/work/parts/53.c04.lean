set_option maxHeartbeats 4000000 in
set_option maxRecDepth 100000 in
theorem e_X5_isFull (l : Launch) (D : va_G) (K : Nat → ClassId) (ad : Nat → Nat) (hap0 : apart ad (fun _ => True)) (o : Nat) (a1 : Int32) (I : Nat → Nat → Int32) (G : Nat → Nat → Nat) (A : Nat → Nat → Int32) (L : Nat → Nat → Int64) (r0 : Int32) (h : f_X5_isFull I G A o a1 = some r0) : Ci l D K ad yX5_isFull wsX5_isFull 0 0 [.ref (ad o), .int a1] (I, G, A, L) (fun (r : Int32) (u : Mem) => r = r0 ∧ u = (I, G, A, L)) := by
  intro sz
  refine Met.ofW (cc := cX5_isFull) (maxL := 2) (ret := (some .boolean)) (by decide) rfl ?_
  intro p e s m args below meth c s₁ Bd hml hv0
  obtain ⟨rfl, hsz, hP, hK⟩ := hv0
  have hx := Bd.exec
  have hb := Bd.bytes
  have hr := Bd.returns
  have hts := atoms_spec (ws := wsX5_isFull) Bd.pre
  have hown : s.vm.findClass RX5 = some m.cls := findClass_of_methodNamed Bd.named
  have hlocks := Bd.notSynchronized
  have hi5 : ∀ w ∈ u_ws RX5 TX5 16, w ∈ wsX5_isFull := fun w h => List.mem_cons_of_mem _ (List.mem_append_left _ (List.mem_append_right _ h))
  have hi1 : ∀ w ∈ u_ws RX1 TX1 9, w ∈ wsX5_isFull := fun w h => List.mem_cons_of_mem _ (List.mem_append_right _ h)
  subst hsz
  have hap := vF_ap hap0 s.heap.size
  have hS : va_S (vF ad s.heap.size) s.heap s.heap [] := va_S.rf
  have hP : va_P D vwCl (VW K ad I G A L) s.heap := hP
  have hl := lv_entry ([.ref (ad o), .int a1]) (n := 2) (Nat.le_of_ble_eq_true rfl)
  rw [lg_entry_eq]
  generalize (lg_sl ([.ref (ad o), .int a1]) ++ List.replicate (2 - (lg_sl ([.ref (ad o), .int a1])).length) Slot.unset).toArray = ls at hl ⊢
  have hl : lv_has ls 2 [(0, .ref (ad o)), (1, .int a1)] := hl
  rw [f_X5_isFull] at h
  refine lv_aload_n hx hb dX5_isFull_0 rfl (lv_at hl 0 rfl) ?_
  obtain ⟨hk1, h⟩ := gk h
  refine vgS hx hb hts hi5 hown hK hP (o) (s318 hk1.1) hk1.2 (C := RX5) (T := TX5) (N := 16) rfl 1 (by decide) (by decide) (by decide) (by decide) (o + 2) rfl (hts (.fieldLink RX5 53 "CrateHelpers$Tree" "depth" "[B") (by decide +kernel)) (fun _ h9 => h9) dX5_isFull_1 ?_
  refine lv_iload_n hx hb dX5_isFull_4 rfl (lv_at hl 1 rfl) ?_
  obtain ⟨hk2, h⟩ := gk h
  obtain ⟨hn3, h⟩ := gk h
  refine xbald hx hb hK hP (o + 2) (s318 hk2.1) hk2.2 hn3 dX5_isFull_5 ?_
  refine lv_aload_n hx hb dX5_isFull_6 rfl (lv_at hl 0 rfl) ?_
  refine vgG hx hb hts hi5 hown hK hP (o) (s318 hk1.1) hk1.2 (C := RX5) (T := TX5) (N := 16) rfl 14 (by decide) (by decide) (by decide) (by decide) (hts (.fieldLink RX5 45 "CrateHelpers$Tree" "problem" "LCrateHelpers$Problem;") (by decide +kernel)) (fun _ h9 => h9) dX5_isFull_7 ?_
  obtain ⟨hk4, h⟩ := gk h
  refine vgI hx hb hts hi1 hown hK hP (G o 14) (s318 hk4.1) hk4.2 (C := RX1) (T := TX1) (N := 9) rfl 0 (by decide) (by decide) (by decide) (by decide) (hts (.fieldLink RX5 120 "CrateHelpers$Problem" "variables" "I") (by decide +kernel)) (fun _ h9 => h9) dX5_isFull_10 ?_
  refine lv_icmp_lt (tgt := 20) hx hb dX5_isFull_13 (by decide) (fun c_5 => ?_) (fun c_5 => ?_)
  · have h := ip c_5 h
    refine lv_iconst (v := 0) hx hb dX5_isFull_20 (by decide) ?_
    exact W.zret (v := 0) hx hb hr (by decide) (fun t9 ht9 hW9 => ⟨⟨0, (I, G, A, L), rfl, by cases h; exact ⟨rfl, rfl⟩, by rw [ht9]; exact hP, va_K.moved hW9.alike hK⟩, hS.F ht9⟩) hS.2.2 dX5_isFull_21
  · have h := iN c_5 h
    refine lv_iconst (v := 1) hx hb dX5_isFull_16 (by decide) ?_
    refine lv_goto (tgt := 21) hx hb dX5_isFull_17 (by decide) ?_
    exact W.zret (v := 1) hx hb hr (by decide) (fun t9 ht9 hW9 => ⟨⟨1, (I, G, A, L), rfl, by cases h; exact ⟨rfl, rfl⟩, by rw [ht9]; exact hP, va_K.moved hW9.alike hK⟩, hS.F ht9⟩) hS.2.2 dX5_isFull_21
set_option maxHeartbeats 4000000 in
set_option maxRecDepth 100000 in
theorem e_X3_walkOn (l : Launch) (D : va_G) (K : Nat → ClassId) (ad : Nat → Nat) (hap0 : apart ad (fun _ => True)) (I : Nat → Nat → Int32) (G : Nat → Nat → Nat) (A : Nat → Nat → Int32) (L : Nat → Nat → Int64) (r0 : Int32) (I0 : Nat → Nat → Int32) (A0 : Nat → Nat → Int32) (h : f_X3_walkOn I G A L = some (r0, I0, A0)) : Ci l D K ad yX3_walkOn wsX3_walkOn 2 66 [.ref (ad 14)] (I, G, A, L) (fun (r : Int32) (u : Mem) => r = r0 ∧ u = (I0, G, A0, L)) := by
  intro sz
  refine Met.ofW (cc := cX3_walkOn) (maxL := 3) (ret := (some .int)) (by decide) rfl ?_
  intro p e s m args below meth c s₁ Bd hml hv0
  obtain ⟨rfl, hsz, hP, hK⟩ := hv0
  have hx := Bd.exec
  have hb := Bd.bytes
  have hr := Bd.returns
  have hts := atoms_spec (ws := wsX3_walkOn) Bd.pre
  have hown : s.vm.findClass RX3 = some m.cls := findClass_of_methodNamed Bd.named
  have hlocks := Bd.notSynchronized
  have hi3 : ∀ w ∈ u_ws RX3 TX3 6, w ∈ wsX3_walkOn := fun w h => List.mem_cons_of_mem _ (List.mem_append_left _ (List.mem_append_left _ (List.mem_append_right _ h)))
  have hi5 : ∀ w ∈ u_ws RX5 TX5 16, w ∈ wsX3_walkOn := fun w h => List.mem_cons_of_mem _ (List.mem_append_left _ (List.mem_append_right _ h))
  have hi1 : ∀ w ∈ u_ws RX1 TX1 9, w ∈ wsX3_walkOn := fun w h => List.mem_cons_of_mem _ (List.mem_append_right _ h)
  subst hsz
  have hap := vF_ap hap0 s.heap.size
  have hS : va_S (vF ad s.heap.size) s.heap s.heap [] := va_S.rf
  have hP : va_P D vwCl (VW K ad I G A L) s.heap := hP
  have hl := lv_entry ([.ref (ad 14)]) (n := 3) (Nat.le_of_ble_eq_true rfl)
  rw [lg_entry_eq]
  generalize (lg_sl ([.ref (ad 14)]) ++ List.replicate (3 - (lg_sl ([.ref (ad 14)])).length) Slot.unset).toArray = ls at hl ⊢
  have hl : lv_has ls 3 [(0, .ref (ad 14))] := hl
  rw [f_X3_walkOn] at h
  refine lv_iconst (v := 0) hx hb dX3_walkOn_0 (by decide) ?_
  refine lv_istore_n (lv' := [(1, .int 0), (0, .ref (ad 14))]) hx hb dX3_walkOn_1 rfl hl (by decide) rfl (fun ls hl => ?_)
  obtain ⟨k5, ek5, h⟩ := bd_e h
  have kk5 : ∀ (I6 : Nat → Nat → Int32) (A7 : Nat → Nat → Int32), k5 I6 A7 = some (r0, I0, A0) → ∀ (H : Heap) (locs : List Loc), va_P D vwCl (VW K ad I6 G A7 L) H → va_S (vF ad s.heap.size) s.heap H locs → ∀ (ls : Array Slot), lv_has ls 3 [] → W p l e ({ frames := 2, cells := 0, slots := 0, locals := 66 }) s m ([.ref (ad 14)] : List Value).toArray below meth c H locs 0 0 (MQ below (va_Qi (fun (r : Int32) (u : Mem) => r = r0 ∧ u = (I0, G, A0, L)) (vB D K ad) (vF ad s.heap.size)) ([.ref (ad 14)] : List Value).toArray s 0 0 (vF ad s.heap.size)) (F0 m 22 ls []) := by
    intro I6 A7 h H locs hP hS ls hl
    subst ek5
    refine lv_iconst (v := 2) hx hb dX3_walkOn_22 (by decide) ?_
    exact W.iret (v := 2) hx hb hr (fun t9 ht9 hW9 => ⟨⟨2, (I6, G, A7, L), rfl, by cases h; exact ⟨rfl, rfl⟩, by rw [ht9]; exact hP, va_K.moved hW9.alike hK⟩, hS.F ht9⟩) hS.2.2 dX3_walkOn_23
  obtain ⟨k8, ek8, h⟩ := bd_e h
  have kk8 : ∀ (I9 : Nat → Nat → Int32) (A10 : Nat → Nat → Int32), k8 I9 A10 = some (r0, I0, A0) → ∀ (H : Heap) (locs : List Loc), va_P D vwCl (VW K ad I9 G A10 L) H → va_S (vF ad s.heap.size) s.heap H locs → ∀ (ls : Array Slot), lv_has ls 3 [] → W p l e ({ frames := 2, cells := 0, slots := 0, locals := 66 }) s m ([.ref (ad 14)] : List Value).toArray below meth c H locs 0 0 (MQ below (va_Qi (fun (r : Int32) (u : Mem) => r = r0 ∧ u = (I0, G, A0, L)) (vB D K ad) (vF ad s.heap.size)) ([.ref (ad 14)] : List Value).toArray s 0 0 (vF ad s.heap.size)) (F0 m 37 ls []) := by
    intro I9 A10 h H locs hP hS ls hl
    subst ek8
    refine lv_iconst (v := 0) hx hb dX3_walkOn_37 (by decide) ?_
    exact W.iret (v := 0) hx hb hr (fun t9 ht9 hW9 => ⟨⟨0, (I9, G, A10, L), rfl, by cases h; exact ⟨rfl, rfl⟩, by rw [ht9]; exact hP, va_K.moved hW9.alike hK⟩, hS.F ht9⟩) hS.2.2 dX3_walkOn_38
  obtain ⟨k11, ek11, h⟩ := bd_e h
  have kk11 : ∀ (I12 : Nat → Nat → Int32) (A13 : Nat → Nat → Int32), k11 I12 A13 = some (r0, I0, A0) → ∀ (H : Heap) (locs : List Loc), va_P D vwCl (VW K ad I12 G A13 L) H → va_S (vF ad s.heap.size) s.heap H locs → ∀ (ls : Array Slot), lv_has ls 3 [] → W p l e ({ frames := 2, cells := 0, slots := 0, locals := 66 }) s m ([.ref (ad 14)] : List Value).toArray below meth c H locs 0 0 (MQ below (va_Qi (fun (r : Int32) (u : Mem) => r = r0 ∧ u = (I0, G, A0, L)) (vB D K ad) (vF ad s.heap.size)) ([.ref (ad 14)] : List Value).toArray s 0 0 (vF ad s.heap.size)) (F0 m 58 ls []) := by
    intro I12 A13 h H locs hP hS ls hl
    subst ek11
    refine lv_iconst (v := 1) hx hb dX3_walkOn_58 (by decide) ?_
    exact W.iret (v := 1) hx hb hr (fun t9 ht9 hW9 => ⟨⟨1, (I12, G, A13, L), rfl, by cases h; exact ⟨rfl, rfl⟩, by rw [ht9]; exact hP, va_K.moved hW9.alike hK⟩, hS.F ht9⟩) hS.2.2 dX3_walkOn_59
  obtain ⟨k14, ek14, h⟩ := bd_e h
  have kk14 : ∀ (I15 : Nat → Nat → Int32) (A16 : Nat → Nat → Int32), k14 I15 A16 = some (r0, I0, A0) → ∀ (H : Heap) (locs : List Loc), va_P D vwCl (VW K ad I15 G A16 L) H → va_S (vF ad s.heap.size) s.heap H locs → ∀ (ls : Array Slot), lv_has ls 3 [] → W p l e ({ frames := 2, cells := 0, slots := 0, locals := 66 }) s m ([.ref (ad 14)] : List Value).toArray below meth c H locs 0 0 (MQ below (va_Qi (fun (r : Int32) (u : Mem) => r = r0 ∧ u = (I0, G, A0, L)) (vB D K ad) (vF ad s.heap.size)) ([.ref (ad 14)] : List Value).toArray s 0 0 (vF ad s.heap.size)) (F0 m 73 ls []) := by
    intro I15 A16 h H locs hP hS ls hl
    subst ek14
    refine lv_iconst (v := 4) hx hb dX3_walkOn_73 (by decide) ?_
    exact W.iret (v := 4) hx hb hr (fun t9 ht9 hW9 => ⟨⟨4, (I15, G, A16, L), rfl, by cases h; exact ⟨rfl, rfl⟩, by rw [ht9]; exact hP, va_K.moved hW9.alike hK⟩, hS.F ht9⟩) hS.2.2 dX3_walkOn_74
  obtain ⟨k17, ek17, h⟩ := bd_e h
  have kk17 : ∀ (I18 : Nat → Nat → Int32) (A19 : Nat → Nat → Int32), k17 I18 A19 = some (r0, I0, A0) → ∀ (H : Heap) (locs : List Loc), va_P D vwCl (VW K ad I18 G A19 L) H → va_S (vF ad s.heap.size) s.heap H locs → ∀ (ls : Array Slot), lv_has ls 3 [] → W p l e ({ frames := 2, cells := 0, slots := 0, locals := 66 }) s m ([.ref (ad 14)] : List Value).toArray below meth c H locs 0 0 (MQ below (va_Qi (fun (r : Int32) (u : Mem) => r = r0 ∧ u = (I0, G, A0, L)) (vB D K ad) (vF ad s.heap.size)) ([.ref (ad 14)] : List Value).toArray s 0 0 (vF ad s.heap.size)) (F0 m 89 ls []) := by
    intro I18 A19 h H locs hP hS ls hl
    subst ek17
    refine lv_iconst (v := 3) hx hb dX3_walkOn_89 (by decide) ?_
    exact W.iret (v := 3) hx hb hr (fun t9 ht9 hW9 => ⟨⟨3, (I18, G, A19, L), rfl, by cases h; exact ⟨rfl, rfl⟩, by rw [ht9]; exact hP, va_K.moved hW9.alike hK⟩, hS.F ht9⟩) hS.2.2 dX3_walkOn_90
  obtain ⟨k20, ek20, h⟩ := bd_e h
  have kk20 : ∀ (I21 : Nat → Nat → Int32) (A22 : Nat → Nat → Int32), k20 I21 A22 = some (r0, I0, A0) → ∀ (H : Heap) (locs : List Loc), va_P D vwCl (VW K ad I21 G A22 L) H → va_S (vF ad s.heap.size) s.heap H locs → ∀ (ls : Array Slot), lv_has ls 3 [] → W p l e ({ frames := 2, cells := 0, slots := 0, locals := 66 }) s m ([.ref (ad 14)] : List Value).toArray below meth c H locs 0 0 (MQ below (va_Qi (fun (r : Int32) (u : Mem) => r = r0 ∧ u = (I0, G, A0, L)) (vB D K ad) (vF ad s.heap.size)) ([.ref (ad 14)] : List Value).toArray s 0 0 (vF ad s.heap.size)) (F0 m 97 ls []) := by
    intro I21 A22 h H locs hP hS ls hl
    subst ek20
    refine lv_iconst (v := 0) hx hb dX3_walkOn_97 (by decide) ?_
    exact W.iret (v := 0) hx hb hr (fun t9 ht9 hW9 => ⟨⟨0, (I21, G, A22, L), rfl, by cases h; exact ⟨rfl, rfl⟩, by rw [ht9]; exact hP, va_K.moved hW9.alike hK⟩, hS.F ht9⟩) hS.2.2 dX3_walkOn_98
  have lp1 : ∀ (n : Nat) (v2 : Int32) (I3 : Nat → Nat → Int32) (A4 : Nat → Nat → Int32), f_X3_walkOn_L2 G L k5 k8 k11 k14 k17 k20 n v2 I3 A4 = some (r0, I0, A0) → ∀ (H : Heap) (locs : List Loc), va_P D vwCl (VW K ad I3 G A4 L) H → va_S (vF ad s.heap.size) s.heap H locs → ∀ (ls : Array Slot), lv_has ls 3 [(1, .int v2), (0, .ref (ad 14))] → W p l e ({ frames := 2, cells := 0, slots := 0, locals := 66 }) s m ([.ref (ad 14)] : List Value).toArray below meth c H locs 0 0 (MQ below (va_Qi (fun (r : Int32) (u : Mem) => r = r0 ∧ u = (I0, G, A0, L)) (vB D K ad) (vF ad s.heap.size)) ([.ref (ad 14)] : List Value).toArray s 0 0 (vF ad s.heap.size)) (F0 m 2 ls []) := by
    intro n
    induction n with
    | zero => intro v2 I3 A4 h; exact absurd h (by rw [f_X3_walkOn_L2]; exact nofun)
    | succ n ih1 =>
      intro v2 I3 A4 h H locs hP hS ls hl
      rw [f_X3_walkOn_L2] at h
      refine lv_iload_n hx hb dX3_walkOn_2 rfl (lv_at hl 0 rfl) ?_
      refine lv_sipush (v := 250) hx hb dX3_walkOn_3 (by decide) ?_
      refine lv_icmp_ge (tgt := 97) hx hb dX3_walkOn_6 (by decide) (fun c_23 => ?_) (fun c_23 => ?_)
      · have h := iN (Int32.not_lt.mpr c_23) h
        exact kk20 I3 A4 h _ _ hP hS ls (lv_sub hl [] rfl)
      · have h := ip (Int32.not_le.mp c_23) h
        refine lv_aload_n hx hb dX3_walkOn_9 rfl (lv_at hl 1 rfl) ?_
        refine vgG hx hb hts hi3 hown hK hP (14) (by decide) (show kd 14 = 3 by decide) (C := RX3) (T := TX3) (N := 6) rfl 0 (by decide) (by decide) (by decide) (by decide) (hts (.fieldLink RX3 30 "CrateHelpers$Solving" "tree" "LCrateHelpers$Tree;") (by decide +kernel)) (fun _ h9 => h9) dX3_walkOn_10 ?_
        obtain ⟨hk24, h⟩ := gk h
        obtain ⟨r25, hc26, h⟩ := Option.bind_eq_some_iff.mp h
        refine ecV (As := []) (rest := []) ⟨hx, hb, hml, hown, hts⟩ (e_X5_nextOfWalk l D K ad hap0 (G 14 0) I3 G A4 L r25 hc26) (cwV 0 hts gX3_walkOn_X5_nextOfWalk rfl rfl rfl (by decide +kernel) ⟨Nat.le_of_ble_eq_true rfl, Nat.le_of_ble_eq_true rfl⟩) hK hP hS (s318 hk24.1) hk24.2 (by decide) rfl rfl rfl hl.1 (Nat.le_of_ble_eq_true rfl) (Nat.le_of_ble_eq_true rfl) (Nat.le_of_ble_eq_true rfl) dX3_walkOn_13 (fun H locs hP hS => ?_) rfl
        have hP : va_P D vwCl (VW K ad I3 G A4 L) H := hP
        refine lv_istore_n (lv' := [(2, .int r25), (1, .int v2), (0, .ref (ad 14))]) hx hb dX3_walkOn_16 rfl hl (by decide) rfl (fun ls hl => ?_)
        refine lv_iload_n hx hb dX3_walkOn_17 rfl (lv_at hl 0 rfl) ?_
        refine lv_iconst (v := (-1)) hx hb dX3_walkOn_18 (by decide) ?_
        refine lv_icmp_ne (tgt := 24) hx hb dX3_walkOn_19 (by decide) (fun c_27 => ?_) (fun c_27 => ?_)
        · have h := iN c_27 h
          refine lv_aload_n hx hb dX3_walkOn_24 rfl (lv_at hl 2 rfl) ?_
          refine vgG hx hb hts hi3 hown hK hP (14) (by decide) (show kd 14 = 3 by decide) (C := RX3) (T := TX3) (N := 6) rfl 0 (by decide) (by decide) (by decide) (by decide) (hts (.fieldLink RX3 30 "CrateHelpers$Solving" "tree" "LCrateHelpers$Tree;") (by decide +kernel)) (fun _ h9 => h9) dX3_walkOn_25 ?_
          refine vgS hx hb hts hi5 hown hK hP (G 14 0) (s318 hk24.1) hk24.2 (C := RX5) (T := TX5) (N := 16) rfl 4 (by decide) (by decide) (by decide) (by decide) (G 14 0 + 5) rfl (hts (.fieldLink RX3 90 "CrateHelpers$Tree" "stage" "[B") (by decide +kernel)) (fun _ h9 => h9) dX3_walkOn_28 ?_
          refine lv_iload_n hx hb dX3_walkOn_31 rfl (lv_at hl 0 rfl) ?_
          obtain ⟨hk28, h⟩ := gk h
          obtain ⟨hn29, h⟩ := gk h
          refine xbald hx hb hK hP (G 14 0 + 5) (s318 hk28.1) hk28.2 hn29 dX3_walkOn_32 ?_
          refine lv_iconst (v := 2) hx hb dX3_walkOn_33 (by decide) ?_
          refine lv_icmp_eq (tgt := 39) hx hb dX3_walkOn_34 (by decide) (fun c_30 => ?_) (fun c_30 => ?_)
          · have h := ip c_30 h
            refine lv_aload_n hx hb dX3_walkOn_39 rfl (lv_at hl 2 rfl) ?_
            refine vgG hx hb hts hi3 hown hK hP (14) (by decide) (show kd 14 = 3 by decide) (C := RX3) (T := TX3) (N := 6) rfl 0 (by decide) (by decide) (by decide) (by decide) (hts (.fieldLink RX3 30 "CrateHelpers$Solving" "tree" "LCrateHelpers$Tree;") (by decide +kernel)) (fun _ h9 => h9) dX3_walkOn_40 ?_
            refine lv_iload_n hx hb dX3_walkOn_43 rfl (lv_at hl 0 rfl) ?_
            obtain ⟨⟨I31, A32⟩, hc33, h⟩ := Option.bind_eq_some_iff.mp h
            refine ecVv (As := [.int r25]) (rest := []) ⟨hx, hb, hml, hown, hts⟩ (e_X5_take l D K ad hap0 (G 14 0) r25 I3 G A4 L I31 A32 hc33) (cwV 1 hts gX3_walkOn_X5_take rfl rfl rfl (by decide +kernel) ⟨Nat.le_of_ble_eq_true rfl, Nat.le_of_ble_eq_true rfl⟩) hK hP hS (s318 hk24.1) hk24.2 (by decide) rfl rfl rfl hl.1 (Nat.le_of_ble_eq_true rfl) (Nat.le_of_ble_eq_true rfl) (Nat.le_of_ble_eq_true rfl) dX3_walkOn_44 (fun H locs hP hS => ?_) rfl
            have hP : va_P D vwCl (VW K ad I31 G A32 L) H := hP
            refine lv_aload_n hx hb dX3_walkOn_47 rfl (lv_at hl 2 rfl) ?_
            refine vgG hx hb hts hi3 hown hK hP (14) (by decide) (show kd 14 = 3 by decide) (C := RX3) (T := TX3) (N := 6) rfl 0 (by decide) (by decide) (by decide) (by decide) (hts (.fieldLink RX3 30 "CrateHelpers$Solving" "tree" "LCrateHelpers$Tree;") (by decide +kernel)) (fun _ h9 => h9) dX3_walkOn_48 ?_
            refine lv_iload_n hx hb dX3_walkOn_51 rfl (lv_at hl 0 rfl) ?_
            obtain ⟨r34, hc35, h⟩ := Option.bind_eq_some_iff.mp h
            refine ecV (As := [.int r25]) (rest := []) ⟨hx, hb, hml, hown, hts⟩ (e_X5_isFull l D K ad hap0 (G 14 0) r25 I31 G A32 L r34 hc35) (cwV 1 hts gX3_walkOn_X5_isFull rfl rfl rfl (by decide +kernel) ⟨Nat.le_of_ble_eq_true rfl, Nat.le_of_ble_eq_true rfl⟩) hK hP hS (s318 hk24.1) hk24.2 (by decide) rfl rfl rfl hl.1 (Nat.le_of_ble_eq_true rfl) (Nat.le_of_ble_eq_true rfl) (Nat.le_of_ble_eq_true rfl) dX3_walkOn_52 (fun H locs hP hS => ?_) rfl
            have hP : va_P D vwCl (VW K ad I31 G A32 L) H := hP
            refine lv_if_eq (tgt := 60) hx hb dX3_walkOn_55 (by decide) (fun c_36 => ?_) (fun c_36 => ?_)
            · have h := ip c_36 h
              refine lv_aload_n hx hb dX3_walkOn_60 rfl (lv_at hl 2 rfl) ?_
              refine vgG hx hb hts hi3 hown hK hP (14) (by decide) (show kd 14 = 3 by decide) (C := RX3) (T := TX3) (N := 6) rfl 0 (by decide) (by decide) (by decide) (by decide) (hts (.fieldLink RX3 30 "CrateHelpers$Solving" "tree" "LCrateHelpers$Tree;") (by decide +kernel)) (fun _ h9 => h9) dX3_walkOn_61 ?_
              refine vgI hx hb hts hi5 hown hK hP (G 14 0) (s318 hk24.1) hk24.2 (C := RX5) (T := TX5) (N := 16) rfl 11 (by decide) (by decide) (by decide) (by decide) (hts (.fieldLink RX3 81 "CrateHelpers$Tree" "taken" "I") (by decide +kernel)) (fun _ h9 => h9) dX3_walkOn_64 ?_
              refine lv_sipush (v := 250) hx hb dX3_walkOn_67 (by decide) ?_
              refine lv_icmp_lt (tgt := 75) hx hb dX3_walkOn_70 (by decide) (fun c_37 => ?_) (fun c_37 => ?_)
              · have h := ip c_37 h
                refine lv_aload_n hx hb dX3_walkOn_75 rfl (lv_at hl 2 rfl) ?_
                refine vgG hx hb hts hi3 hown hK hP (14) (by decide) (show kd 14 = 3 by decide) (C := RX3) (T := TX3) (N := 6) rfl 0 (by decide) (by decide) (by decide) (by decide) (hts (.fieldLink RX3 30 "CrateHelpers$Solving" "tree" "LCrateHelpers$Tree;") (by decide +kernel)) (fun _ h9 => h9) dX3_walkOn_76 ?_
                refine vgI hx hb hts hi5 hown hK hP (G 14 0) (s318 hk24.1) hk24.2 (C := RX5) (T := TX5) (N := 16) rfl 11 (by decide) (by decide) (by decide) (by decide) (hts (.fieldLink RX3 81 "CrateHelpers$Tree" "taken" "I") (by decide +kernel)) (fun _ h9 => h9) dX3_walkOn_79 ?_
                refine lv_aload_n hx hb dX3_walkOn_82 rfl (lv_at hl 2 rfl) ?_
                refine vgI hx hb hts hi3 hown hK hP (14) (by decide) (show kd 14 = 3 by decide) (C := RX3) (T := TX3) (N := 6) rfl 2 (by decide) (by decide) (by decide) (by decide) (hts (.fieldLink RX3 9 "CrateHelpers$Solving" "limit" "I") (by decide +kernel)) (fun _ h9 => h9) dX3_walkOn_83 ?_
                refine lv_icmp_ne (tgt := 91) hx hb dX3_walkOn_86 (by decide) (fun c_38 => ?_) (fun c_38 => ?_)
                · have h := iN c_38 h
                  refine lv_iinc (v := (v2 + 1)) (lv' := [(1, .int (v2 + 1)), (2, .int r25), (0, .ref (ad 14))]) hx hb dX3_walkOn_91 hl (k := 1) rfl rfl (by decide) rfl (fun ls hl => ?_)
                  refine lv_goto (tgt := 2) hx hb dX3_walkOn_94 (by decide) ?_
                  exact ih1 (v2 + 1) I31 A32 h _ _ hP hS ls (lv_sub hl [0, 2] rfl)
                · have h := ip c_38 h
                  exact kk17 I31 A32 h _ _ hP hS ls (lv_sub hl [] rfl)
              · have h := iN c_37 h
                exact kk14 I31 A32 h _ _ hP hS ls (lv_sub hl [] rfl)
            · have h := iN c_36 h
              exact kk11 I31 A32 h _ _ hP hS ls (lv_sub hl [] rfl)
          · have h := iN c_30 h
            exact kk8 I3 A4 h _ _ hP hS ls (lv_sub hl [] rfl)
        · have h := ip c_27 h
          exact kk5 I3 A4 h _ _ hP hS ls (lv_sub hl [] rfl)
  exact lp1 FU 0 I A h _ _ hP hS ls (lv_sub hl [0, 1] rfl)
set_option maxHeartbeats 4000000 in
set_option maxRecDepth 100000 in
theorem e_X5_shiftOf (l : Launch) (D : va_G) (K : Nat → ClassId) (ad : Nat → Nat) (hap0 : apart ad (fun _ => True)) (a0 : Int32) (I : Nat → Nat → Int32) (G : Nat → Nat → Nat) (A : Nat → Nat → Int32) (L : Nat → Nat → Int64) (r0 : Int32) (h : f_X5_shiftOf a0 = some r0) : Ci l D K ad yX5_shiftOf wsX5_shiftOf 0 0 [.int a0] (I, G, A, L) (fun (r : Int32) (u : Mem) => r = r0 ∧ u = (I, G, A, L)) := by
  intro sz
  refine Met.ofW (cc := cX5_shiftOf) (maxL := 1) (ret := (some .int)) (by decide) rfl ?_
  intro p e s m args below meth c s₁ Bd hml hv0
  obtain ⟨rfl, hsz, hP, hK⟩ := hv0
  have hx := Bd.exec
  have hb := Bd.bytes
  have hr := Bd.returns
  have hts := atoms_spec (ws := wsX5_shiftOf) Bd.pre
  have hown : s.vm.findClass RX5 = some m.cls := findClass_of_methodNamed Bd.named
  have hlocks := Bd.notSynchronized
  subst hsz
  have hap := vF_ap hap0 s.heap.size
  have hS : va_S (vF ad s.heap.size) s.heap s.heap [] := va_S.rf
  have hP : va_P D vwCl (VW K ad I G A L) s.heap := hP
  have hl := lv_entry ([.int a0]) (n := 1) (Nat.le_of_ble_eq_true rfl)
  rw [lg_entry_eq]
  generalize (lg_sl ([.int a0]) ++ List.replicate (1 - (lg_sl ([.int a0])).length) Slot.unset).toArray = ls at hl ⊢
  have hl : lv_has ls 1 [(0, .int a0)] := hl
  rw [f_X5_shiftOf] at h
  refine lv_iconst (v := 3) hx hb dX5_shiftOf_0 (by decide) ?_
  refine lv_iconst (v := 5) hx hb dX5_shiftOf_1 (by decide) ?_
  refine lv_iload_n hx hb dX5_shiftOf_2 rfl (lv_at hl 0 rfl) ?_
  refine lv_isub hx hb dX5_shiftOf_3 ?_
  refine lv_imul hx hb dX5_shiftOf_4 ?_
  exact W.iret (v := (3 * (5 - a0))) hx hb hr (fun t9 ht9 hW9 => ⟨⟨(3 * (5 - a0)), (I, G, A, L), rfl, by cases h; exact ⟨rfl, rfl⟩, by rw [ht9]; exact hP, va_K.moved hW9.alike hK⟩, hS.F ht9⟩) hS.2.2 dX5_shiftOf_5
set_option maxHeartbeats 4000000 in
set_option maxRecDepth 100000 in
theorem e_X5_finish (l : Launch) (D : va_G) (K : Nat → ClassId) (ad : Nat → Nat) (hap0 : apart ad (fun _ => True)) (o : Nat) (a1 : Int32) (a2 : Int32) (I : Nat → Nat → Int32) (G : Nat → Nat → Nat) (A : Nat → Nat → Int32) (L : Nat → Nat → Int64) (I0 : Nat → Nat → Int32) (A0 : Nat → Nat → Int32) (L0 : Nat → Nat → Int64) (h : f_X5_finish I G A L o a1 a2 = some (I0, A0, L0)) : Cv l D K ad yX5_finish wsX5_finish 5 182 [.ref (ad o), .int a1, .int a2] (I, G, A, L) (fun (u : Mem) => u = (I0, G, A0, L0)) := by
  intro sz
  refine Met.ofW (cc := cX5_finish) (maxL := 7) (ret := none) (by decide) rfl ?_
  intro p e s m args below meth c s₁ Bd hml hv0
  obtain ⟨rfl, hsz, hP, hK⟩ := hv0
  have hx := Bd.exec
  have hb := Bd.bytes
  have hr := Bd.returns
  have hts := atoms_spec (ws := wsX5_finish) Bd.pre
  have hown : s.vm.findClass RX5 = some m.cls := findClass_of_methodNamed Bd.named
  have hlocks := Bd.notSynchronized
  have hi5 : ∀ w ∈ u_ws RX5 TX5 16, w ∈ wsX5_finish := fun w h => List.mem_cons_of_mem _ (List.mem_append_left _ (List.mem_append_left _ (List.mem_append_left _ (List.mem_append_right _ h))))
  have hi1 : ∀ w ∈ u_ws RX1 TX1 9, w ∈ wsX5_finish := fun w h => List.mem_cons_of_mem _ (List.mem_append_left _ (List.mem_append_left _ (List.mem_append_right _ h)))
  have hi0 : ∀ w ∈ u_ws RX0 TX0 3, w ∈ wsX5_finish := fun w h => List.mem_cons_of_mem _ (List.mem_append_left _ (List.mem_append_right _ h))
  have hi2 : ∀ w ∈ u_ws RX2 TX2 7, w ∈ wsX5_finish := fun w h => List.mem_cons_of_mem _ (List.mem_append_right _ h)
  subst hsz
  have hap := vF_ap hap0 s.heap.size
  have hS : va_S (vF ad s.heap.size) s.heap s.heap [] := va_S.rf
  have hP : va_P D vwCl (VW K ad I G A L) s.heap := hP
  have hl := lv_entry ([.ref (ad o), .int a1, .int a2]) (n := 7) (Nat.le_of_ble_eq_true rfl)
  rw [lg_entry_eq]
  generalize (lg_sl ([.ref (ad o), .int a1, .int a2]) ++ List.replicate (7 - (lg_sl ([.ref (ad o), .int a1, .int a2])).length) Slot.unset).toArray = ls at hl ⊢
  have hl : lv_has ls 7 [(0, .ref (ad o)), (1, .int a1), (2, .int a2)] := hl
  rw [f_X5_finish] at h
  refine lv_aload_n hx hb dX5_finish_0 rfl (lv_at hl 0 rfl) ?_
  obtain ⟨hk1, h⟩ := gk h
  refine vgS hx hb hts hi5 hown hK hP (o) (s318 hk1.1) hk1.2 (C := RX5) (T := TX5) (N := 16) rfl 4 (by decide) (by decide) (by decide) (by decide) (o + 5) rfl (hts (.fieldLink RX5 63 "CrateHelpers$Tree" "stage" "[B") (by decide +kernel)) (fun _ h9 => h9) dX5_finish_1 ?_
  refine lv_iload_n hx hb dX5_finish_4 rfl (lv_at hl 1 rfl) ?_
  refine lv_iconst (v := 2) hx hb dX5_finish_5 (by decide) ?_
  obtain ⟨hk2, h⟩ := gk h
  obtain ⟨hn3, h⟩ := gk h
  refine xbast hx hb hK hP hap hS (o + 5) (s318 hk2.1) hk2.2 hn3 dX5_finish_6 (fun H locs hP hS => ?_)
  obtain ⟨A4, eA4, h⟩ := bd_e h
  rw [← eA4] at hP
  have hP : va_P D vwCl (VW K ad I G A4 L) H := hP
  refine lv_aload_n hx hb dX5_finish_7 rfl (lv_at hl 0 rfl) ?_
  refine vgS hx hb hts hi5 hown hK hP (o) (s318 hk1.1) hk1.2 (C := RX5) (T := TX5) (N := 16) rfl 5 (by decide) (by decide) (by decide) (by decide) (o + 6) rfl (hts (.fieldLink RX5 66 "CrateHelpers$Tree" "doneBy" "[B") (by decide +kernel)) (fun _ h9 => h9) dX5_finish_8 ?_
  refine lv_iload_n hx hb dX5_finish_11 rfl (lv_at hl 1 rfl) ?_
  refine lv_iload_n hx hb dX5_finish_12 rfl (lv_at hl 2 rfl) ?_
  refine lv_i2b hx hb dX5_finish_13 rfl ?_
  obtain ⟨hk5, h⟩ := gk h
  obtain ⟨hn6, h⟩ := gk h
  refine xbast hx hb hK hP hap hS (o + 6) (s318 hk5.1) hk5.2 hn6 dX5_finish_14 (fun H locs hP hS => ?_)
  obtain ⟨A7, eA7, h⟩ := bd_e h
  rw [← eA7] at hP
  have hP : va_P D vwCl (VW K ad I G A7 L) H := hP
  refine lv_aload_n hx hb dX5_finish_15 rfl (lv_at hl 0 rfl) ?_
  refine lv_dup hx hb dX5_finish_16 rfl ?_
  refine vgI hx hb hts hi5 hown hK hP (o) (s318 hk1.1) hk1.2 (C := RX5) (T := TX5) (N := 16) rfl 10 (by decide) (by decide) (by decide) (by decide) (hts (.fieldLink RX5 19 "CrateHelpers$Tree" "done" "I") (by decide +kernel)) (fun _ h9 => h9) dX5_finish_17 ?_
  refine lv_iconst (v := 1) hx hb dX5_finish_20 (by decide) ?_
  refine lv_iadd hx hb dX5_finish_21 ?_
  refine vpI (v := ((I o 10) + 1)) (ty := .int) hx hb hts hi5 tyX5 tyX5_ok nmX5 hown hK hP hap hS (o) (s318 hk1.1) hk1.2 (C := RX5) (T := TX5) (N := 16) rfl 10 (by decide) (by decide) (by decide) (by decide) (hts (.fieldLink RX5 19 "CrateHelpers$Tree" "done" "I") (by decide +kernel)) (fun _ h9 => h9) rfl (by decide +kernel) rfl rfl dX5_finish_22 (fun H locs hP hS => ?_)
  obtain ⟨I8, eI8, h⟩ := bd_e h
  rw [← eI8] at hP
  have hP : va_P D vwCl (VW K ad I8 G A7 L) H := hP
  refine lv_aload_n hx hb dX5_finish_25 rfl (lv_at hl 0 rfl) ?_
  refine lv_iload_n hx hb dX5_finish_26 rfl (lv_at hl 1 rfl) ?_
  obtain ⟨r9, hc10, h⟩ := Option.bind_eq_some_iff.mp h
  refine ecV (As := [.int a1]) (rest := []) ⟨hx, hb, hml, hown, hts⟩ (e_X5_isFull l D K ad hap0 o a1 I8 G A7 L r9 hc10) (cwV 1 hts gX5_finish_X5_isFull rfl rfl rfl (by decide +kernel) ⟨Nat.le_of_ble_eq_true rfl, Nat.le_of_ble_eq_true rfl⟩) hK hP hS (s318 hk1.1) hk1.2 (by decide) rfl rfl rfl hl.1 (Nat.le_of_ble_eq_true rfl) (Nat.le_of_ble_eq_true rfl) (Nat.le_of_ble_eq_true rfl) dX5_finish_27 (fun H locs hP hS => ?_) rfl
  have hP : va_P D vwCl (VW K ad I8 G A7 L) H := hP
  refine lv_if_eq (tgt := 34) hx hb dX5_finish_30 (by decide) (fun c_11 => ?_) (fun c_11 => ?_)
  · have h := ip c_11 h
    refine lv_aload_n hx hb dX5_finish_34 rfl (lv_at hl 0 rfl) ?_
    refine vgS hx hb hts hi5 hown hK hP (o) (s318 hk1.1) hk1.2 (C := RX5) (T := TX5) (N := 16) rfl 1 (by decide) (by decide) (by decide) (by decide) (o + 2) rfl (hts (.fieldLink RX5 53 "CrateHelpers$Tree" "depth" "[B") (by decide +kernel)) (fun _ h9 => h9) dX5_finish_35 ?_
    refine lv_iload_n hx hb dX5_finish_38 rfl (lv_at hl 1 rfl) ?_
    obtain ⟨hk12, h⟩ := gk h
    obtain ⟨hn13, h⟩ := gk h
    refine xbald hx hb hK hP (o + 2) (s318 hk12.1) hk12.2 hn13 dX5_finish_39 ?_
    refine lv_istore_n (lv' := [(3, .int (A7 (o + 2) a1.toNatClampNeg)), (0, .ref (ad o)), (1, .int a1), (2, .int a2)]) hx hb dX5_finish_40 rfl hl (by decide) rfl (fun ls hl => ?_)
    refine lv_aload_n hx hb dX5_finish_41 rfl (lv_at hl 1 rfl) ?_
    refine vgS hx hb hts hi5 hown hK hP (o) (s318 hk1.1) hk1.2 (C := RX5) (T := TX5) (N := 16) rfl 0 (by decide) (by decide) (by decide) (by decide) (o + 1) rfl (hts (.fieldLink RX5 49 "CrateHelpers$Tree" "place" "[J") (by decide +kernel)) (fun _ h9 => h9) dX5_finish_42 ?_
    refine lv_iload_n hx hb dX5_finish_45 rfl (lv_at hl 2 rfl) ?_
    obtain ⟨hk14, h⟩ := gk h
    obtain ⟨hn15, h⟩ := gk h
    refine xlald hx hb hK hP (o + 1) (s318 hk14.1) hk14.2 hn15 dX5_finish_46 ?_
    refine lv_ldc2 (v := 262143) hx hb hown (hts (.constantLong RX5 102 (262143)) (by decide +kernel)) dX5_finish_47 ?_
    refine lv_land hx hb dX5_finish_50 ?_
    refine lv_lstore (lv' := [(4, .long ((L (o + 1) a1.toNatClampNeg) &&& 262143)), (3, .int (A7 (o + 2) a1.toNatClampNeg)), (0, .ref (ad o)), (1, .int a1), (2, .int a2)]) hx hb dX5_finish_51 hl (by decide) rfl (fun ls hl => ?_)
    refine lv_aload_n hx hb dX5_finish_53 rfl (lv_at hl 2 rfl) ?_
    refine vgS hx hb hts hi5 hown hK hP (o) (s318 hk1.1) hk1.2 (C := RX5) (T := TX5) (N := 16) rfl 12 (by decide) (by decide) (by decide) (by decide) (o + 10) rfl (hts (.fieldLink RX5 25 "CrateHelpers$Tree" "values" "[I") (by decide +kernel)) (fun _ h9 => h9) dX5_finish_54 ?_
    refine lv_iconst (v := (-1)) hx hb dX5_finish_57 (by decide) ?_
    obtain ⟨A16, hc17, h⟩ := Option.bind_eq_some_iff.mp h
    refine ecSv (As := [.ref (ad (o + 10)), .int (-1)]) (rest := []) ⟨hx, hb, hml, hown, hts⟩ (e_J7_fill_53178 l D K ad hap0 (o + 10) (-1) I8 G A7 L A16 hc17) (va_cwS 2 hts gX5_finish_J7_fill_53178 rfl rfl rfl (by decide +kernel) ⟨Nat.le_of_ble_eq_true rfl, Nat.le_of_ble_eq_true rfl⟩) hK hP hS rfl hl.1 (Nat.le_of_ble_eq_true rfl) (Nat.le_of_ble_eq_true rfl) (Nat.le_of_ble_eq_true rfl) dX5_finish_58 (fun H locs hP hS => ?_) rfl
    have hP : va_P D vwCl (VW K ad I8 G A16 L) H := hP
    refine lv_aload_n hx hb dX5_finish_61 rfl (lv_at hl 2 rfl) ?_
    refine lv_iload_n hx hb dX5_finish_62 rfl (lv_at hl 3 rfl) ?_
    refine lv_aload_n hx hb dX5_finish_63 rfl (lv_at hl 2 rfl) ?_
    refine vgS hx hb hts hi5 hown hK hP (o) (s318 hk1.1) hk1.2 (C := RX5) (T := TX5) (N := 16) rfl 12 (by decide) (by decide) (by decide) (by decide) (o + 10) rfl (hts (.fieldLink RX5 25 "CrateHelpers$Tree" "values" "[I") (by decide +kernel)) (fun _ h9 => h9) dX5_finish_64 ?_
    refine lv_iconst (v := 0) hx hb dX5_finish_67 (by decide) ?_
    obtain ⟨A18, hc19, h⟩ := Option.bind_eq_some_iff.mp h
    refine ecVv (As := [.int a1, .ref (ad (o + 10)), .int 0]) (rest := []) ⟨hx, hb, hml, hown, hts⟩ (e_X5_copyValues l D K ad hap0 o a1 (o + 10) 0 I8 G A16 L A18 hc19) (cwV 3 hts gX5_finish_X5_copyValues rfl rfl rfl (by decide +kernel) ⟨Nat.le_of_ble_eq_true rfl, Nat.le_of_ble_eq_true rfl⟩) hK hP hS (s318 hk1.1) hk1.2 (by decide) rfl rfl rfl hl.1 (Nat.le_of_ble_eq_true rfl) (Nat.le_of_ble_eq_true rfl) (Nat.le_of_ble_eq_true rfl) dX5_finish_68 (fun H locs hP hS => ?_) rfl
    have hP : va_P D vwCl (VW K ad I8 G A18 L) H := hP
    refine lv_aload_n hx hb dX5_finish_71 rfl (lv_at hl 2 rfl) ?_
    refine vgS hx hb hts hi5 hown hK hP (o) (s318 hk1.1) hk1.2 (C := RX5) (T := TX5) (N := 16) rfl 6 (by decide) (by decide) (by decide) (by decide) (o + 7) rfl (hts (.fieldLink RX5 69 "CrateHelpers$Tree" "firstBelow" "[S") (by decide +kernel)) (fun _ h9 => h9) dX5_finish_72 ?_
    refine lv_iload_n hx hb dX5_finish_75 rfl (lv_at hl 3 rfl) ?_
    refine lv_aload_n hx hb dX5_finish_76 rfl (lv_at hl 2 rfl) ?_
    refine vgI hx hb hts hi5 hown hK hP (o) (s318 hk1.1) hk1.2 (C := RX5) (T := TX5) (N := 16) rfl 9 (by decide) (by decide) (by decide) (by decide) (hts (.fieldLink RX5 15 "CrateHelpers$Tree" "known" "I") (by decide +kernel)) (fun _ h9 => h9) dX5_finish_77 ?_
    refine lv_i2s hx hb dX5_finish_80 rfl ?_
    obtain ⟨hk20, h⟩ := gk h
    obtain ⟨hn21, h⟩ := gk h
    refine xsast hx hb hK hP hap hS (o + 7) (s318 hk20.1) hk20.2 hn21 dX5_finish_81 (fun H locs hP hS => ?_)
    obtain ⟨A22, eA22, h⟩ := bd_e h
    rw [← eA22] at hP
    have hP : va_P D vwCl (VW K ad I8 G A22 L) H := hP
    refine lv_iconst (v := 0) hx hb dX5_finish_82 (by decide) ?_
    refine lv_istore (lv' := [(6, .int 0), (4, .long ((L (o + 1) a1.toNatClampNeg) &&& 262143)), (3, .int (A7 (o + 2) a1.toNatClampNeg)), (0, .ref (ad o)), (1, .int a1), (2, .int a2)]) hx hb dX5_finish_83 hl (by decide) rfl (fun ls hl => ?_)
    obtain ⟨k30, ek30, h⟩ := bd_e h
    have kk30 : ∀ (I31 : Nat → Nat → Int32) (A32 : Nat → Nat → Int32) (L33 : Nat → Nat → Int64), k30 I31 A32 L33 = some (I0, A0, L0) → ∀ (H : Heap) (locs : List Loc), va_P D vwCl (VW K ad I31 G A32 L33) H → va_S (vF ad s.heap.size) s.heap H locs → ∀ (ls : Array Slot), lv_has ls 7 [] → W p l e ({ frames := 5, cells := 0, slots := 0, locals := 182 }) s m ([.ref (ad o), .int a1, .int a2] : List Value).toArray below meth c H locs 0 0 (MQ below (va_Qv (fun (u : Mem) => u = (I0, G, A0, L0)) (vB D K ad) (vF ad s.heap.size)) ([.ref (ad o), .int a1, .int a2] : List Value).toArray s 0 0 (vF ad s.heap.size)) (F0 m 167 ls []) := by
      intro I31 A32 L33 h H locs hP hS ls hl
      subst ek30
      exact W.vret hx hb hr (fun t9 ht9 hW9 => ⟨⟨(I31, G, A32, L33), rfl, by cases h; rfl, by rw [ht9]; exact hP, va_K.moved hW9.alike hK⟩, hS.F ht9⟩) hS.2.2 dX5_finish_167
    have lp23 : ∀ (n : Nat) (v24 : Int32) (v25 : Int64) (v26 : Int32) (I27 : Nat → Nat → Int32) (A28 : Nat → Nat → Int32) (L29 : Nat → Nat → Int64), f_X5_finish_L85 o G k30 n v24 v25 v26 I27 A28 L29 = some (I0, A0, L0) → ∀ (H : Heap) (locs : List Loc), va_P D vwCl (VW K ad I27 G A28 L29) H → va_S (vF ad s.heap.size) s.heap H locs → ∀ (ls : Array Slot), lv_has ls 7 [(6, .int v24), (4, .long v25), (3, .int v26), (0, .ref (ad o))] → W p l e ({ frames := 5, cells := 0, slots := 0, locals := 182 }) s m ([.ref (ad o), .int a1, .int a2] : List Value).toArray below meth c H locs 0 0 (MQ below (va_Qv (fun (u : Mem) => u = (I0, G, A0, L0)) (vB D K ad) (vF ad s.heap.size)) ([.ref (ad o), .int a1, .int a2] : List Value).toArray s 0 0 (vF ad s.heap.size)) (F0 m 85 ls []) := by
      intro n
      induction n with
      | zero => intro v24 v25 v26 I27 A28 L29 h; exact absurd h (by rw [f_X5_finish_L85]; exact nofun)
      | succ n ih23 =>
        intro v24 v25 v26 I27 A28 L29 h H locs hP hS ls hl
        rw [f_X5_finish_L85] at h
        refine lv_iload hx hb dX5_finish_85 (lv_at hl 0 rfl) ?_
        refine lv_aload_n hx hb dX5_finish_87 rfl (lv_at hl 3 rfl) ?_
        refine vgG hx hb hts hi5 hown hK hP (o) (s318 hk1.1) hk1.2 (C := RX5) (T := TX5) (N := 16) rfl 14 (by decide) (by decide) (by decide) (by decide) (hts (.fieldLink RX5 45 "CrateHelpers$Tree" "problem" "LCrateHelpers$Problem;") (by decide +kernel)) (fun _ h9 => h9) dX5_finish_88 ?_
        obtain ⟨hk34, h⟩ := gk h
        refine vgS hx hb hts hi1 hown hK hP (G o 14) (s318 hk34.1) hk34.2 (C := RX1) (T := TX1) (N := 9) rfl 4 (by decide) (by decide) (by decide) (by decide) (G o 14 + 1) rfl (hts (.fieldLink RX5 108 "CrateHelpers$Problem" "sizes" "[I") (by decide +kernel)) (fun _ h9 => h9) dX5_finish_91 ?_
        refine lv_iload_n hx hb dX5_finish_94 rfl (lv_at hl 2 rfl) ?_
        obtain ⟨hk35, h⟩ := gk h
        obtain ⟨hn36, h⟩ := gk h
        refine xiald hx hb hK hP (G o 14 + 1) (s318 hk35.1) hk35.2 hn36 dX5_finish_95 ?_
        refine lv_icmp_ge (tgt := 167) hx hb dX5_finish_96 (by decide) (fun c_37 => ?_) (fun c_37 => ?_)
        · have h := iN (Int32.not_lt.mpr c_37) h
          exact kk30 I27 A28 L29 h _ _ hP hS ls (lv_sub hl [] rfl)
        · have h := ip (Int32.not_le.mp c_37) h
          refine lv_aload_n hx hb dX5_finish_99 rfl (lv_at hl 3 rfl) ?_
          refine vgI hx hb hts hi5 hown hK hP (o) (s318 hk1.1) hk1.2 (C := RX5) (T := TX5) (N := 16) rfl 9 (by decide) (by decide) (by decide) (by decide) (hts (.fieldLink RX5 15 "CrateHelpers$Tree" "known" "I") (by decide +kernel)) (fun _ h9 => h9) dX5_finish_100 ?_
          refine lv_aload_n hx hb dX5_finish_103 rfl (lv_at hl 3 rfl) ?_
          refine vgS hx hb hts hi5 hown hK hP (o) (s318 hk1.1) hk1.2 (C := RX5) (T := TX5) (N := 16) rfl 0 (by decide) (by decide) (by decide) (by decide) (o + 1) rfl (hts (.fieldLink RX5 49 "CrateHelpers$Tree" "place" "[J") (by decide +kernel)) (fun _ h9 => h9) dX5_finish_104 ?_
          refine vlenL hx hb hK hP (o + 1) (s318 hk14.1) hk14.2 dX5_finish_107 ?_
          refine lv_icmp_ge (tgt := 167) hx hb dX5_finish_108 (by decide) (fun c_38 => ?_) (fun c_38 => ?_)
          · have h := iN (Int32.not_lt.mpr c_38) h
            exact kk30 I27 A28 L29 h _ _ hP hS ls (lv_sub hl [] rfl)
          · have h := ip (Int32.not_le.mp c_38) h
            refine lv_aload_n hx hb dX5_finish_111 rfl (lv_at hl 3 rfl) ?_
            refine vgS hx hb hts hi5 hown hK hP (o) (s318 hk1.1) hk1.2 (C := RX5) (T := TX5) (N := 16) rfl 12 (by decide) (by decide) (by decide) (by decide) (o + 10) rfl (hts (.fieldLink RX5 25 "CrateHelpers$Tree" "values" "[I") (by decide +kernel)) (fun _ h9 => h9) dX5_finish_112 ?_
            refine lv_iload_n hx hb dX5_finish_115 rfl (lv_at hl 2 rfl) ?_
            refine lv_iload hx hb dX5_finish_116 (lv_at hl 0 rfl) ?_
            obtain ⟨hk39, h⟩ := gk h
            obtain ⟨hn40, h⟩ := gk h
            refine xiast hx hb hK hP hap hS (o + 10) (s318 hk39.1) hk39.2 hn40 dX5_finish_118 (fun H locs hP hS => ?_)
            obtain ⟨A41, eA41, h⟩ := bd_e h
            rw [← eA41] at hP
            have hP : va_P D vwCl (VW K ad I27 G A41 L29) H := hP
            refine lv_aload_n hx hb dX5_finish_119 rfl (lv_at hl 3 rfl) ?_
            refine vgS hx hb hts hi5 hown hK hP (o) (s318 hk1.1) hk1.2 (C := RX5) (T := TX5) (N := 16) rfl 13 (by decide) (by decide) (by decide) (by decide) (o + 11) rfl (hts (.fieldLink RX5 31 "CrateHelpers$Tree" "judge" "LCrateHelpers$Judge;") (by decide +kernel)) (fun _ h9 => h9) dX5_finish_120 ?_
            refine lv_aload_n hx hb dX5_finish_123 rfl (lv_at hl 3 rfl) ?_
            refine vgG hx hb hts hi5 hown hK hP (o) (s318 hk1.1) hk1.2 (C := RX5) (T := TX5) (N := 16) rfl 14 (by decide) (by decide) (by decide) (by decide) (hts (.fieldLink RX5 45 "CrateHelpers$Tree" "problem" "LCrateHelpers$Problem;") (by decide +kernel)) (fun _ h9 => h9) dX5_finish_124 ?_
            refine lv_aload_n hx hb dX5_finish_127 rfl (lv_at hl 3 rfl) ?_
            refine vgS hx hb hts hi5 hown hK hP (o) (s318 hk1.1) hk1.2 (C := RX5) (T := TX5) (N := 16) rfl 12 (by decide) (by decide) (by decide) (by decide) (o + 10) rfl (hts (.fieldLink RX5 25 "CrateHelpers$Tree" "values" "[I") (by decide +kernel)) (fun _ h9 => h9) dX5_finish_128 ?_
            refine lv_iload_n hx hb dX5_finish_131 rfl (lv_at hl 2 rfl) ?_
            refine lv_iconst (v := 1) hx hb dX5_finish_132 (by decide) ?_
            refine lv_iadd hx hb dX5_finish_133 ?_
            refine lv_aload_n hx hb dX5_finish_134 rfl (lv_at hl 3 rfl) ?_
            refine vgI hx hb hts hi5 hown hK hP (o) (s318 hk1.1) hk1.2 (C := RX5) (T := TX5) (N := 16) rfl 15 (by decide) (by decide) (by decide) (by decide) (hts (.fieldLink RX5 35 "CrateHelpers$Tree" "mindsTwins" "Z") (by decide +kernel)) (fun _ h9 => h9) dX5_finish_135 ?_
            obtain ⟨hk42, h⟩ := gk h
            obtain ⟨I43, hc44, h⟩ := Option.bind_eq_some_iff.mp h
            refine ecVv (As := [.ref (ad (G o 14)), .ref (ad (o + 10)), .int (v26 + 1), .int (I27 o 15)]) (rest := []) ⟨hx, hb, hml, hown, hts⟩ (e_X0_look l D K ad hap0 (o + 11) (G o 14) (o + 10) (v26 + 1) (I27 o 15) I27 G A41 L29 I43 hc44) (cwV 4 hts gX5_finish_X0_look rfl rfl rfl (by decide +kernel) ⟨Nat.le_of_ble_eq_true rfl, Nat.le_of_ble_eq_true rfl⟩) hK hP hS (s318 hk42.1) hk42.2 (by decide) rfl rfl rfl hl.1 (Nat.le_of_ble_eq_true rfl) (Nat.le_of_ble_eq_true rfl) (Nat.le_of_ble_eq_true rfl) dX5_finish_138 (fun H locs hP hS => ?_) rfl
            have hP : va_P D vwCl (VW K ad I43 G A41 L29) H := hP
            refine lv_aload_n hx hb dX5_finish_141 rfl (lv_at hl 3 rfl) ?_
            refine lv_iload_n hx hb dX5_finish_142 rfl (lv_at hl 2 rfl) ?_
            refine lv_iconst (v := 1) hx hb dX5_finish_143 (by decide) ?_
            refine lv_iadd hx hb dX5_finish_144 ?_
            refine lv_lload hx hb dX5_finish_145 (lv_at hl 1 rfl) ?_
            refine lv_iload hx hb dX5_finish_147 (lv_at hl 0 rfl) ?_
            refine lv_iconst (v := 1) hx hb dX5_finish_149 (by decide) ?_
            refine lv_iadd hx hb dX5_finish_150 ?_
            refine lv_i2l hx hb dX5_finish_151 rfl ?_
            refine lv_iload_n hx hb dX5_finish_152 rfl (lv_at hl 2 rfl) ?_
            obtain ⟨r45, hc46, h⟩ := Option.bind_eq_some_iff.mp h
            refine ecS (As := [.int v26]) (rest := [.long ((v24 + 1).toInt64), .long v25, .int (v26 + 1), .ref (ad o)]) ⟨hx, hb, hml, hown, hts⟩ (e_X5_shiftOf l D K ad hap0 v26 I43 G A41 L29 r45 hc46) (va_cwS 1 hts gX5_finish_X5_shiftOf rfl rfl rfl (by decide +kernel) ⟨Nat.le_of_ble_eq_true rfl, Nat.le_of_ble_eq_true rfl⟩) hK hP hS rfl hl.1 (Nat.le_of_ble_eq_true rfl) (Nat.le_of_ble_eq_true rfl) (Nat.le_of_ble_eq_true rfl) dX5_finish_153 (fun H locs hP hS => ?_) rfl
            have hP : va_P D vwCl (VW K ad I43 G A41 L29) H := hP
            refine lv_lshl hx hb dX5_finish_156 rfl ?_
            refine lv_lor hx hb dX5_finish_157 ?_
            obtain ⟨⟨I47, A48, L49⟩, hc50, h⟩ := Option.bind_eq_some_iff.mp h
            refine ecVv (As := [.int (v26 + 1), .long (v25 ||| (((v24 + 1).toInt64) <<< (r45.toInt64 &&& 63)))]) (rest := []) ⟨hx, hb, hml, hown, hts⟩ (e_X5_addJudged l D K ad hap0 o (v26 + 1) (v25 ||| (((v24 + 1).toInt64) <<< (r45.toInt64 &&& 63))) I43 G A41 L29 I47 A48 L49 hc50) (cwV 2 hts gX5_finish_X5_addJudged rfl rfl rfl (by decide +kernel) ⟨Nat.le_of_ble_eq_true rfl, Nat.le_of_ble_eq_true rfl⟩) hK hP hS (s318 hk1.1) hk1.2 (by decide) rfl rfl rfl hl.1 (Nat.le_of_ble_eq_true rfl) (Nat.le_of_ble_eq_true rfl) (Nat.le_of_ble_eq_true rfl) dX5_finish_158 (fun H locs hP hS => ?_) rfl
            have hP : va_P D vwCl (VW K ad I47 G A48 L49) H := hP
            refine lv_iinc (v := (v24 + 1)) (lv' := [(6, .int (v24 + 1)), (4, .long v25), (3, .int v26), (0, .ref (ad o))]) hx hb dX5_finish_161 hl (k := 0) rfl rfl (by decide) rfl (fun ls hl => ?_)
            refine lv_goto (tgt := 85) hx hb dX5_finish_164 (by decide) ?_
            exact ih23 (v24 + 1) v25 v26 I47 A48 L49 h _ _ hP hS ls (lv_sub hl [0, 1, 2, 3] rfl)
    exact lp23 FU 0 ((L (o + 1) a1.toNatClampNeg) &&& 262143) (A7 (o + 2) a1.toNatClampNeg) I8 A22 L h _ _ hP hS ls (lv_sub hl [0, 1, 2, 3] rfl)
  · have h := iN c_11 h
    exact W.vret hx hb hr (fun t9 ht9 hW9 => ⟨⟨(I8, G, A7, L), rfl, by cases h; rfl, by rw [ht9]; exact hP, va_K.moved hW9.alike hK⟩, hS.F ht9⟩) hS.2.2 dX5_finish_33
set_option maxHeartbeats 4000000 in
set_option maxRecDepth 100000 in
theorem e_X3_takeTurn (l : Launch) (D : va_G) (K : Nat → ClassId) (ad : Nat → Nat) (hap0 : apart ad (fun _ => True)) (I : Nat → Nat → Int32) (G : Nat → Nat → Nat) (A : Nat → Nat → Int32) (L : Nat → Nat → Int64) (r0 : Int32) (I0 : Nat → Nat → Int32) (A0 : Nat → Nat → Int32) (L0 : Nat → Nat → Int64) (h : f_X3_takeTurn I G A L = some (r0, I0, A0, L0)) : Ci l D K ad yX3_takeTurn wsX3_takeTurn 6 211 [.ref (ad 14)] (I, G, A, L) (fun (r : Int32) (u : Mem) => r = r0 ∧ u = (I0, G, A0, L0)) := by
  intro sz
  refine Met.ofW (cc := cX3_takeTurn) (maxL := 2) (ret := (some .int)) (by decide) rfl ?_
  intro p e s m args below meth c s₁ Bd hml hv0
  obtain ⟨rfl, hsz, hP, hK⟩ := hv0
  have hx := Bd.exec
  have hb := Bd.bytes
  have hr := Bd.returns
  have hts := atoms_spec (ws := wsX3_takeTurn) Bd.pre
  have hown : s.vm.findClass RX3 = some m.cls := findClass_of_methodNamed Bd.named
  have hlocks := Bd.notSynchronized
  have hi3 : ∀ w ∈ u_ws RX3 TX3 6, w ∈ wsX3_takeTurn := fun w h => List.mem_cons_of_mem _ (List.mem_append_left _ (List.mem_append_left _ (List.mem_append_left _ (List.mem_append_left _ (List.mem_append_left _ (List.mem_append_right _ h))))))
  have hi4 : ∀ w ∈ u_ws RX4 TX4 7, w ∈ wsX3_takeTurn := fun w h => List.mem_cons_of_mem _ (List.mem_append_left _ (List.mem_append_left _ (List.mem_append_left _ (List.mem_append_left _ (List.mem_append_right _ h)))))
  have hi5 : ∀ w ∈ u_ws RX5 TX5 16, w ∈ wsX3_takeTurn := fun w h => List.mem_cons_of_mem _ (List.mem_append_left _ (List.mem_append_left _ (List.mem_append_left _ (List.mem_append_right _ h))))
  have hi1 : ∀ w ∈ u_ws RX1 TX1 9, w ∈ wsX3_takeTurn := fun w h => List.mem_cons_of_mem _ (List.mem_append_left _ (List.mem_append_left _ (List.mem_append_right _ h)))
  have hi0 : ∀ w ∈ u_ws RX0 TX0 3, w ∈ wsX3_takeTurn := fun w h => List.mem_cons_of_mem _ (List.mem_append_left _ (List.mem_append_right _ h))
  have hi2 : ∀ w ∈ u_ws RX2 TX2 7, w ∈ wsX3_takeTurn := fun w h => List.mem_cons_of_mem _ (List.mem_append_right _ h)
  subst hsz
  have hap := vF_ap hap0 s.heap.size
  have hS : va_S (vF ad s.heap.size) s.heap s.heap [] := va_S.rf
  have hP : va_P D vwCl (VW K ad I G A L) s.heap := hP
  have hl := lv_entry ([.ref (ad 14)]) (n := 2) (Nat.le_of_ble_eq_true rfl)
  rw [lg_entry_eq]
  generalize (lg_sl ([.ref (ad 14)]) ++ List.replicate (2 - (lg_sl ([.ref (ad 14)])).length) Slot.unset).toArray = ls at hl ⊢
  have hl : lv_has ls 2 [(0, .ref (ad 14))] := hl
  rw [f_X3_takeTurn] at h
  refine lv_aload_n hx hb dX3_takeTurn_0 rfl (lv_at hl 0 rfl) ?_
  refine vgG hx hb hts hi3 hown hK hP (14) (by decide) (show kd 14 = 3 by decide) (C := RX3) (T := TX3) (N := 6) rfl 1 (by decide) (by decide) (by decide) (by decide) (hts (.fieldLink RX3 34 "CrateHelpers$Solving" "team" "LCrateHelpers$Team;") (by decide +kernel)) (fun _ h9 => h9) dX3_takeTurn_1 ?_
  refine lv_aload_n hx hb dX3_takeTurn_4 rfl (lv_at hl 0 rfl) ?_
  refine vgI hx hb hts hi3 hown hK hP (14) (by decide) (show kd 14 = 3 by decide) (C := RX3) (T := TX3) (N := 6) rfl 3 (by decide) (by decide) (by decide) (by decide) (hts (.fieldLink RX3 15 "CrateHelpers$Solving" "turns" "I") (by decide +kernel)) (fun _ h9 => h9) dX3_takeTurn_5 ?_
  obtain ⟨hk1, h⟩ := gk h
  obtain ⟨r2, hc3, h⟩ := Option.bind_eq_some_iff.mp h
  refine ecV (As := [.int (I 14 3)]) (rest := []) ⟨hx, hb, hml, hown, hts⟩ (e_X4_whoHasTurn l D K ad hap0 (G 14 1) (I 14 3) I G A L r2 hc3) (cwV 1 hts gX3_takeTurn_X4_whoHasTurn rfl rfl rfl (by decide +kernel) ⟨Nat.le_of_ble_eq_true rfl, Nat.le_of_ble_eq_true rfl⟩) hK hP hS (s318 hk1.1) hk1.2 (by decide) rfl rfl rfl hl.1 (Nat.le_of_ble_eq_true rfl) (Nat.le_of_ble_eq_true rfl) (Nat.le_of_ble_eq_true rfl) dX3_takeTurn_8 (fun H locs hP hS => ?_) rfl
  have hP : va_P D vwCl (VW K ad I G A L) H := hP
  refine lv_istore_n (lv' := [(1, .int r2), (0, .ref (ad 14))]) hx hb dX3_takeTurn_11 rfl hl (by decide) rfl (fun ls hl => ?_)
  refine lv_aload_n hx hb dX3_takeTurn_12 rfl (lv_at hl 1 rfl) ?_
  refine lv_dup hx hb dX3_takeTurn_13 rfl ?_
  refine vgI hx hb hts hi3 hown hK hP (14) (by decide) (show kd 14 = 3 by decide) (C := RX3) (T := TX3) (N := 6) rfl 3 (by decide) (by decide) (by decide) (by decide) (hts (.fieldLink RX3 15 "CrateHelpers$Solving" "turns" "I") (by decide +kernel)) (fun _ h9 => h9) dX3_takeTurn_14 ?_
  refine lv_iconst (v := 1) hx hb dX3_takeTurn_17 (by decide) ?_
  refine lv_iadd hx hb dX3_takeTurn_18 ?_
  refine vpI (v := ((I 14 3) + 1)) (ty := .int) hx hb hts hi3 tyX3 tyX3_ok nmX3 hown hK hP hap hS (14) (by decide) (show kd 14 = 3 by decide) (C := RX3) (T := TX3) (N := 6) rfl 3 (by decide) (by decide) (by decide) (by decide) (hts (.fieldLink RX3 15 "CrateHelpers$Solving" "turns" "I") (by decide +kernel)) (fun _ h9 => h9) rfl (by decide +kernel) rfl rfl dX3_takeTurn_19 (fun H locs hP hS => ?_)
  obtain ⟨I4, eI4, h⟩ := bd_e h
  rw [← eI4] at hP
  have hP : va_P D vwCl (VW K ad I4 G A L) H := hP
  refine lv_aload_n hx hb dX3_takeTurn_22 rfl (lv_at hl 1 rfl) ?_
  refine vgS hx hb hts hi3 hown hK hP (14) (by decide) (show kd 14 = 3 by decide) (C := RX3) (T := TX3) (N := 6) rfl 4 (by decide) (by decide) (by decide) (by decide) (15) rfl (hts (.fieldLink RX3 18 "CrateHelpers$Solving" "holds" "[I") (by decide +kernel)) (fun _ h9 => h9) dX3_takeTurn_23 ?_
  refine lv_iload_n hx hb dX3_takeTurn_26 rfl (lv_at hl 0 rfl) ?_
  obtain ⟨hn5, h⟩ := gk h
  refine xiald hx hb hK hP (15) (by decide) (show kd 15 = 8 by decide) (by rw [show ln 15 = 5 by decide]; exact hn5) dX3_takeTurn_27 ?_
  refine lv_iconst (v := (-1)) hx hb dX3_takeTurn_28 (by decide) ?_
  refine lv_icmp_ne (tgt := 40) hx hb dX3_takeTurn_29 (by decide) (fun c_6 => ?_) (fun c_6 => ?_)
  · have h := iN c_6 h
    refine lv_aload_n hx hb dX3_takeTurn_40 rfl (lv_at hl 1 rfl) ?_
    refine vgS hx hb hts hi3 hown hK hP (14) (by decide) (show kd 14 = 3 by decide) (C := RX3) (T := TX3) (N := 6) rfl 5 (by decide) (by decide) (by decide) (by decide) (16) rfl (hts (.fieldLink RX3 22 "CrateHelpers$Solving" "had" "[I") (by decide +kernel)) (fun _ h9 => h9) dX3_takeTurn_41 ?_
    refine lv_iload_n hx hb dX3_takeTurn_44 rfl (lv_at hl 0 rfl) ?_
    refine xiald hx hb hK hP (16) (by decide) (show kd 16 = 8 by decide) (by rw [show ln 16 = 5 by decide]; exact hn5) dX3_takeTurn_45 ?_
    refine lv_aload_n hx hb dX3_takeTurn_46 rfl (lv_at hl 1 rfl) ?_
    refine vgG hx hb hts hi3 hown hK hP (14) (by decide) (show kd 14 = 3 by decide) (C := RX3) (T := TX3) (N := 6) rfl 1 (by decide) (by decide) (by decide) (by decide) (hts (.fieldLink RX3 34 "CrateHelpers$Solving" "team" "LCrateHelpers$Team;") (by decide +kernel)) (fun _ h9 => h9) dX3_takeTurn_47 ?_
    refine vgS hx hb hts hi4 hown hK hP (G 14 1) (s318 hk1.1) hk1.2 (C := RX4) (T := TX4) (N := 7) rfl 2 (by decide) (by decide) (by decide) (by decide) (G 14 1 + 1) rfl (hts (.fieldLink RX3 65 "CrateHelpers$Team" "failAt" "[I") (by decide +kernel)) (fun _ h9 => h9) dX3_takeTurn_50 ?_
    refine lv_iload_n hx hb dX3_takeTurn_53 rfl (lv_at hl 0 rfl) ?_
    obtain ⟨hk7, h⟩ := gk h
    obtain ⟨hn8, h⟩ := gk h
    refine xiald hx hb hK hP (G 14 1 + 1) (s318 hk7.1) hk7.2 hn8 dX3_takeTurn_54 ?_
    refine lv_icmp_ne (tgt := 66) hx hb dX3_takeTurn_55 (by decide) (fun c_9 => ?_) (fun c_9 => ?_)
    · have h := iN c_9 h
      refine lv_aload_n hx hb dX3_takeTurn_66 rfl (lv_at hl 1 rfl) ?_
      refine vgG hx hb hts hi3 hown hK hP (14) (by decide) (show kd 14 = 3 by decide) (C := RX3) (T := TX3) (N := 6) rfl 0 (by decide) (by decide) (by decide) (by decide) (hts (.fieldLink RX3 30 "CrateHelpers$Solving" "tree" "LCrateHelpers$Tree;") (by decide +kernel)) (fun _ h9 => h9) dX3_takeTurn_67 ?_
      refine lv_aload_n hx hb dX3_takeTurn_70 rfl (lv_at hl 1 rfl) ?_
      refine vgS hx hb hts hi3 hown hK hP (14) (by decide) (show kd 14 = 3 by decide) (C := RX3) (T := TX3) (N := 6) rfl 4 (by decide) (by decide) (by decide) (by decide) (15) rfl (hts (.fieldLink RX3 18 "CrateHelpers$Solving" "holds" "[I") (by decide +kernel)) (fun _ h9 => h9) dX3_takeTurn_71 ?_
      refine lv_iload_n hx hb dX3_takeTurn_74 rfl (lv_at hl 0 rfl) ?_
      refine xiald hx hb hK hP (15) (by decide) (show kd 15 = 8 by decide) (by rw [show ln 15 = 5 by decide]; exact hn5) dX3_takeTurn_75 ?_
      refine lv_iload_n hx hb dX3_takeTurn_76 rfl (lv_at hl 0 rfl) ?_
      obtain ⟨hk10, h⟩ := gk h
      obtain ⟨⟨I11, A12, L13⟩, hc14, h⟩ := Option.bind_eq_some_iff.mp h
      refine ecVv (As := [.int (A 15 r2.toNatClampNeg), .int r2]) (rest := []) ⟨hx, hb, hml, hown, hts⟩ (e_X5_finish l D K ad hap0 (G 14 0) (A 15 r2.toNatClampNeg) r2 I4 G A L I11 A12 L13 hc14) (cwV 2 hts gX3_takeTurn_X5_finish rfl rfl rfl (by decide +kernel) ⟨Nat.le_of_ble_eq_true rfl, Nat.le_of_ble_eq_true rfl⟩) hK hP hS (s318 hk10.1) hk10.2 (by decide) rfl rfl rfl hl.1 (Nat.le_of_ble_eq_true rfl) (Nat.le_of_ble_eq_true rfl) (Nat.le_of_ble_eq_true rfl) dX3_takeTurn_77 (fun H locs hP hS => ?_) rfl
      have hP : va_P D vwCl (VW K ad I11 G A12 L13) H := hP
      refine lv_aload_n hx hb dX3_takeTurn_80 rfl (lv_at hl 1 rfl) ?_
      refine vgG hx hb hts hi3 hown hK hP (14) (by decide) (show kd 14 = 3 by decide) (C := RX3) (T := TX3) (N := 6) rfl 1 (by decide) (by decide) (by decide) (by decide) (hts (.fieldLink RX3 34 "CrateHelpers$Solving" "team" "LCrateHelpers$Team;") (by decide +kernel)) (fun _ h9 => h9) dX3_takeTurn_81 ?_
      refine vgS hx hb hts hi4 hown hK hP (G 14 1) (s318 hk1.1) hk1.2 (C := RX4) (T := TX4) (N := 7) rfl 4 (by decide) (by decide) (by decide) (by decide) (G 14 1 + 3) rfl (hts (.fieldLink RX3 38 "CrateHelpers$Team" "done" "[I") (by decide +kernel)) (fun _ h9 => h9) dX3_takeTurn_84 ?_
      refine lv_iload_n hx hb dX3_takeTurn_87 rfl (lv_at hl 0 rfl) ?_
      refine lv_dup2_11 hx hb dX3_takeTurn_88 rfl rfl ?_
      obtain ⟨hk15, h⟩ := gk h
      obtain ⟨hn16, h⟩ := gk h
      refine xiald hx hb hK hP (G 14 1 + 3) (s318 hk15.1) hk15.2 hn16 dX3_takeTurn_89 ?_
      refine lv_iconst (v := 1) hx hb dX3_takeTurn_90 (by decide) ?_
      refine lv_iadd hx hb dX3_takeTurn_91 ?_
      refine xiast hx hb hK hP hap hS (G 14 1 + 3) (s318 hk15.1) hk15.2 hn16 dX3_takeTurn_92 (fun H locs hP hS => ?_)
      obtain ⟨A17, eA17, h⟩ := bd_e h
      rw [← eA17] at hP
      have hP : va_P D vwCl (VW K ad I11 G A17 L13) H := hP
      refine lv_aload_n hx hb dX3_takeTurn_93 rfl (lv_at hl 1 rfl) ?_
      refine vgS hx hb hts hi3 hown hK hP (14) (by decide) (show kd 14 = 3 by decide) (C := RX3) (T := TX3) (N := 6) rfl 4 (by decide) (by decide) (by decide) (by decide) (15) rfl (hts (.fieldLink RX3 18 "CrateHelpers$Solving" "holds" "[I") (by decide +kernel)) (fun _ h9 => h9) dX3_takeTurn_94 ?_
      refine lv_iload_n hx hb dX3_takeTurn_97 rfl (lv_at hl 0 rfl) ?_
      refine lv_iconst (v := (-1)) hx hb dX3_takeTurn_98 (by decide) ?_
      refine xiast hx hb hK hP hap hS (15) (by decide) (show kd 15 = 8 by decide) (by rw [show ln 15 = 5 by decide]; exact hn5) dX3_takeTurn_99 (fun H locs hP hS => ?_)
      obtain ⟨A18, eA18, h⟩ := bd_e h
      rw [← eA18] at hP
      have hP : va_P D vwCl (VW K ad I11 G A18 L13) H := hP
      refine lv_aload_n hx hb dX3_takeTurn_100 rfl (lv_at hl 1 rfl) ?_
      obtain ⟨⟨r19, I20, A21⟩, hc22, h⟩ := Option.bind_eq_some_iff.mp h
      refine ecV (As := []) (rest := []) ⟨hx, hb, hml, hown, hts⟩ (e_X3_walkOn l D K ad hap0  I11 G A18 L13 r19 I20 A21 hc22) (cwV 0 hts gX3_takeTurn_X3_walkOn rfl rfl rfl (by decide +kernel) ⟨Nat.le_of_ble_eq_true rfl, Nat.le_of_ble_eq_true rfl⟩) hK hP hS (by decide) (show kd 14 = 3 by decide) (by decide) rfl rfl rfl hl.1 (Nat.le_of_ble_eq_true rfl) (Nat.le_of_ble_eq_true rfl) (Nat.le_of_ble_eq_true rfl) dX3_takeTurn_101 (fun H locs hP hS => ?_) rfl
      have hP : va_P D vwCl (VW K ad I20 G A21 L13) H := hP
      exact W.iret (v := r19) hx hb hr (fun t9 ht9 hW9 => ⟨⟨r19, (I20, G, A21, L13), rfl, by cases h; exact ⟨rfl, rfl⟩, by rw [ht9]; exact hP, va_K.moved hW9.alike hK⟩, hS.F ht9⟩) hS.2.2 dX3_takeTurn_104
    · have h := ip c_9 h
      refine lv_aload_n hx hb dX3_takeTurn_58 rfl (lv_at hl 1 rfl) ?_
      refine lv_iload_n hx hb dX3_takeTurn_59 rfl (lv_at hl 0 rfl) ?_
      obtain ⟨A23, hc24, h⟩ := Option.bind_eq_some_iff.mp h
      refine ecVv (As := [.int r2]) (rest := []) ⟨hx, hb, hml, hown, hts⟩ (e_X3_replace l D K ad hap0 r2 I4 G A L A23 hc24) (cwV 1 hts gX3_takeTurn_X3_replace rfl rfl rfl (by decide +kernel) ⟨Nat.le_of_ble_eq_true rfl, Nat.le_of_ble_eq_true rfl⟩) hK hP hS (by decide) (show kd 14 = 3 by decide) (by decide) rfl rfl rfl hl.1 (Nat.le_of_ble_eq_true rfl) (Nat.le_of_ble_eq_true rfl) (Nat.le_of_ble_eq_true rfl) dX3_takeTurn_60 (fun H locs hP hS => ?_) rfl
      have hP : va_P D vwCl (VW K ad I4 G A23 L) H := hP
      refine lv_goto (tgt := 100) hx hb dX3_takeTurn_63 (by decide) ?_
      refine lv_aload_n hx hb dX3_takeTurn_100 rfl (lv_at hl 1 rfl) ?_
      obtain ⟨⟨r25, I26, A27⟩, hc28, h⟩ := Option.bind_eq_some_iff.mp h
      refine ecV (As := []) (rest := []) ⟨hx, hb, hml, hown, hts⟩ (e_X3_walkOn l D K ad hap0  I4 G A23 L r25 I26 A27 hc28) (cwV 0 hts gX3_takeTurn_X3_walkOn rfl rfl rfl (by decide +kernel) ⟨Nat.le_of_ble_eq_true rfl, Nat.le_of_ble_eq_true rfl⟩) hK hP hS (by decide) (show kd 14 = 3 by decide) (by decide) rfl rfl rfl hl.1 (Nat.le_of_ble_eq_true rfl) (Nat.le_of_ble_eq_true rfl) (Nat.le_of_ble_eq_true rfl) dX3_takeTurn_101 (fun H locs hP hS => ?_) rfl
      have hP : va_P D vwCl (VW K ad I26 G A27 L) H := hP
      exact W.iret (v := r25) hx hb hr (fun t9 ht9 hW9 => ⟨⟨r25, (I26, G, A27, L), rfl, by cases h; exact ⟨rfl, rfl⟩, by rw [ht9]; exact hP, va_K.moved hW9.alike hK⟩, hS.F ht9⟩) hS.2.2 dX3_takeTurn_104
  · have h := ip c_6 h
    refine lv_aload_n hx hb dX3_takeTurn_32 rfl (lv_at hl 1 rfl) ?_
    refine lv_iload_n hx hb dX3_takeTurn_33 rfl (lv_at hl 0 rfl) ?_
    obtain ⟨A29, hc30, h⟩ := Option.bind_eq_some_iff.mp h
    refine ecVv (As := [.int r2]) (rest := []) ⟨hx, hb, hml, hown, hts⟩ (e_X3_pick l D K ad hap0 r2 I4 G A L A29 hc30) (cwV 1 hts gX3_takeTurn_X3_pick rfl rfl rfl (by decide +kernel) ⟨Nat.le_of_ble_eq_true rfl, Nat.le_of_ble_eq_true rfl⟩) hK hP hS (by decide) (show kd 14 = 3 by decide) (by decide) rfl rfl rfl hl.1 (Nat.le_of_ble_eq_true rfl) (Nat.le_of_ble_eq_true rfl) (Nat.le_of_ble_eq_true rfl) dX3_takeTurn_34 (fun H locs hP hS => ?_) rfl
    have hP : va_P D vwCl (VW K ad I4 G A29 L) H := hP
    refine lv_goto (tgt := 100) hx hb dX3_takeTurn_37 (by decide) ?_
    refine lv_aload_n hx hb dX3_takeTurn_100 rfl (lv_at hl 1 rfl) ?_
    obtain ⟨⟨r31, I32, A33⟩, hc34, h⟩ := Option.bind_eq_some_iff.mp h
    refine ecV (As := []) (rest := []) ⟨hx, hb, hml, hown, hts⟩ (e_X3_walkOn l D K ad hap0  I4 G A29 L r31 I32 A33 hc34) (cwV 0 hts gX3_takeTurn_X3_walkOn rfl rfl rfl (by decide +kernel) ⟨Nat.le_of_ble_eq_true rfl, Nat.le_of_ble_eq_true rfl⟩) hK hP hS (by decide) (show kd 14 = 3 by decide) (by decide) rfl rfl rfl hl.1 (Nat.le_of_ble_eq_true rfl) (Nat.le_of_ble_eq_true rfl) (Nat.le_of_ble_eq_true rfl) dX3_takeTurn_101 (fun H locs hP hS => ?_) rfl
    have hP : va_P D vwCl (VW K ad I32 G A33 L) H := hP
    exact W.iret (v := r31) hx hb hr (fun t9 ht9 hW9 => ⟨⟨r31, (I32, G, A33, L), rfl, by cases h; exact ⟨rfl, rfl⟩, by rw [ht9]; exact hP, va_K.moved hW9.alike hK⟩, hS.F ht9⟩) hS.2.2 dX3_takeTurn_104
set_option maxHeartbeats 4000000 in
set_option maxRecDepth 100000 in
theorem e_X6_same (l : Launch) (D : va_G) (K : Nat → ClassId) (ad : Nat → Nat) (hap0 : apart ad (fun _ => True)) (a1 : Int32) (a2 : Int32) (I : Nat → Nat → Int32) (G : Nat → Nat → Nat) (A : Nat → Nat → Int32) (L : Nat → Nat → Int64) (r0 : Int32) (I0 : Nat → Nat → Int32) (G0 : Nat → Nat → Nat) (A0 : Nat → Nat → Int32) (L0 : Nat → Nat → Int64) (h : f_X6_same I G A L a1 a2 = some (r0, I0, G0, A0, L0)) : Ci l D K ad yX6_same wsX6_same 7 235 [.ref (ad 0), .int a1, .int a2] (I, G, A, L) (fun (r : Int32) (u : Mem) => r = r0 ∧ u = (I0, G0, A0, L0)) := by
  intro sz
  refine Met.ofW (cc := cX6_same) (maxL := 6) (ret := (some .int)) (by decide) rfl ?_
  intro p e s m args below meth c s₁ Bd hml hv0
  obtain ⟨rfl, hsz, hP, hK⟩ := hv0
  have hx := Bd.exec
  have hb := Bd.bytes
  have hr := Bd.returns
  have hts := atoms_spec (ws := wsX6_same) Bd.pre
  have hown : s.vm.findClass RX6 = some m.cls := findClass_of_methodNamed Bd.named
  have hlocks := Bd.notSynchronized
  have hi6 : ∀ w ∈ u_ws RX6 TX6 18, w ∈ wsX6_same := fun w h => List.mem_cons_of_mem _ (List.mem_append_left _ (List.mem_append_left _ (List.mem_append_left _ (List.mem_append_left _ (List.mem_append_left _ (List.mem_append_left _ (List.mem_append_right _ h)))))))
  have hi4 : ∀ w ∈ u_ws RX4 TX4 7, w ∈ wsX6_same := fun w h => List.mem_cons_of_mem _ (List.mem_append_left _ (List.mem_append_left _ (List.mem_append_left _ (List.mem_append_left _ (List.mem_append_left _ (List.mem_append_right _ h))))))
  have hi3 : ∀ w ∈ u_ws RX3 TX3 6, w ∈ wsX6_same := fun w h => List.mem_cons_of_mem _ (List.mem_append_left _ (List.mem_append_left _ (List.mem_append_left _ (List.mem_append_left _ (List.mem_append_right _ h)))))
  have hi5 : ∀ w ∈ u_ws RX5 TX5 16, w ∈ wsX6_same := fun w h => List.mem_cons_of_mem _ (List.mem_append_left _ (List.mem_append_left _ (List.mem_append_left _ (List.mem_append_right _ h))))
  have hi1 : ∀ w ∈ u_ws RX1 TX1 9, w ∈ wsX6_same := fun w h => List.mem_cons_of_mem _ (List.mem_append_left _ (List.mem_append_left _ (List.mem_append_right _ h)))
  have hi0 : ∀ w ∈ u_ws RX0 TX0 3, w ∈ wsX6_same := fun w h => List.mem_cons_of_mem _ (List.mem_append_left _ (List.mem_append_right _ h))
  have hi2 : ∀ w ∈ u_ws RX2 TX2 7, w ∈ wsX6_same := fun w h => List.mem_cons_of_mem _ (List.mem_append_right _ h)
  subst hsz
  have hap := vF_ap hap0 s.heap.size
  have hS : va_S (vF ad s.heap.size) s.heap s.heap [] := va_S.rf
  have hP : va_P D vwCl (VW K ad I G A L) s.heap := hP
  have hl := lv_entry ([.ref (ad 0), .int a1, .int a2]) (n := 6) (Nat.le_of_ble_eq_true rfl)
  rw [lg_entry_eq]
  generalize (lg_sl ([.ref (ad 0), .int a1, .int a2]) ++ List.replicate (6 - (lg_sl ([.ref (ad 0), .int a1, .int a2])).length) Slot.unset).toArray = ls at hl ⊢
  have hl : lv_has ls 6 [(0, .ref (ad 0)), (1, .int a1), (2, .int a2)] := hl
  rw [f_X6_same] at h
  refine lv_aload_n hx hb dX6_same_0 rfl (lv_at hl 0 rfl) ?_
  refine lv_iload_n hx hb dX6_same_1 rfl (lv_at hl 1 rfl) ?_
  obtain ⟨r1, hc2, h⟩ := Option.bind_eq_some_iff.mp h
  refine ecV (As := [.int a1]) (rest := []) ⟨hx, hb, hml, hown, hts⟩ (e_X6_isProblem l D K ad hap0 a1 I G A L r1 hc2) (cwV 1 hts gX6_same_X6_isProblem rfl rfl rfl (by decide +kernel) ⟨Nat.le_of_ble_eq_true rfl, Nat.le_of_ble_eq_true rfl⟩) hK hP hS (by decide) (show kd 0 = 6 by decide) (by decide) rfl rfl rfl hl.1 (Nat.le_of_ble_eq_true rfl) (Nat.le_of_ble_eq_true rfl) (Nat.le_of_ble_eq_true rfl) dX6_same_2 (fun H locs hP hS => ?_) rfl
  have hP : va_P D vwCl (VW K ad I G A L) H := hP
  refine lv_if_eq (tgt := 17) hx hb dX6_same_5 (by decide) (fun c_3 => ?_) (fun c_3 => ?_)
  · have h := ip c_3 h
    refine lv_iconst (v := (-1)) hx hb dX6_same_17 (by decide) ?_
    exact W.iret (v := (-1)) hx hb hr (fun t9 ht9 hW9 => ⟨⟨(-1), (I, G, A, L), rfl, by cases h; exact ⟨rfl, rfl⟩, by rw [ht9]; exact hP, va_K.moved hW9.alike hK⟩, hS.F ht9⟩) hS.2.2 dX6_same_18
  · have h := iN c_3 h
    refine lv_iload_n hx hb dX6_same_8 rfl (lv_at hl 2 rfl) ?_
    refine lv_iconst (v := 1) hx hb dX6_same_9 (by decide) ?_
    refine lv_iconst (v := 5) hx hb dX6_same_10 (by decide) ?_
    obtain ⟨r4, hc5, h⟩ := Option.bind_eq_some_iff.mp h
    refine ecS (As := [.int a2, .int 1, .int 5]) (rest := []) ⟨hx, hb, hml, hown, hts⟩ (e_X6_isWithin l D K ad hap0 a2 1 5 I G A L r4 hc5) (va_cwS 3 hts gX6_same_X6_isWithin rfl rfl rfl (by decide +kernel) ⟨Nat.le_of_ble_eq_true rfl, Nat.le_of_ble_eq_true rfl⟩) hK hP hS rfl hl.1 (Nat.le_of_ble_eq_true rfl) (Nat.le_of_ble_eq_true rfl) (Nat.le_of_ble_eq_true rfl) dX6_same_11 (fun H locs hP hS => ?_) rfl
    have hP : va_P D vwCl (VW K ad I G A L) H := hP
    refine lv_if_ne (tgt := 19) hx hb dX6_same_14 (by decide) (fun c_6 => ?_) (fun c_6 => ?_)
    · have h := iN c_6 h
      refine lv_aload_n hx hb dX6_same_19 rfl (lv_at hl 0 rfl) ?_
      refine vgI hx hb hts hi6 hown hK hP (0) (by decide) (show kd 0 = 6 by decide) (C := RX6) (T := TX6) (N := 18) rfl 5 (by decide) (by decide) (by decide) (by decide) (hts (.fieldLink RX6 29 "CrateHelpers" "underWay" "I") (by decide +kernel)) (fun _ h9 => h9) dX6_same_20 ?_
      refine lv_bipush (v := (-9)) hx hb dX6_same_23 (by decide) ?_
      refine lv_icmp_eq (tgt := 31) hx hb dX6_same_25 (by decide) (fun c_7 => ?_) (fun c_7 => ?_)
      · have h := ip c_7 h
        refine lv_iconst (v := 0) hx hb dX6_same_31 (by decide) ?_
        refine lv_istore_n (lv' := [(3, .int 0), (0, .ref (ad 0)), (1, .int a1), (2, .int a2)]) hx hb dX6_same_32 rfl hl (by decide) rfl (fun ls hl => ?_)
        obtain ⟨k14, ek14, h⟩ := bd_e h
        have kk14 : ∀ (I15 : Nat → Nat → Int32) (G16 : Nat → Nat → Nat) (A17 : Nat → Nat → Int32) (L18 : Nat → Nat → Int64), k14 I15 G16 A17 L18 = some (r0, I0, G0, A0, L0) → ∀ (H : Heap) (locs : List Loc), va_P D vwCl (VW K ad I15 G16 A17 L18) H → va_S (vF ad s.heap.size) s.heap H locs → ∀ (ls : Array Slot), lv_has ls 6 [(0, .ref (ad 0))] → W p l e ({ frames := 7, cells := 0, slots := 0, locals := 235 }) s m ([.ref (ad 0), .int a1, .int a2] : List Value).toArray below meth c H locs 0 0 (MQ below (va_Qi (fun (r : Int32) (u : Mem) => r = r0 ∧ u = (I0, G0, A0, L0)) (vB D K ad) (vF ad s.heap.size)) ([.ref (ad 0), .int a1, .int a2] : List Value).toArray s 0 0 (vF ad s.heap.size)) (F0 m 138 ls []) := by
          intro I15 G16 A17 L18 h H locs hP hS ls hl
          subst ek14
          refine lv_aload_n hx hb dX6_same_138 rfl (lv_at hl 0 rfl) ?_
          obtain ⟨r19, hc20, h⟩ := Option.bind_eq_some_iff.mp h
          refine ecV (As := []) (rest := []) ⟨hx, hb, hml, hown, hts⟩ (e_X6_isSameOutcome l D K ad hap0  I15 G16 A17 L18 r19 hc20) (cwV 0 hts gX6_same_X6_isSameOutcome rfl rfl rfl (by decide +kernel) ⟨Nat.le_of_ble_eq_true rfl, Nat.le_of_ble_eq_true rfl⟩) hK hP hS (by decide) (show kd 0 = 6 by decide) (by decide) rfl rfl rfl hl.1 (Nat.le_of_ble_eq_true rfl) (Nat.le_of_ble_eq_true rfl) (Nat.le_of_ble_eq_true rfl) dX6_same_139 (fun H locs hP hS => ?_) rfl
          have hP : va_P D vwCl (VW K ad I15 G16 A17 L18) H := hP
          obtain ⟨r21, hc22, h⟩ := Option.bind_eq_some_iff.mp h
          refine ecS (As := [.int r19]) (rest := []) ⟨hx, hb, hml, hown, hts⟩ (e_X6_asNumber l D K ad hap0 r19 I15 G16 A17 L18 r21 hc22) (va_cwS 1 hts gX6_same_X6_asNumber rfl rfl rfl (by decide +kernel) ⟨Nat.le_of_ble_eq_true rfl, Nat.le_of_ble_eq_true rfl⟩) hK hP hS rfl hl.1 (Nat.le_of_ble_eq_true rfl) (Nat.le_of_ble_eq_true rfl) (Nat.le_of_ble_eq_true rfl) dX6_same_142 (fun H locs hP hS => ?_) rfl
          have hP : va_P D vwCl (VW K ad I15 G16 A17 L18) H := hP
          exact W.iret (v := r21) hx hb hr (fun t9 ht9 hW9 => ⟨⟨r21, (I15, G16, A17, L18), rfl, by cases h; exact ⟨rfl, rfl⟩, by rw [ht9]; exact hP, va_K.moved hW9.alike hK⟩, hS.F ht9⟩) hS.2.2 dX6_same_145
        have lp8 : ∀ (n : Nat) (v9 : Int32) (I10 : Nat → Nat → Int32) (G11 : Nat → Nat → Nat) (A12 : Nat → Nat → Int32) (L13 : Nat → Nat → Int64), f_X6_same_L33 a1 a2 k14 n v9 I10 G11 A12 L13 = some (r0, I0, G0, A0, L0) → ∀ (H : Heap) (locs : List Loc), va_P D vwCl (VW K ad I10 G11 A12 L13) H → va_S (vF ad s.heap.size) s.heap H locs → ∀ (ls : Array Slot), lv_has ls 6 [(3, .int v9), (0, .ref (ad 0)), (1, .int a1), (2, .int a2)] → W p l e ({ frames := 7, cells := 0, slots := 0, locals := 235 }) s m ([.ref (ad 0), .int a1, .int a2] : List Value).toArray below meth c H locs 0 0 (MQ below (va_Qi (fun (r : Int32) (u : Mem) => r = r0 ∧ u = (I0, G0, A0, L0)) (vB D K ad) (vF ad s.heap.size)) ([.ref (ad 0), .int a1, .int a2] : List Value).toArray s 0 0 (vF ad s.heap.size)) (F0 m 33 ls []) := by
          intro n
          induction n with
          | zero => intro v9 I10 G11 A12 L13 h; exact absurd h (by rw [f_X6_same_L33]; exact nofun)
          | succ n ih8 =>
            intro v9 I10 G11 A12 L13 h H locs hP hS ls hl
            rw [f_X6_same_L33] at h
            refine lv_iload_n hx hb dX6_same_33 rfl (lv_at hl 0 rfl) ?_
            refine lv_iconst (v := 2) hx hb dX6_same_34 (by decide) ?_
            refine lv_icmp_ge (tgt := 138) hx hb dX6_same_35 (by decide) (fun c_23 => ?_) (fun c_23 => ?_)
            · have h := iN (Int32.not_lt.mpr c_23) h
              exact kk14 I10 G11 A12 L13 h _ _ hP hS ls (lv_sub hl [1] rfl)
            · have h := ip (Int32.not_le.mp c_23) h
              refine lv_aload_n hx hb dX6_same_38 rfl (lv_at hl 1 rfl) ?_
              refine vgC hx hb hts hi6 hown hK hP (0) (by decide) (show kd 0 = 6 by decide) (C := RX6) (T := TX6) (N := 18) rfl 14 (by decide) (by decide) (by decide) (by decide) (8) rfl (hts (.fieldLink RX6 55 "CrateHelpers" "likeTeam" "LCrateHelpers$Team;") (by decide +kernel)) (fun _ h9 => h9) dX6_same_39 ?_
              refine lv_iload_n hx hb dX6_same_42 rfl (lv_at hl 0 rfl) ?_
              obtain ⟨j25, ej25, h⟩ := bd_e h
              have kj25 : ∀ (z24 : Int32), j25 z24 = some (r0, I0, G0, A0, L0) → ∀ (H : Heap) (locs : List Loc), va_P D vwCl (VW K ad I10 G11 A12 L13) H → va_S (vF ad s.heap.size) s.heap H locs → ∀ (ls : Array Slot), lv_has ls 6 [(3, .int v9), (0, .ref (ad 0)), (1, .int a1), (2, .int a2)] → W p l e ({ frames := 7, cells := 0, slots := 0, locals := 235 }) s m ([.ref (ad 0), .int a1, .int a2] : List Value).toArray below meth c H locs 0 0 (MQ below (va_Qi (fun (r : Int32) (u : Mem) => r = r0 ∧ u = (I0, G0, A0, L0)) (vB D K ad) (vF ad s.heap.size)) ([.ref (ad 0), .int a1, .int a2] : List Value).toArray s 0 0 (vF ad s.heap.size)) (F0 m 51 ls [.int z24, .ref (ad 8)]) := by
                intro z24 h H locs hP hS ls hl
                subst ej25
                obtain ⟨⟨I26, A27⟩, hc28, h⟩ := Option.bind_eq_some_iff.mp h
                refine ecVv (As := [.int z24]) (rest := []) ⟨hx, hb, hml, hown, hts⟩ (e_X4_become l D K ad hap0 8 z24 I10 G11 A12 L13 I26 A27 hc28) (cwV 1 hts gX6_same_X4_become rfl rfl rfl (by decide +kernel) ⟨Nat.le_of_ble_eq_true rfl, Nat.le_of_ble_eq_true rfl⟩) hK hP hS (by decide) (show kd 8 = 4 by decide) (by decide) rfl rfl rfl hl.1 (Nat.le_of_ble_eq_true rfl) (Nat.le_of_ble_eq_true rfl) (Nat.le_of_ble_eq_true rfl) dX6_same_51 (fun H locs hP hS => ?_) rfl
                have hP : va_P D vwCl (VW K ad I26 G11 A27 L13) H := hP
                refine lv_aload_n hx hb dX6_same_54 rfl (lv_at hl 1 rfl) ?_
                refine vgC hx hb hts hi6 hown hK hP (0) (by decide) (show kd 0 = 6 by decide) (C := RX6) (T := TX6) (N := 18) rfl 4 (by decide) (by decide) (by decide) (by decide) (14) rfl (hts (.fieldLink RX6 73 "CrateHelpers" "solving" "LCrateHelpers$Solving;") (by decide +kernel)) (fun _ h9 => h9) dX6_same_55 ?_
                refine lv_aload_n hx hb dX6_same_58 rfl (lv_at hl 1 rfl) ?_
                refine vgC hx hb hts hi6 hown hK hP (0) (by decide) (show kd 0 = 6 by decide) (C := RX6) (T := TX6) (N := 18) rfl 0 (by decide) (by decide) (by decide) (by decide) (1) rfl (hts (.fieldLink RX6 11 "CrateHelpers" "problems" "[LCrateHelpers$Problem;") (by decide +kernel)) (fun _ h9 => h9) dX6_same_59 ?_
                refine lv_iload_n hx hb dX6_same_62 rfl (lv_at hl 2 rfl) ?_
                obtain ⟨hn29, h⟩ := gk h
                refine xaald hx hb hK hP (1) (by decide) 5 13 (show kd 1 = 13 by decide) (by decide) rfl (by rw [show ln 1 = 5 by decide]; exact hn29) (58 + 52 * a1.toNatClampNeg) (drf13 ((show kd 1 = 13 by decide))) dX6_same_63 ?_
                refine lv_aload_n hx hb dX6_same_64 rfl (lv_at hl 1 rfl) ?_
                refine vgC hx hb hts hi6 hown hK hP (0) (by decide) (show kd 0 = 6 by decide) (C := RX6) (T := TX6) (N := 18) rfl 14 (by decide) (by decide) (by decide) (by decide) (8) rfl (hts (.fieldLink RX6 55 "CrateHelpers" "likeTeam" "LCrateHelpers$Team;") (by decide +kernel)) (fun _ h9 => h9) dX6_same_65 ?_
                refine lv_aload_n hx hb dX6_same_68 rfl (lv_at hl 1 rfl) ?_
                refine vgI hx hb hts hi6 hown hK hP (0) (by decide) (show kd 0 = 6 by decide) (C := RX6) (T := TX6) (N := 18) rfl 3 (by decide) (by decide) (by decide) (by decide) (hts (.fieldLink RX6 26 "CrateHelpers" "nodeLimit" "I") (by decide +kernel)) (fun _ h9 => h9) dX6_same_69 ?_
                obtain ⟨⟨r30, I31, G32, A33, L34⟩, hc35, h⟩ := Option.bind_eq_some_iff.mp h
                refine ecV (As := [.ref (ad (58 + 52 * a1.toNatClampNeg)), .ref (ad 8), .int (I26 0 3)]) (rest := []) ⟨hx, hb, hml, hown, hts⟩ (e_X3_begin l D K ad hap0 (58 + 52 * a1.toNatClampNeg) 8 (I26 0 3) I26 G11 A27 L13 r30 I31 G32 A33 L34 hc35) (cwV 3 hts gX6_same_X3_begin rfl rfl rfl (by decide +kernel) ⟨Nat.le_of_ble_eq_true rfl, Nat.le_of_ble_eq_true rfl⟩) hK hP hS (by decide) (show kd 14 = 3 by decide) (by decide) rfl rfl rfl hl.1 (Nat.le_of_ble_eq_true rfl) (Nat.le_of_ble_eq_true rfl) (Nat.le_of_ble_eq_true rfl) dX6_same_72 (fun H locs hP hS => ?_) rfl
                have hP : va_P D vwCl (VW K ad I31 G32 A33 L34) H := hP
                refine lv_istore (lv' := [(4, .int r30), (3, .int v9), (0, .ref (ad 0)), (1, .int a1), (2, .int a2)]) hx hb dX6_same_75 hl (by decide) rfl (fun ls hl => ?_)
                refine lv_iconst (v := 0) hx hb dX6_same_77 (by decide) ?_
                refine lv_istore (lv' := [(5, .int 0), (4, .int r30), (3, .int v9), (0, .ref (ad 0)), (1, .int a1), (2, .int a2)]) hx hb dX6_same_78 hl (by decide) rfl (fun ls hl => ?_)
                obtain ⟨k42, ek42, h⟩ := bd_e h
                have kk42 : ∀ (v43 : Int32) (I44 : Nat → Nat → Int32) (A45 : Nat → Nat → Int32) (L46 : Nat → Nat → Int64), k42 v43 I44 A45 L46 = some (r0, I0, G0, A0, L0) → ∀ (H : Heap) (locs : List Loc), va_P D vwCl (VW K ad I44 G32 A45 L46) H → va_S (vF ad s.heap.size) s.heap H locs → ∀ (ls : Array Slot), lv_has ls 6 [(0, .ref (ad 0)), (1, .int a1), (2, .int a2), (3, .int v9), (4, .int v43)] → W p l e ({ frames := 7, cells := 0, slots := 0, locals := 235 }) s m ([.ref (ad 0), .int a1, .int a2] : List Value).toArray below meth c H locs 0 0 (MQ below (va_Qi (fun (r : Int32) (u : Mem) => r = r0 ∧ u = (I0, G0, A0, L0)) (vB D K ad) (vF ad s.heap.size)) ([.ref (ad 0), .int a1, .int a2] : List Value).toArray s 0 0 (vF ad s.heap.size)) (F0 m 108 ls []) := by
                  intro v43 I44 A45 L46 h H locs hP hS ls hl
                  subst ek42
                  refine lv_aload_n hx hb dX6_same_108 rfl (lv_at hl 0 rfl) ?_
                  refine vgC hx hb hts hi6 hown hK hP (0) (by decide) (show kd 0 = 6 by decide) (C := RX6) (T := TX6) (N := 18) rfl 4 (by decide) (by decide) (by decide) (by decide) (14) rfl (hts (.fieldLink RX6 73 "CrateHelpers" "solving" "LCrateHelpers$Solving;") (by decide +kernel)) (fun _ h9 => h9) dX6_same_109 ?_
                  refine lv_iload hx hb dX6_same_112 (lv_at hl 4 rfl) ?_
                  refine lv_iload_n hx hb dX6_same_114 rfl (lv_at hl 3 rfl) ?_
                  refine lv_if_ne (tgt := 125) hx hb dX6_same_115 (by decide) (fun c_47 => ?_) (fun c_47 => ?_)
                  · have h := iN c_47 h
                    refine lv_aload_n hx hb dX6_same_125 rfl (lv_at hl 0 rfl) ?_
                    refine vgC hx hb hts hi6 hown hK hP (0) (by decide) (show kd 0 = 6 by decide) (C := RX6) (T := TX6) (N := 18) rfl 16 (by decide) (by decide) (by decide) (by decide) (21) rfl (hts (.fieldLink RX6 61 "CrateHelpers" "together" "[I") (by decide +kernel)) (fun _ h9 => h9) dX6_same_126 ?_
                    obtain ⟨A48, hc49, h⟩ := Option.bind_eq_some_iff.mp h
                    refine ecVv (As := [.int v43, .ref (ad 21)]) (rest := []) ⟨hx, hb, hml, hown, hts⟩ (e_X3_sumUp l D K ad hap0 v43 21 I44 G32 A45 L46 A48 hc49) (cwV 2 hts gX6_same_X3_sumUp rfl rfl rfl (by decide +kernel) ⟨Nat.le_of_ble_eq_true rfl, Nat.le_of_ble_eq_true rfl⟩) hK hP hS (by decide) (show kd 14 = 3 by decide) (by decide) rfl rfl rfl hl.1 (Nat.le_of_ble_eq_true rfl) (Nat.le_of_ble_eq_true rfl) (Nat.le_of_ble_eq_true rfl) dX6_same_129 (fun H locs hP hS => ?_) rfl
                    have hP : va_P D vwCl (VW K ad I44 G32 A48 L46) H := hP
                    refine lv_iinc (v := (v9 + 1)) (lv' := [(3, .int (v9 + 1)), (0, .ref (ad 0)), (1, .int a1), (2, .int a2), (4, .int v43)]) hx hb dX6_same_132 hl (k := 3) rfl rfl (by decide) rfl (fun ls hl => ?_)
                    refine lv_goto (tgt := 33) hx hb dX6_same_135 (by decide) ?_
                    exact ih8 (v9 + 1) I44 G32 A48 L46 h _ _ hP hS ls (lv_sub hl [0, 1, 2, 3] rfl)
                  · have h := ip c_47 h
                    refine lv_aload_n hx hb dX6_same_118 rfl (lv_at hl 0 rfl) ?_
                    refine vgC hx hb hts hi6 hown hK hP (0) (by decide) (show kd 0 = 6 by decide) (C := RX6) (T := TX6) (N := 18) rfl 15 (by decide) (by decide) (by decide) (by decide) (20) rfl (hts (.fieldLink RX6 58 "CrateHelpers" "alone" "[I") (by decide +kernel)) (fun _ h9 => h9) dX6_same_119 ?_
                    refine lv_goto (tgt := 129) hx hb dX6_same_122 (by decide) ?_
                    obtain ⟨A50, hc51, h⟩ := Option.bind_eq_some_iff.mp h
                    refine ecVv (As := [.int v43, .ref (ad 20)]) (rest := []) ⟨hx, hb, hml, hown, hts⟩ (e_X3_sumUp l D K ad hap0 v43 20 I44 G32 A45 L46 A50 hc51) (cwV 2 hts gX6_same_X3_sumUp rfl rfl rfl (by decide +kernel) ⟨Nat.le_of_ble_eq_true rfl, Nat.le_of_ble_eq_true rfl⟩) hK hP hS (by decide) (show kd 14 = 3 by decide) (by decide) rfl rfl rfl hl.1 (Nat.le_of_ble_eq_true rfl) (Nat.le_of_ble_eq_true rfl) (Nat.le_of_ble_eq_true rfl) dX6_same_129 (fun H locs hP hS => ?_) rfl
                    have hP : va_P D vwCl (VW K ad I44 G32 A50 L46) H := hP
                    refine lv_iinc (v := (v9 + 1)) (lv' := [(3, .int (v9 + 1)), (0, .ref (ad 0)), (1, .int a1), (2, .int a2), (4, .int v43)]) hx hb dX6_same_132 hl (k := 3) rfl rfl (by decide) rfl (fun ls hl => ?_)
                    refine lv_goto (tgt := 33) hx hb dX6_same_135 (by decide) ?_
                    exact ih8 (v9 + 1) I44 G32 A50 L46 h _ _ hP hS ls (lv_sub hl [0, 1, 2, 3] rfl)
                have lp36 : ∀ (n : Nat) (v37 : Int32) (v38 : Int32) (I39 : Nat → Nat → Int32) (A40 : Nat → Nat → Int32) (L41 : Nat → Nat → Int64), f_X6_same_L80 v9 a1 a2 G32 k42 n v37 v38 I39 A40 L41 = some (r0, I0, G0, A0, L0) → ∀ (H : Heap) (locs : List Loc), va_P D vwCl (VW K ad I39 G32 A40 L41) H → va_S (vF ad s.heap.size) s.heap H locs → ∀ (ls : Array Slot), lv_has ls 6 [(5, .int v37), (4, .int v38), (3, .int v9), (0, .ref (ad 0)), (1, .int a1), (2, .int a2)] → W p l e ({ frames := 7, cells := 0, slots := 0, locals := 235 }) s m ([.ref (ad 0), .int a1, .int a2] : List Value).toArray below meth c H locs 0 0 (MQ below (va_Qi (fun (r : Int32) (u : Mem) => r = r0 ∧ u = (I0, G0, A0, L0)) (vB D K ad) (vF ad s.heap.size)) ([.ref (ad 0), .int a1, .int a2] : List Value).toArray s 0 0 (vF ad s.heap.size)) (F0 m 80 ls []) := by
                  intro n
                  induction n with
                  | zero => intro v37 v38 I39 A40 L41 h; exact absurd h (by rw [f_X6_same_L80]; exact nofun)
                  | succ n ih36 =>
                    intro v37 v38 I39 A40 L41 h H locs hP hS ls hl
                    rw [f_X6_same_L80] at h
                    refine lv_iload hx hb dX6_same_80 (lv_at hl 0 rfl) ?_
                    refine lv_ldcw (v := 1000000) hx hb hown (hts (.constant RX6 285 1000000) (by decide +kernel)) dX6_same_82 ?_
                    refine lv_icmp_ge (tgt := 108) hx hb dX6_same_85 (by decide) (fun c_52 => ?_) (fun c_52 => ?_)
                    · have h := iN (Int32.not_lt.mpr c_52) h
                      exact kk42 v38 I39 A40 L41 h _ _ hP hS ls (lv_sub hl [3, 4, 5, 2, 1] rfl)
                    · have h := ip (Int32.not_le.mp c_52) h
                      refine lv_iload hx hb dX6_same_88 (lv_at hl 1 rfl) ?_
                      refine lv_if_ne (tgt := 108) hx hb dX6_same_90 (by decide) (fun c_53 => ?_) (fun c_53 => ?_)
                      · have h := iN c_53 h
                        exact kk42 v38 I39 A40 L41 h _ _ hP hS ls (lv_sub hl [3, 4, 5, 2, 1] rfl)
                      · have h := ip c_53 h
                        refine lv_aload_n hx hb dX6_same_93 rfl (lv_at hl 3 rfl) ?_
                        refine vgC hx hb hts hi6 hown hK hP (0) (by decide) (show kd 0 = 6 by decide) (C := RX6) (T := TX6) (N := 18) rfl 4 (by decide) (by decide) (by decide) (by decide) (14) rfl (hts (.fieldLink RX6 73 "CrateHelpers" "solving" "LCrateHelpers$Solving;") (by decide +kernel)) (fun _ h9 => h9) dX6_same_94 ?_
                        obtain ⟨⟨r54, I55, A56, L57⟩, hc58, h⟩ := Option.bind_eq_some_iff.mp h
                        refine ecV (As := []) (rest := []) ⟨hx, hb, hml, hown, hts⟩ (e_X3_takeTurn l D K ad hap0  I39 G32 A40 L41 r54 I55 A56 L57 hc58) (cwV 0 hts gX6_same_X3_takeTurn rfl rfl rfl (by decide +kernel) ⟨Nat.le_of_ble_eq_true rfl, Nat.le_of_ble_eq_true rfl⟩) hK hP hS (by decide) (show kd 14 = 3 by decide) (by decide) rfl rfl rfl hl.1 (Nat.le_of_ble_eq_true rfl) (Nat.le_of_ble_eq_true rfl) (Nat.le_of_ble_eq_true rfl) dX6_same_97 (fun H locs hP hS => ?_) rfl
                        have hP : va_P D vwCl (VW K ad I55 G32 A56 L57) H := hP
                        refine lv_istore (lv' := [(4, .int r54), (5, .int v37), (3, .int v9), (0, .ref (ad 0)), (1, .int a1), (2, .int a2)]) hx hb dX6_same_100 hl (by decide) rfl (fun ls hl => ?_)
                        refine lv_iinc (v := (v37 + 1)) (lv' := [(5, .int (v37 + 1)), (4, .int r54), (3, .int v9), (0, .ref (ad 0)), (1, .int a1), (2, .int a2)]) hx hb dX6_same_102 hl (k := 1) rfl rfl (by decide) rfl (fun ls hl => ?_)
                        refine lv_goto (tgt := 80) hx hb dX6_same_105 (by decide) ?_
                        exact ih36 (v37 + 1) r54 I55 A56 L57 h _ _ hP hS ls (lv_sub hl [0, 1, 2, 3, 4, 5] rfl)
                exact lp36 FU 0 r30 I31 A33 L34 h _ _ hP hS ls (lv_sub hl [0, 1, 2, 3, 4, 5] rfl)
              refine lv_if_ne (tgt := 50) hx hb dX6_same_43 (by decide) (fun c_59 => ?_) (fun c_59 => ?_)
              · have h := iN c_59 h
                refine lv_iload_n hx hb dX6_same_50 rfl (lv_at hl 3 rfl) ?_
                exact kj25 a2 h _ _ hP hS ls (lv_sub hl [0, 1, 2, 3] rfl)
              · have h := ip c_59 h
                refine lv_iconst (v := 1) hx hb dX6_same_46 (by decide) ?_
                refine lv_goto (tgt := 51) hx hb dX6_same_47 (by decide) ?_
                exact kj25 1 h _ _ hP hS ls (lv_sub hl [0, 1, 2, 3] rfl)
        exact lp8 FU 0 I G A L h _ _ hP hS ls (lv_sub hl [0, 1, 2, 3] rfl)
      · have h := iN c_7 h
        refine lv_bipush (v := (-2)) hx hb dX6_same_28 (by decide) ?_
        exact W.iret (v := (-2)) hx hb hr (fun t9 ht9 hW9 => ⟨⟨(-2), (I, G, A, L), rfl, by cases h; exact ⟨rfl, rfl⟩, by rw [ht9]; exact hP, va_K.moved hW9.alike hK⟩, hS.F ht9⟩) hS.2.2 dX6_same_30
    · have h := ip c_6 h
      refine lv_iconst (v := (-1)) hx hb dX6_same_17 (by decide) ?_
      exact W.iret (v := (-1)) hx hb hr (fun t9 ht9 hW9 => ⟨⟨(-1), (I, G, A, L), rfl, by cases h; exact ⟨rfl, rfl⟩, by rw [ht9]; exact hP, va_K.moved hW9.alike hK⟩, hS.F ht9⟩) hS.2.2 dX6_same_18
