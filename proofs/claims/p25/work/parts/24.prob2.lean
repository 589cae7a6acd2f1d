set_option maxHeartbeats 4000000 in
set_option maxRecDepth 100000 in
theorem c_X1_firstBroken (l : Launch) (D : va_G) (K : Nat → ClassId) (ad : Nat → Nat) (hap0 : apart ad (fun _ => True)) (B v nv nr : Nat) (hB : PrAt B) (hv : IA v 6) (I : Nat → Nat → Int32) (G : Nat → Nat → Nat) (A : Nat → Nat → Int32) (L : Nat → Nat → Int64) (hw : PrW I A B nv nr) : Ci l D K ad yX1_firstBroken wsX1_firstBroken 3 110 [.ref (ad B), .ref (ad v)] (I, G, A, L) (fun (r : Int32) (u : Mem) => r = fbk I A B v nr ∧ u = (I, G, A, L)) := by
  intro sz
  refine Met.ofW (cc := cX1_firstBroken) (maxL := 3) (ret := (some .int)) (by decide) rfl ?_
  intro p e s m args below meth c s₁ Bd hml hv0
  obtain ⟨rfl, hsz, hP, hK⟩ := hv0
  have hx := Bd.exec
  have hb := Bd.bytes
  have hr := Bd.returns
  have hts := atoms_spec (ws := wsX1_firstBroken) Bd.pre
  have hown : s.vm.findClass RX1 = some m.cls := findClass_of_methodNamed Bd.named
  have hlocks := Bd.notSynchronized
  have hi1 : ∀ w ∈ u_ws RX1 TX1 9, w ∈ wsX1_firstBroken := fun w h => List.mem_cons_of_mem _ (List.mem_append_left _ (List.mem_append_right _ h))
  have hi2 : ∀ w ∈ u_ws RX2 TX2 7, w ∈ wsX1_firstBroken := fun w h => List.mem_cons_of_mem _ (List.mem_append_right _ h)
  subst hsz
  have hap := vF_ap hap0 s.heap.size
  have hS : va_S (vF ad s.heap.size) s.heap s.heap [] := va_S.rf
  have hP : va_P D vwCl (VW K ad I G A L) s.heap := hP
  have hl := lv_entry ([.ref (ad B), .ref (ad v)]) (n := 3) (Nat.le_of_ble_eq_true rfl)
  rw [lg_entry_eq]
  generalize (lg_sl ([.ref (ad B), .ref (ad v)]) ++ List.replicate (3 - (lg_sl ([.ref (ad B), .ref (ad v)])).length) Slot.unset).toArray = ls at hl ⊢
  have hl : lv_has ls 3 [(0, .ref (ad B)), (1, .ref (ad v))] := hl
  have hnv : nv ≤ 6 := hw.1
  have hnr : nr ≤ 8 := hw.2.1
  have hBv : I B 0 = nI nv := hw.2.2.1
  have hBr : I B 1 = nI nr := hw.2.2.2.1
  refine lv_iconst (v := 0) hx hb dX1_firstBroken_0 (by decide) ?_
  refine lv_istore_n (lv' := [(2, .int 0), (0, .ref (ad B)), (1, .ref (ad v))]) hx hb dX1_firstBroken_1 rfl hl (by decide) rfl (fun ls hl => ?_)
  have kx1 : ∀ (_ : Unit), fst1 (pbr I A B v) 0 nr = fbk I A B v nr → ∀ (H : Heap) (locs : List Loc), va_P D vwCl (VW K ad I G A L) H → va_S (vF ad s.heap.size) s.heap H locs → ∀ (ls : Array Slot), lv_has ls 3 [(2, .int (nI nr)), (0, .ref (ad B)), (1, .ref (ad v))] → W p l e ({ frames := 3, cells := 0, slots := 0, locals := 110 }) s m ([.ref (ad B), .ref (ad v)] : List Value).toArray below meth c H locs 0 0 (MQ below (va_Qi (fun (r : Int32) (u : Mem) => r = fbk I A B v nr ∧ u = (I, G, A, L)) (vB D K ad) (vF ad s.heap.size)) ([.ref (ad B), .ref (ad v)] : List Value).toArray s 0 0 (vF ad s.heap.size)) (F0 m 35 ls []) := by
    intro _ hinv1 H locs hP hS ls hl
    refine lv_bipush (v := (-9)) hx hb dX1_firstBroken_35 (by decide) ?_
    exact W.iret (v := (-9)) hx hb hr (fun t ht hW => ⟨⟨(-9), (I, G, A, L), rfl, ⟨hinv1, rfl⟩, by rw [ht]; exact hP, va_K.moved hW.alike hK⟩, hS.F ht⟩) hS.2.2 dX1_firstBroken_37
  have lp1 : ∀ (k1 i : Nat), i + k1 = nr → fst1 (pbr I A B v) k1 i = fbk I A B v nr → ∀ (H : Heap) (locs : List Loc), va_P D vwCl (VW K ad I G A L) H → va_S (vF ad s.heap.size) s.heap H locs → ∀ (ls : Array Slot), lv_has ls 3 [(2, .int (nI i)), (0, .ref (ad B)), (1, .ref (ad v))] → W p l e ({ frames := 3, cells := 0, slots := 0, locals := 110 }) s m ([.ref (ad B), .ref (ad v)] : List Value).toArray below meth c H locs 0 0 (MQ below (va_Qi (fun (r : Int32) (u : Mem) => r = fbk I A B v nr ∧ u = (I, G, A, L)) (vB D K ad) (vF ad s.heap.size)) ([.ref (ad B), .ref (ad v)] : List Value).toArray s 0 0 (vF ad s.heap.size)) (F0 m 2 ls []) := by
    intro k1
    induction k1 with
    | zero =>
      intro i  hk1 hinv1 H locs hP hS ls hl
      obtain rfl : nr = i := by omega
      refine lv_iload_n hx hb dX1_firstBroken_2 rfl (lv_at hl 0 rfl) ?_
      refine lv_aload_n hx hb dX1_firstBroken_3 rfl (lv_at hl 1 rfl) ?_
      refine vgI hx hb hts hi1 hown hK hP (B) (by have := (pr_o hB).1; omega) (pr_o hB).2.1 (C := RX1) (T := TX1) (N := 9) rfl 1 (by decide) (by decide) (by decide) (by decide) (hts (.fieldLink RX1 15 "CrateHelpers$Problem" "ruleCount" "I") (by decide +kernel)) (fun _ h9 => h9) dX1_firstBroken_4 ?_
      rw [hBr]
      refine lv_icmp_ge (tgt := 35) hx hb dX1_firstBroken_7 (by decide) (fun _ => ?_) (fun c_2 => absurd (nI_le (Nat.le_refl _) (by omega)) c_2)
      exact kx1 () (hinv1) H locs hP hS ls (lv_sub hl [0, 1, 2] rfl)
    | succ k1 ih1 =>
      intro i  hk1 hinv1 H locs hP hS ls hl
      have hlt1 : i < nr := by omega
      have hin1 : vp_in (nI i) (ln (B + 10)) := by rw [(pr_o hB).2.2.2.2.2.2.2.2.2.2.1]; exact vp_in_nI (by omega) (by omega)
      refine lv_iload_n hx hb dX1_firstBroken_2 rfl (lv_at hl 0 rfl) ?_
      refine lv_aload_n hx hb dX1_firstBroken_3 rfl (lv_at hl 1 rfl) ?_
      refine vgI hx hb hts hi1 hown hK hP (B) (by have := (pr_o hB).1; omega) (pr_o hB).2.1 (C := RX1) (T := TX1) (N := 9) rfl 1 (by decide) (by decide) (by decide) (by decide) (hts (.fieldLink RX1 15 "CrateHelpers$Problem" "ruleCount" "I") (by decide +kernel)) (fun _ h9 => h9) dX1_firstBroken_4 ?_
      rw [hBr]
      refine lv_icmp_ge (tgt := 35) hx hb dX1_firstBroken_7 (by decide) (fun c_3 => absurd c_3 (nI_ge (by omega) (by omega))) (fun _ => ?_)
      refine lv_aload_n hx hb dX1_firstBroken_10 rfl (lv_at hl 1 rfl) ?_
      refine vgS hx hb hts hi1 hown hK hP (B) (by have := (pr_o hB).1; omega) (pr_o hB).2.1 (C := RX1) (T := TX1) (N := 9) rfl 7 (by decide) (by decide) (by decide) (by decide) (B + 10) rfl (hts (.fieldLink RX1 39 "CrateHelpers$Problem" "rules" "[LCrateHelpers$Rule;") (by decide +kernel)) (fun _ h9 => h9) dX1_firstBroken_11 ?_
      refine lv_iload_n hx hb dX1_firstBroken_14 rfl (lv_at hl 0 rfl) ?_
      refine xaald hx hb hK hP (B + 10) (by have := (pr_o hB).1; omega) 6 14 (pr_o hB).2.2.2.2.2.1 (by decide) rfl hin1 (B + 12 + 5 * i) (by rw [rf14 (pr_o hB).2.2.2.2.2.1]; rw [nI_clamp (by omega)]) dX1_firstBroken_15 ?_
      refine lv_aload_n hx hb dX1_firstBroken_16 rfl (lv_at hl 2 rfl) ?_
      refine lv_aload_n hx hb dX1_firstBroken_17 rfl (lv_at hl 1 rfl) ?_
      refine vgS hx hb hts hi1 hown hK hP (B) (by have := (pr_o hB).1; omega) (pr_o hB).2.1 (C := RX1) (T := TX1) (N := 9) rfl 4 (by decide) (by decide) (by decide) (by decide) (B + 1) rfl (hts (.fieldLink RX1 25 "CrateHelpers$Problem" "sizes" "[I") (by decide +kernel)) (fun _ h9 => h9) dX1_firstBroken_18 ?_
      refine vcV (As := [.ref (ad v), .ref (ad (B + 1))]) (rest := []) ⟨hx, hb, hml, hown, hts⟩ (c_X2_isBroken l D K ad hap0 (B + 12 + 5 * i) v (B + 1) (nP I (B + 12 + 5 * i)) (pr_ru hB (by omega)) hv (ia_sz hB) I G A L (hw.2.2.2.2.2 i (by omega))) (cwV 2 hts gX1_firstBroken_X2_isBroken rfl rfl rfl (by decide +kernel) ⟨Nat.le_of_ble_eq_true rfl, Nat.le_of_ble_eq_true rfl⟩) hK hP hS (by have := (pr_ru (r := i) hB (by omega)).1; omega) (pr_ru (r := i) hB (by omega)).2.1 (by decide) rfl rfl rfl hl.1 (Nat.le_of_ble_eq_true rfl) (Nat.le_of_ble_eq_true rfl) (Nat.le_of_ble_eq_true rfl) dX1_firstBroken_21 (fun r4 u5 H locs hw hP hS => ?_) rfl
      obtain ⟨hr4, rfl⟩ := hw
      have hP : va_P D vwCl (VW K ad I G A L) H := hP
      subst hr4
      refine lv_if_eq (tgt := 29) hx hb dX1_firstBroken_24 (by decide) (fun c_6 => ?_) (fun c_6 => ?_)
      · refine lv_iinc (v := (nI (i + 1))) (lv' := [(2, .int (nI (i + 1))), (0, .ref (ad B)), (1, .ref (ad v))]) hx hb dX1_firstBroken_29 hl (k := 0) rfl (nI_1 i) (by decide) rfl (fun ls hl => ?_)
        refine lv_goto (tgt := 2) hx hb dX1_firstBroken_32 (by decide) ?_
        exact ih1 (i + 1)  (by omega) (by rw [← hinv1]; simp [fst1, pbr, c_6]) H locs hP hS ls (lv_sub hl [0, 1, 2] rfl)
      · refine lv_iload_n hx hb dX1_firstBroken_27 rfl (lv_at hl 0 rfl) ?_
        exact W.iret (v := (nI i)) hx hb hr (fun t ht hW => ⟨⟨(nI i), (I, G, A, L), rfl, ⟨by rw [← hinv1]; simp [fst1, pbr, c_6], rfl⟩, by rw [ht]; exact hP, va_K.moved hW.alike hK⟩, hS.F ht⟩) hS.2.2 dX1_firstBroken_28
  exact lp1 (nr) 0  (by omega) (rfl) _ _ hP hS ls (lv_sub hl [0, 1, 2] rfl)

set_option maxHeartbeats 4000000 in
set_option maxRecDepth 100000 in
theorem c_X1_isOut (l : Launch) (D : va_G) (K : Nat → ClassId) (ad : Nat → Nat) (hap0 : apart ad (fun _ => True)) (B v nv nr x : Nat) (w : Int32) (hB : PrAt B) (hv : IA v 6) (hvB : v < 58) (hx6 : x < 6) (I : Nat → Nat → Int32) (G : Nat → Nat → Nat) (A : Nat → Nat → Int32) (L : Nat → Nat → Int64) (hw : PrW I A B nv nr) : Ci l D K ad yX1_isOut wsX1_isOut 4 150 [.ref (ad B), .ref (ad v), .int (nI x), .int w] (I, G, A, L) (fun (r : Int32) (u : Mem) => r = (if A v x = -1 then (if fbk I (up2 A v x w) B v nr = -9 then 0 else 1) else 0) ∧ u = (I, G, A, L)) := by
  intro sz
  refine Met.ofW (cc := cX1_isOut) (maxL := 5) (ret := (some .boolean)) (by decide) rfl ?_
  intro p e s m args below meth c s₁ Bd hml hv0
  obtain ⟨rfl, hsz, hP, hK⟩ := hv0
  have hx := Bd.exec
  have hb := Bd.bytes
  have hr := Bd.returns
  have hts := atoms_spec (ws := wsX1_isOut) Bd.pre
  have hown : s.vm.findClass RX1 = some m.cls := findClass_of_methodNamed Bd.named
  have hlocks := Bd.notSynchronized
  have hi1 : ∀ w ∈ u_ws RX1 TX1 9, w ∈ wsX1_isOut := fun w h => List.mem_cons_of_mem _ (List.mem_append_left _ (List.mem_append_right _ h))
  have hi2 : ∀ w ∈ u_ws RX2 TX2 7, w ∈ wsX1_isOut := fun w h => List.mem_cons_of_mem _ (List.mem_append_right _ h)
  subst hsz
  have hap := vF_ap hap0 s.heap.size
  have hS : va_S (vF ad s.heap.size) s.heap s.heap [] := va_S.rf
  have hP : va_P D vwCl (VW K ad I G A L) s.heap := hP
  have hl := lv_entry ([.ref (ad B), .ref (ad v), .int (nI x), .int w]) (n := 5) (Nat.le_of_ble_eq_true rfl)
  rw [lg_entry_eq]
  generalize (lg_sl ([.ref (ad B), .ref (ad v), .int (nI x), .int w]) ++ List.replicate (5 - (lg_sl ([.ref (ad B), .ref (ad v), .int (nI x), .int w])).length) Slot.unset).toArray = ls at hl ⊢
  have hl : lv_has ls 5 [(0, .ref (ad B)), (1, .ref (ad v)), (2, .int (nI x)), (3, .int w)] := hl
  have hnv : nv ≤ 6 := hw.1
  have hnr : nr ≤ 8 := hw.2.1
  have hBv : I B 0 = nI nv := hw.2.2.1
  have hBr : I B 1 = nI nr := hw.2.2.2.1
  have hinv0 : vp_in (nI x) (ln v) := by rw [hv.2.2]; exact vp_in_nI hx6 (by omega)
  refine lv_aload_n hx hb dX1_isOut_0 rfl (lv_at hl 1 rfl) ?_
  refine lv_iload_n hx hb dX1_isOut_1 rfl (lv_at hl 2 rfl) ?_
  refine xiald hx hb hK hP (v) hv.1 hv.2.1 hinv0 dX1_isOut_2 ?_
  rw [nI_clamp (n := x) (by omega)]
  refine lv_iconst (v := (-1)) hx hb dX1_isOut_3 (by decide) ?_
  refine lv_icmp_eq (tgt := 9) hx hb dX1_isOut_4 (by decide) (fun c_1 => ?_) (fun c_1 => ?_)
  · refine lv_aload_n hx hb dX1_isOut_9 rfl (lv_at hl 1 rfl) ?_
    refine lv_iload_n hx hb dX1_isOut_10 rfl (lv_at hl 2 rfl) ?_
    refine lv_iload_n hx hb dX1_isOut_11 rfl (lv_at hl 3 rfl) ?_
    refine xiast hx hb hK hP hap hS (v) hv.1 hv.2.1 hinv0 dX1_isOut_12 (fun H locs hP hS => ?_)
    rw [nI_clamp (n := x) (by omega)] at hP
    obtain ⟨A2, eA2⟩ : ∃ z, z = up2 A v x w := ⟨_, rfl⟩
    rw [← eA2] at hP
    have hP : va_P D vwCl (VW K ad I G A2 L) H := hP
    refine lv_aload_n hx hb dX1_isOut_13 rfl (lv_at hl 0 rfl) ?_
    refine lv_aload_n hx hb dX1_isOut_14 rfl (lv_at hl 1 rfl) ?_
    refine vcV (As := [.ref (ad v)]) (rest := []) ⟨hx, hb, hml, hown, hts⟩ (c_X1_firstBroken l D K ad hap0 B v nv nr hB hv I G A2 L (by rw [eA2]; exact PrW_A hw (by have := pr_ge hB; omega))) (cwV 1 hts gX1_isOut_X1_firstBroken rfl rfl rfl (by decide +kernel) ⟨Nat.le_of_ble_eq_true rfl, Nat.le_of_ble_eq_true rfl⟩) hK hP hS (by have := (pr_o hB).1; omega) (pr_o hB).2.1 (by decide) rfl rfl rfl hl.1 (Nat.le_of_ble_eq_true rfl) (Nat.le_of_ble_eq_true rfl) (Nat.le_of_ble_eq_true rfl) dX1_isOut_15 (fun r3 u4 H locs hw hP hS => ?_) rfl
    obtain ⟨hr3, rfl⟩ := hw
    have hP : va_P D vwCl (VW K ad I G A2 L) H := hP
    subst hr3
    refine lv_bipush (v := (-9)) hx hb dX1_isOut_18 (by decide) ?_
    refine lv_icmp_eq (tgt := 27) hx hb dX1_isOut_20 (by decide) (fun c_5 => ?_) (fun c_5 => ?_)
    · refine lv_iconst (v := 0) hx hb dX1_isOut_27 (by decide) ?_
      refine lv_istore (lv' := [(4, .int 0), (0, .ref (ad B)), (1, .ref (ad v)), (2, .int (nI x)), (3, .int w)]) hx hb dX1_isOut_28 hl (by decide) rfl (fun ls hl => ?_)
      refine lv_aload_n hx hb dX1_isOut_30 rfl (lv_at hl 2 rfl) ?_
      refine lv_iload_n hx hb dX1_isOut_31 rfl (lv_at hl 3 rfl) ?_
      refine lv_iconst (v := (-1)) hx hb dX1_isOut_32 (by decide) ?_
      refine xiast hx hb hK hP hap hS (v) hv.1 hv.2.1 hinv0 dX1_isOut_33 (fun H locs hP hS => ?_)
      rw [nI_clamp (n := x) (by omega)] at hP
      obtain ⟨A6, eA6⟩ : ∃ z, z = up2 A2 v x ((-1)) := ⟨_, rfl⟩
      rw [← eA6] at hP
      have hP : va_P D vwCl (VW K ad I G A6 L) H := hP
      refine lv_iload hx hb dX1_isOut_34 (lv_at hl 0 rfl) ?_
      exact W.zret (v := 0) hx hb hr (by decide) (fun t ht hW => ⟨⟨0, (I, G, A6, L), rfl, ⟨by rw [if_pos c_1, ← eA2, if_pos c_5], by rw [eA6, eA2, up2_bk c_1]⟩, by rw [ht]; exact hP, va_K.moved hW.alike hK⟩, hS.F ht⟩) hS.2.2 dX1_isOut_36
    · refine lv_iconst (v := 1) hx hb dX1_isOut_23 (by decide) ?_
      refine lv_goto (tgt := 28) hx hb dX1_isOut_24 (by decide) ?_
      refine lv_istore (lv' := [(4, .int 1), (0, .ref (ad B)), (1, .ref (ad v)), (2, .int (nI x)), (3, .int w)]) hx hb dX1_isOut_28 hl (by decide) rfl (fun ls hl => ?_)
      refine lv_aload_n hx hb dX1_isOut_30 rfl (lv_at hl 2 rfl) ?_
      refine lv_iload_n hx hb dX1_isOut_31 rfl (lv_at hl 3 rfl) ?_
      refine lv_iconst (v := (-1)) hx hb dX1_isOut_32 (by decide) ?_
      refine xiast hx hb hK hP hap hS (v) hv.1 hv.2.1 hinv0 dX1_isOut_33 (fun H locs hP hS => ?_)
      rw [nI_clamp (n := x) (by omega)] at hP
      obtain ⟨A7, eA7⟩ : ∃ z, z = up2 A2 v x ((-1)) := ⟨_, rfl⟩
      rw [← eA7] at hP
      have hP : va_P D vwCl (VW K ad I G A7 L) H := hP
      refine lv_iload hx hb dX1_isOut_34 (lv_at hl 0 rfl) ?_
      exact W.zret (v := 1) hx hb hr (by decide) (fun t ht hW => ⟨⟨1, (I, G, A7, L), rfl, ⟨by rw [if_pos c_1, ← eA2, if_neg c_5], by rw [eA7, eA2, up2_bk c_1]⟩, by rw [ht]; exact hP, va_K.moved hW.alike hK⟩, hS.F ht⟩) hS.2.2 dX1_isOut_36
  · refine lv_iconst (v := 0) hx hb dX1_isOut_7 (by decide) ?_
    exact W.zret (v := 0) hx hb hr (by decide) (fun t ht hW => ⟨⟨0, (I, G, A, L), rfl, ⟨by rw [if_neg c_1], rfl⟩, by rw [ht]; exact hP, va_K.moved hW.alike hK⟩, hS.F ht⟩) hS.2.2 dX1_isOut_8

set_option maxHeartbeats 4000000 in
set_option maxRecDepth 100000 in
theorem c_X1_addPart (l : Launch) (D : va_G) (K : Nat → ClassId) (ad : Nat → Nat) (hap0 : apart ad (fun _ => True)) (B i n x : Nat) (w : Int32) (hB : PrAt B) (h8 : i < 8) (hn6 : n < 6) (hx6 : x < 6) (I : Nat → Nat → Int32) (G : Nat → Nat → Nat) (A : Nat → Nat → Int32) (L : Nat → Nat → Int64) (hpn : I (B + 12 + 5 * i) 2 = nI n) : Ci l D K ad yX1_addPart wsX1_addPart 1 40 [.ref (ad B), .int (nI i), .int (nI x), .int w] (I, G, A, L) (fun (r : Int32) (u : Mem) => r = nI n + 1 ∧ u = (up2 (up2 (up2 I B 2 (I B 2 + 1)) B 3 0) (B + 12 + 5 * i) 2 (nI n + 1), G, up2 (up2 (up2 (up2 A (B + 12 + 5 * i + 1) n (nI x)) (B + 12 + 5 * i + 2) n w) (B + 12 + 5 * i + 3) x (vp_nar .boolean 1)) (B + 12 + 5 * i + 4) x w, L)) := by
  intro sz
  refine Met.ofW (cc := cX1_addPart) (maxL := 4) (ret := (some .int)) (by decide) rfl ?_
  intro p e s m args below meth c s₁ Bd hml hv0
  obtain ⟨rfl, hsz, hP, hK⟩ := hv0
  have hx := Bd.exec
  have hb := Bd.bytes
  have hr := Bd.returns
  have hts := atoms_spec (ws := wsX1_addPart) Bd.pre
  have hown : s.vm.findClass RX1 = some m.cls := findClass_of_methodNamed Bd.named
  have hlocks := Bd.notSynchronized
  have hi1 : ∀ w ∈ u_ws RX1 TX1 9, w ∈ wsX1_addPart := fun w h => List.mem_cons_of_mem _ (List.mem_append_left _ (List.mem_append_right _ h))
  have hi2 : ∀ w ∈ u_ws RX2 TX2 7, w ∈ wsX1_addPart := fun w h => List.mem_cons_of_mem _ (List.mem_append_right _ h)
  subst hsz
  have hap := vF_ap hap0 s.heap.size
  have hS : va_S (vF ad s.heap.size) s.heap s.heap [] := va_S.rf
  have hP : va_P D vwCl (VW K ad I G A L) s.heap := hP
  have hl := lv_entry ([.ref (ad B), .int (nI i), .int (nI x), .int w]) (n := 4) (Nat.le_of_ble_eq_true rfl)
  rw [lg_entry_eq]
  generalize (lg_sl ([.ref (ad B), .int (nI i), .int (nI x), .int w]) ++ List.replicate (4 - (lg_sl ([.ref (ad B), .int (nI i), .int (nI x), .int w])).length) Slot.unset).toArray = ls at hl ⊢
  have hl : lv_has ls 4 [(0, .ref (ad B)), (1, .int (nI i)), (2, .int (nI x)), (3, .int w)] := hl
  have hin : vp_in (nI i) (ln (B + 10)) := by rw [(pr_o hB).2.2.2.2.2.2.2.2.2.2.1]; exact vp_in_nI h8 (by omega)
  refine lv_aload_n hx hb dX1_addPart_0 rfl (lv_at hl 0 rfl) ?_
  refine vcVv (As := []) (rest := []) ⟨hx, hb, hml, hown, hts⟩ (c_X1_change l D K ad hap0 B hB I G A L) (cwV 0 hts gX1_addPart_X1_change rfl rfl rfl (by decide +kernel) ⟨Nat.le_of_ble_eq_true rfl, Nat.le_of_ble_eq_true rfl⟩) hK hP hS (by have := (pr_o hB).1; omega) (pr_o hB).2.1 (by decide) rfl rfl rfl hl.1 (Nat.le_of_ble_eq_true rfl) (Nat.le_of_ble_eq_true rfl) (Nat.le_of_ble_eq_true rfl) dX1_addPart_1 (fun u2 H locs hw hP hS => ?_) rfl
  obtain ⟨I3, G4, A5, L6⟩ := u2
  have hP : va_P D vwCl (VW K ad I3 G4 A5 L6) H := hP
  injection hw with h1 h2
  injection h2 with h2 h3
  injection h3 with h3 h4
  rw [h2, h3, h4] at hP
  have eI3 : I3 = up2 (up2 I B 2 (I B 2 + 1)) B 3 0 := h1
  have hP : va_P D vwCl (VW K ad I3 G A L) H := hP
  refine lv_aload_n hx hb dX1_addPart_4 rfl (lv_at hl 0 rfl) ?_
  refine vgS hx hb hts hi1 hown hK hP (B) (by have := (pr_o hB).1; omega) (pr_o hB).2.1 (C := RX1) (T := TX1) (N := 9) rfl 7 (by decide) (by decide) (by decide) (by decide) (B + 10) rfl (hts (.fieldLink RX1 39 "CrateHelpers$Problem" "rules" "[LCrateHelpers$Rule;") (by decide +kernel)) (fun _ h9 => h9) dX1_addPart_5 ?_
  refine lv_iload_n hx hb dX1_addPart_8 rfl (lv_at hl 1 rfl) ?_
  refine xaald hx hb hK hP (B + 10) (by have := (pr_o hB).1; omega) 6 14 (pr_o hB).2.2.2.2.2.1 (by decide) rfl hin (B + 12 + 5 * i) (by rw [rf14 (pr_o hB).2.2.2.2.2.1]; rw [nI_clamp (by omega)]) dX1_addPart_9 ?_
  refine lv_iload_n hx hb dX1_addPart_10 rfl (lv_at hl 2 rfl) ?_
  refine lv_iload_n hx hb dX1_addPart_11 rfl (lv_at hl 3 rfl) ?_
  refine vcVv (As := [.int (nI x), .int w]) (rest := []) ⟨hx, hb, hml, hown, hts⟩ (c_X2_add l D K ad hap0 (B + 12 + 5 * i) n x (pr_ru hB h8) hn6 hx6 w I3 G A L (by rw [eI3]; simp only [up2]; rw [if_neg (by omega), if_neg (by omega)]; exact hpn)) (cwV 2 hts gX1_addPart_X2_add rfl rfl rfl (by decide +kernel) ⟨Nat.le_of_ble_eq_true rfl, Nat.le_of_ble_eq_true rfl⟩) hK hP hS (by have := (pr_ru (r := i) hB h8).1; omega) (pr_ru (r := i) hB h8).2.1 (by decide) rfl rfl rfl hl.1 (Nat.le_of_ble_eq_true rfl) (Nat.le_of_ble_eq_true rfl) (Nat.le_of_ble_eq_true rfl) dX1_addPart_12 (fun u8 H locs hw hP hS => ?_) rfl
  obtain ⟨I9, G10, A11, L12⟩ := u8
  have hP : va_P D vwCl (VW K ad I9 G10 A11 L12) H := hP
  injection hw with h1 h2
  injection h2 with h2 h3
  injection h3 with h3 h4
  rw [h2, h4] at hP
  rw [eI3] at h1
  have hP : va_P D vwCl (VW K ad I9 G A11 L) H := hP
  refine lv_aload_n hx hb dX1_addPart_15 rfl (lv_at hl 0 rfl) ?_
  refine vgS hx hb hts hi1 hown hK hP (B) (by have := (pr_o hB).1; omega) (pr_o hB).2.1 (C := RX1) (T := TX1) (N := 9) rfl 7 (by decide) (by decide) (by decide) (by decide) (B + 10) rfl (hts (.fieldLink RX1 39 "CrateHelpers$Problem" "rules" "[LCrateHelpers$Rule;") (by decide +kernel)) (fun _ h9 => h9) dX1_addPart_16 ?_
  refine lv_iload_n hx hb dX1_addPart_19 rfl (lv_at hl 1 rfl) ?_
  refine xaald hx hb hK hP (B + 10) (by have := (pr_o hB).1; omega) 6 14 (pr_o hB).2.2.2.2.2.1 (by decide) rfl hin (B + 12 + 5 * i) (by rw [rf14 (pr_o hB).2.2.2.2.2.1]; rw [nI_clamp (by omega)]) dX1_addPart_20 ?_
  refine vgI hx hb hts hi2 hown hK hP (B + 12 + 5 * i) (by have := (pr_ru (r := i) hB h8).1; omega) (pr_ru (r := i) hB h8).2.1 (C := RX2) (T := TX2) (N := 7) rfl 2 (by decide) (by decide) (by decide) (by decide) (hts (.fieldLink RX1 64 "CrateHelpers$Rule" "parts" "I") (by decide +kernel)) (fun _ h9 => h9) dX1_addPart_21 ?_
  exact W.iret (v := (I9 (B + 12 + 5 * i) 2)) hx hb hr (fun t ht hW => ⟨⟨(I9 (B + 12 + 5 * i) 2), (I9, G, A11, L), rfl, ⟨by rw [h1, up2_s], by rw [h1, h3]⟩, by rw [ht]; exact hP, va_K.moved hW.alike hK⟩, hS.F ht⟩) hS.2.2 dX1_addPart_24
