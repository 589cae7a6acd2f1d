set_option maxHeartbeats 4000000 in
set_option maxRecDepth 100000 in
theorem e_X6_walked (l : Launch) (D : va_G) (K : Nat → ClassId) (ad : Nat → Nat) (hap0 : apart ad (fun _ => True)) (a1 : Int32) (a2 : Int32) (I : Nat → Nat → Int32) (G : Nat → Nat → Nat) (A : Nat → Nat → Int32) (L : Nat → Nat → Int64) (r0 : Int32) (h : f_X6_walked I G A L a1 a2 = some r0) : Ci l D K ad yX6_walked wsX6_walked 2 67 [.ref (ad 0), .int a1, .int a2] (I, G, A, L) (fun (r : Int32) (u : Mem) => r = r0 ∧ u = (I, G, A, L)) := by
  intro sz
  refine Met.ofW (cc := cX6_walked) (maxL := 4) (ret := (some .int)) (by decide) rfl ?_
  intro p e s m args below meth c s₁ Bd hml hv0
  obtain ⟨rfl, hsz, hP, hK⟩ := hv0
  have hx := Bd.exec
  have hb := Bd.bytes
  have hr := Bd.returns
  have hts := atoms_spec (ws := wsX6_walked) Bd.pre
  have hown : s.vm.findClass RX6 = some m.cls := findClass_of_methodNamed Bd.named
  have hlocks := Bd.notSynchronized
  have hi6 : ∀ w ∈ u_ws RX6 TX6 18, w ∈ wsX6_walked := fun w h => List.mem_cons_of_mem _ (List.mem_append_left _ (List.mem_append_left _ (List.mem_append_right _ h)))
  have hi5 : ∀ w ∈ u_ws RX5 TX5 16, w ∈ wsX6_walked := fun w h => List.mem_cons_of_mem _ (List.mem_append_left _ (List.mem_append_right _ h))
  have hi1 : ∀ w ∈ u_ws RX1 TX1 9, w ∈ wsX6_walked := fun w h => List.mem_cons_of_mem _ (List.mem_append_right _ h)
  subst hsz
  have hap := vF_ap hap0 s.heap.size
  have hS : va_S (vF ad s.heap.size) s.heap s.heap [] := va_S.rf
  have hP : va_P D vwCl (VW K ad I G A L) s.heap := hP
  have hl := lv_entry ([.ref (ad 0), .int a1, .int a2]) (n := 4) (Nat.le_of_ble_eq_true rfl)
  rw [lg_entry_eq]
  generalize (lg_sl ([.ref (ad 0), .int a1, .int a2]) ++ List.replicate (4 - (lg_sl ([.ref (ad 0), .int a1, .int a2])).length) Slot.unset).toArray = ls at hl ⊢
  have hl : lv_has ls 4 [(0, .ref (ad 0)), (1, .int a1), (2, .int a2)] := hl
  rw [f_X6_walked] at h
  refine lv_iload_n hx hb dX6_walked_0 rfl (lv_at hl 2 rfl) ?_
  refine lv_iconst (v := 0) hx hb dX6_walked_1 (by decide) ?_
  refine lv_bipush (v := 9) hx hb dX6_walked_2 (by decide) ?_
  obtain ⟨r1, hc2, h⟩ := Option.bind_eq_some_iff.mp h
  refine ecS (As := [.int a2, .int 0, .int 9]) (rest := []) ⟨hx, hb, hml, hown, hts⟩ (e_X6_isWithin l D K ad hap0 a2 0 9 I G A L r1 hc2) (va_cwS 3 hts gX6_walked_X6_isWithin rfl rfl rfl (by decide +kernel) ⟨Nat.le_of_ble_eq_true rfl, Nat.le_of_ble_eq_true rfl⟩) hK hP hS rfl hl.1 (Nat.le_of_ble_eq_true rfl) (Nat.le_of_ble_eq_true rfl) (Nat.le_of_ble_eq_true rfl) dX6_walked_4 (fun H locs hP hS => ?_) rfl
  have hP : va_P D vwCl (VW K ad I G A L) H := hP
  refine lv_if_ne (tgt := 12) hx hb dX6_walked_7 (by decide) (fun c_3 => ?_) (fun c_3 => ?_)
  · have h := iN c_3 h
    refine lv_iload_n hx hb dX6_walked_12 rfl (lv_at hl 1 rfl) ?_
    refine lv_iconst (v := 0) hx hb dX6_walked_13 (by decide) ?_
    refine lv_aload_n hx hb dX6_walked_14 rfl (lv_at hl 0 rfl) ?_
    refine vgG hx hb hts hi6 hown hK hP (0) (by decide) (show kd 0 = 6 by decide) (C := RX6) (T := TX6) (N := 18) rfl 6 (by decide) (by decide) (by decide) (by decide) (hts (.fieldLink RX6 82 "CrateHelpers" "lastEnded" "LCrateHelpers$Tree;") (by decide +kernel)) (fun _ h9 => h9) dX6_walked_15 ?_
    obtain ⟨hk4, h⟩ := gk h
    refine vgI hx hb hts hi5 hown hK hP (G 0 6) (s318 hk4.1) hk4.2 (C := RX5) (T := TX5) (N := 16) rfl 11 (by decide) (by decide) (by decide) (by decide) (hts (.fieldLink RX6 192 "CrateHelpers$Tree" "taken" "I") (by decide +kernel)) (fun _ h9 => h9) dX6_walked_18 ?_
    refine lv_iconst (v := 1) hx hb dX6_walked_21 (by decide) ?_
    refine lv_isub hx hb dX6_walked_22 ?_
    obtain ⟨r5, hc6, h⟩ := Option.bind_eq_some_iff.mp h
    refine ecS (As := [.int a1, .int 0, .int ((I (G 0 6) 11) - 1)]) (rest := []) ⟨hx, hb, hml, hown, hts⟩ (e_X6_isWithin l D K ad hap0 a1 0 ((I (G 0 6) 11) - 1) I G A L r5 hc6) (va_cwS 3 hts gX6_walked_X6_isWithin rfl rfl rfl (by decide +kernel) ⟨Nat.le_of_ble_eq_true rfl, Nat.le_of_ble_eq_true rfl⟩) hK hP hS rfl hl.1 (Nat.le_of_ble_eq_true rfl) (Nat.le_of_ble_eq_true rfl) (Nat.le_of_ble_eq_true rfl) dX6_walked_23 (fun H locs hP hS => ?_) rfl
    have hP : va_P D vwCl (VW K ad I G A L) H := hP
    refine lv_if_ne (tgt := 32) hx hb dX6_walked_26 (by decide) (fun c_7 => ?_) (fun c_7 => ?_)
    · have h := iN c_7 h
      refine lv_aload_n hx hb dX6_walked_32 rfl (lv_at hl 0 rfl) ?_
      refine vgG hx hb hts hi6 hown hK hP (0) (by decide) (show kd 0 = 6 by decide) (C := RX6) (T := TX6) (N := 18) rfl 6 (by decide) (by decide) (by decide) (by decide) (hts (.fieldLink RX6 82 "CrateHelpers" "lastEnded" "LCrateHelpers$Tree;") (by decide +kernel)) (fun _ h9 => h9) dX6_walked_33 ?_
      refine vgS hx hb hts hi5 hown hK hP (G 0 6) (s318 hk4.1) hk4.2 (C := RX5) (T := TX5) (N := 16) rfl 8 (by decide) (by decide) (by decide) (by decide) (G 0 6 + 9) rfl (hts (.fieldLink RX6 195 "CrateHelpers$Tree" "walk" "[I") (by decide +kernel)) (fun _ h9 => h9) dX6_walked_36 ?_
      refine lv_iload_n hx hb dX6_walked_39 rfl (lv_at hl 1 rfl) ?_
      obtain ⟨hk8, h⟩ := gk h
      obtain ⟨hn9, h⟩ := gk h
      refine xiald hx hb hK hP (G 0 6 + 9) (s318 hk8.1) hk8.2 hn9 dX6_walked_40 ?_
      refine lv_istore_n (lv' := [(3, .int (A (G 0 6 + 9) a1.toNatClampNeg)), (0, .ref (ad 0)), (1, .int a1), (2, .int a2)]) hx hb dX6_walked_41 rfl hl (by decide) rfl (fun ls hl => ?_)
      refine lv_iload_n hx hb dX6_walked_42 rfl (lv_at hl 3 rfl) ?_
      rcases sw_9 a2 with hs10 | hs10 | hs10 | hs10 | hs10 | hs10 | hs10 | hs10 | hs10 | hs10 | hs10
      · have h := ip hs10 h
        refine W_top hs10 ?_
        refine lv_tableIn (off := 53) (tgt := 96) hx hb dX6_walked_43 (by decide) (by decide) (by decide) (by decide) ?_
        refine lv_aload_n hx hb dX6_walked_96 rfl (lv_at hl 1 rfl) ?_
        refine vgG hx hb hts hi6 hown hK hP (0) (by decide) (show kd 0 = 6 by decide) (C := RX6) (T := TX6) (N := 18) rfl 6 (by decide) (by decide) (by decide) (by decide) (hts (.fieldLink RX6 82 "CrateHelpers" "lastEnded" "LCrateHelpers$Tree;") (by decide +kernel)) (fun _ h9 => h9) dX6_walked_97 ?_
        refine vgS hx hb hts hi5 hown hK hP (G 0 6) (s318 hk4.1) hk4.2 (C := RX5) (T := TX5) (N := 16) rfl 1 (by decide) (by decide) (by decide) (by decide) (G 0 6 + 2) rfl (hts (.fieldLink RX6 198 "CrateHelpers$Tree" "depth" "[B") (by decide +kernel)) (fun _ h9 => h9) dX6_walked_100 ?_
        refine lv_iload_n hx hb dX6_walked_103 rfl (lv_at hl 0 rfl) ?_
        obtain ⟨hk11, h⟩ := gk h
        obtain ⟨hn12, h⟩ := gk h
        refine xbald hx hb hK hP (G 0 6 + 2) (s318 hk11.1) hk11.2 hn12 dX6_walked_104 ?_
        exact W.iret (v := (A (G 0 6 + 2) ((A (G 0 6 + 9) a1.toNatClampNeg).toNatClampNeg))) hx hb hr (fun t9 ht9 hW9 => ⟨⟨(A (G 0 6 + 2) ((A (G 0 6 + 9) a1.toNatClampNeg).toNatClampNeg)), (I, G, A, L), rfl, by cases h; exact ⟨rfl, rfl⟩, by rw [ht9]; exact hP, va_K.moved hW9.alike hK⟩, hS.F ht9⟩) hS.2.2 dX6_walked_105
      · have h := iN (by rw [hs10]; decide) h
        have h := ip hs10 h
        refine W_top hs10 ?_
        refine lv_tableIn (off := 91) (tgt := 134) hx hb dX6_walked_43 (by decide) (by decide) (by decide) (by decide) ?_
        refine lv_iload_n hx hb dX6_walked_134 rfl (lv_at hl 3 rfl) ?_
        refine lv_aload_n hx hb dX6_walked_135 rfl (lv_at hl 1 rfl) ?_
        refine vgG hx hb hts hi6 hown hK hP (0) (by decide) (show kd 0 = 6 by decide) (C := RX6) (T := TX6) (N := 18) rfl 6 (by decide) (by decide) (by decide) (by decide) (hts (.fieldLink RX6 82 "CrateHelpers" "lastEnded" "LCrateHelpers$Tree;") (by decide +kernel)) (fun _ h9 => h9) dX6_walked_136 ?_
        refine vgS hx hb hts hi5 hown hK hP (G 0 6) (s318 hk4.1) hk4.2 (C := RX5) (T := TX5) (N := 16) rfl 1 (by decide) (by decide) (by decide) (by decide) (G 0 6 + 2) rfl (hts (.fieldLink RX6 198 "CrateHelpers$Tree" "depth" "[B") (by decide +kernel)) (fun _ h9 => h9) dX6_walked_139 ?_
        refine lv_iload_n hx hb dX6_walked_142 rfl (lv_at hl 0 rfl) ?_
        obtain ⟨hk13, h⟩ := gk h
        obtain ⟨hn14, h⟩ := gk h
        refine xbald hx hb hK hP (G 0 6 + 2) (s318 hk13.1) hk13.2 hn14 dX6_walked_143 ?_
        refine lv_icmp_gt (tgt := 161) hx hb dX6_walked_144 (by decide) (fun c_15 => ?_) (fun c_15 => ?_)
        · have h := ip c_15 h
          refine lv_bipush (v := (-9)) hx hb dX6_walked_161 (by decide) ?_
          exact W.iret (v := (-9)) hx hb hr (fun t9 ht9 hW9 => ⟨⟨(-9), (I, G, A, L), rfl, by cases h; exact ⟨rfl, rfl⟩, by rw [ht9]; exact hP, va_K.moved hW9.alike hK⟩, hS.F ht9⟩) hS.2.2 dX6_walked_163
        · have h := iN c_15 h
          refine lv_aload_n hx hb dX6_walked_147 rfl (lv_at hl 1 rfl) ?_
          refine vgG hx hb hts hi6 hown hK hP (0) (by decide) (show kd 0 = 6 by decide) (C := RX6) (T := TX6) (N := 18) rfl 6 (by decide) (by decide) (by decide) (by decide) (hts (.fieldLink RX6 82 "CrateHelpers" "lastEnded" "LCrateHelpers$Tree;") (by decide +kernel)) (fun _ h9 => h9) dX6_walked_148 ?_
          refine lv_iload_n hx hb dX6_walked_151 rfl (lv_at hl 0 rfl) ?_
          refine lv_iload_n hx hb dX6_walked_152 rfl (lv_at hl 3 rfl) ?_
          refine lv_iconst (v := 1) hx hb dX6_walked_153 (by decide) ?_
          refine lv_isub hx hb dX6_walked_154 ?_
          obtain ⟨r16, hc17, h⟩ := Option.bind_eq_some_iff.mp h
          refine ecV (As := [.int (A (G 0 6 + 9) a1.toNatClampNeg), .int (a2 - 1)]) (rest := []) ⟨hx, hb, hml, hown, hts⟩ (e_X5_valueOf l D K ad hap0 (G 0 6) (A (G 0 6 + 9) a1.toNatClampNeg) (a2 - 1) I G A L r16 hc17) (cwV 2 hts gX6_walked_X5_valueOf rfl rfl rfl (by decide +kernel) ⟨Nat.le_of_ble_eq_true rfl, Nat.le_of_ble_eq_true rfl⟩) hK hP hS (s318 hk4.1) hk4.2 (by decide) rfl rfl rfl hl.1 (Nat.le_of_ble_eq_true rfl) (Nat.le_of_ble_eq_true rfl) (Nat.le_of_ble_eq_true rfl) dX6_walked_155 (fun H locs hP hS => ?_) rfl
          have hP : va_P D vwCl (VW K ad I G A L) H := hP
          refine lv_goto (tgt := 163) hx hb dX6_walked_158 (by decide) ?_
          exact W.iret (v := r16) hx hb hr (fun t9 ht9 hW9 => ⟨⟨r16, (I, G, A, L), rfl, by cases h; exact ⟨rfl, rfl⟩, by rw [ht9]; exact hP, va_K.moved hW9.alike hK⟩, hS.F ht9⟩) hS.2.2 dX6_walked_163
      · have h := iN (by rw [hs10]; decide) h
        have h := iN (by rw [hs10]; decide) h
        have h := ip hs10 h
        refine W_top hs10 ?_
        refine lv_tableIn (off := 91) (tgt := 134) hx hb dX6_walked_43 (by decide) (by decide) (by decide) (by decide) ?_
        refine lv_iload_n hx hb dX6_walked_134 rfl (lv_at hl 3 rfl) ?_
        refine lv_aload_n hx hb dX6_walked_135 rfl (lv_at hl 1 rfl) ?_
        refine vgG hx hb hts hi6 hown hK hP (0) (by decide) (show kd 0 = 6 by decide) (C := RX6) (T := TX6) (N := 18) rfl 6 (by decide) (by decide) (by decide) (by decide) (hts (.fieldLink RX6 82 "CrateHelpers" "lastEnded" "LCrateHelpers$Tree;") (by decide +kernel)) (fun _ h9 => h9) dX6_walked_136 ?_
        refine vgS hx hb hts hi5 hown hK hP (G 0 6) (s318 hk4.1) hk4.2 (C := RX5) (T := TX5) (N := 16) rfl 1 (by decide) (by decide) (by decide) (by decide) (G 0 6 + 2) rfl (hts (.fieldLink RX6 198 "CrateHelpers$Tree" "depth" "[B") (by decide +kernel)) (fun _ h9 => h9) dX6_walked_139 ?_
        refine lv_iload_n hx hb dX6_walked_142 rfl (lv_at hl 0 rfl) ?_
        obtain ⟨hk18, h⟩ := gk h
        obtain ⟨hn19, h⟩ := gk h
        refine xbald hx hb hK hP (G 0 6 + 2) (s318 hk18.1) hk18.2 hn19 dX6_walked_143 ?_
        refine lv_icmp_gt (tgt := 161) hx hb dX6_walked_144 (by decide) (fun c_20 => ?_) (fun c_20 => ?_)
        · have h := ip c_20 h
          refine lv_bipush (v := (-9)) hx hb dX6_walked_161 (by decide) ?_
          exact W.iret (v := (-9)) hx hb hr (fun t9 ht9 hW9 => ⟨⟨(-9), (I, G, A, L), rfl, by cases h; exact ⟨rfl, rfl⟩, by rw [ht9]; exact hP, va_K.moved hW9.alike hK⟩, hS.F ht9⟩) hS.2.2 dX6_walked_163
        · have h := iN c_20 h
          refine lv_aload_n hx hb dX6_walked_147 rfl (lv_at hl 1 rfl) ?_
          refine vgG hx hb hts hi6 hown hK hP (0) (by decide) (show kd 0 = 6 by decide) (C := RX6) (T := TX6) (N := 18) rfl 6 (by decide) (by decide) (by decide) (by decide) (hts (.fieldLink RX6 82 "CrateHelpers" "lastEnded" "LCrateHelpers$Tree;") (by decide +kernel)) (fun _ h9 => h9) dX6_walked_148 ?_
          refine lv_iload_n hx hb dX6_walked_151 rfl (lv_at hl 0 rfl) ?_
          refine lv_iload_n hx hb dX6_walked_152 rfl (lv_at hl 3 rfl) ?_
          refine lv_iconst (v := 1) hx hb dX6_walked_153 (by decide) ?_
          refine lv_isub hx hb dX6_walked_154 ?_
          obtain ⟨r21, hc22, h⟩ := Option.bind_eq_some_iff.mp h
          refine ecV (As := [.int (A (G 0 6 + 9) a1.toNatClampNeg), .int (a2 - 1)]) (rest := []) ⟨hx, hb, hml, hown, hts⟩ (e_X5_valueOf l D K ad hap0 (G 0 6) (A (G 0 6 + 9) a1.toNatClampNeg) (a2 - 1) I G A L r21 hc22) (cwV 2 hts gX6_walked_X5_valueOf rfl rfl rfl (by decide +kernel) ⟨Nat.le_of_ble_eq_true rfl, Nat.le_of_ble_eq_true rfl⟩) hK hP hS (s318 hk4.1) hk4.2 (by decide) rfl rfl rfl hl.1 (Nat.le_of_ble_eq_true rfl) (Nat.le_of_ble_eq_true rfl) (Nat.le_of_ble_eq_true rfl) dX6_walked_155 (fun H locs hP hS => ?_) rfl
          have hP : va_P D vwCl (VW K ad I G A L) H := hP
          refine lv_goto (tgt := 163) hx hb dX6_walked_158 (by decide) ?_
          exact W.iret (v := r21) hx hb hr (fun t9 ht9 hW9 => ⟨⟨r21, (I, G, A, L), rfl, by cases h; exact ⟨rfl, rfl⟩, by rw [ht9]; exact hP, va_K.moved hW9.alike hK⟩, hS.F ht9⟩) hS.2.2 dX6_walked_163
      · have h := iN (by rw [hs10]; decide) h
        have h := iN (by rw [hs10]; decide) h
        have h := iN (by rw [hs10]; decide) h
        have h := ip hs10 h
        refine W_top hs10 ?_
        refine lv_tableIn (off := 91) (tgt := 134) hx hb dX6_walked_43 (by decide) (by decide) (by decide) (by decide) ?_
        refine lv_iload_n hx hb dX6_walked_134 rfl (lv_at hl 3 rfl) ?_
        refine lv_aload_n hx hb dX6_walked_135 rfl (lv_at hl 1 rfl) ?_
        refine vgG hx hb hts hi6 hown hK hP (0) (by decide) (show kd 0 = 6 by decide) (C := RX6) (T := TX6) (N := 18) rfl 6 (by decide) (by decide) (by decide) (by decide) (hts (.fieldLink RX6 82 "CrateHelpers" "lastEnded" "LCrateHelpers$Tree;") (by decide +kernel)) (fun _ h9 => h9) dX6_walked_136 ?_
        refine vgS hx hb hts hi5 hown hK hP (G 0 6) (s318 hk4.1) hk4.2 (C := RX5) (T := TX5) (N := 16) rfl 1 (by decide) (by decide) (by decide) (by decide) (G 0 6 + 2) rfl (hts (.fieldLink RX6 198 "CrateHelpers$Tree" "depth" "[B") (by decide +kernel)) (fun _ h9 => h9) dX6_walked_139 ?_
        refine lv_iload_n hx hb dX6_walked_142 rfl (lv_at hl 0 rfl) ?_
        obtain ⟨hk23, h⟩ := gk h
        obtain ⟨hn24, h⟩ := gk h
        refine xbald hx hb hK hP (G 0 6 + 2) (s318 hk23.1) hk23.2 hn24 dX6_walked_143 ?_
        refine lv_icmp_gt (tgt := 161) hx hb dX6_walked_144 (by decide) (fun c_25 => ?_) (fun c_25 => ?_)
        · have h := ip c_25 h
          refine lv_bipush (v := (-9)) hx hb dX6_walked_161 (by decide) ?_
          exact W.iret (v := (-9)) hx hb hr (fun t9 ht9 hW9 => ⟨⟨(-9), (I, G, A, L), rfl, by cases h; exact ⟨rfl, rfl⟩, by rw [ht9]; exact hP, va_K.moved hW9.alike hK⟩, hS.F ht9⟩) hS.2.2 dX6_walked_163
        · have h := iN c_25 h
          refine lv_aload_n hx hb dX6_walked_147 rfl (lv_at hl 1 rfl) ?_
          refine vgG hx hb hts hi6 hown hK hP (0) (by decide) (show kd 0 = 6 by decide) (C := RX6) (T := TX6) (N := 18) rfl 6 (by decide) (by decide) (by decide) (by decide) (hts (.fieldLink RX6 82 "CrateHelpers" "lastEnded" "LCrateHelpers$Tree;") (by decide +kernel)) (fun _ h9 => h9) dX6_walked_148 ?_
          refine lv_iload_n hx hb dX6_walked_151 rfl (lv_at hl 0 rfl) ?_
          refine lv_iload_n hx hb dX6_walked_152 rfl (lv_at hl 3 rfl) ?_
          refine lv_iconst (v := 1) hx hb dX6_walked_153 (by decide) ?_
          refine lv_isub hx hb dX6_walked_154 ?_
          obtain ⟨r26, hc27, h⟩ := Option.bind_eq_some_iff.mp h
          refine ecV (As := [.int (A (G 0 6 + 9) a1.toNatClampNeg), .int (a2 - 1)]) (rest := []) ⟨hx, hb, hml, hown, hts⟩ (e_X5_valueOf l D K ad hap0 (G 0 6) (A (G 0 6 + 9) a1.toNatClampNeg) (a2 - 1) I G A L r26 hc27) (cwV 2 hts gX6_walked_X5_valueOf rfl rfl rfl (by decide +kernel) ⟨Nat.le_of_ble_eq_true rfl, Nat.le_of_ble_eq_true rfl⟩) hK hP hS (s318 hk4.1) hk4.2 (by decide) rfl rfl rfl hl.1 (Nat.le_of_ble_eq_true rfl) (Nat.le_of_ble_eq_true rfl) (Nat.le_of_ble_eq_true rfl) dX6_walked_155 (fun H locs hP hS => ?_) rfl
          have hP : va_P D vwCl (VW K ad I G A L) H := hP
          refine lv_goto (tgt := 163) hx hb dX6_walked_158 (by decide) ?_
          exact W.iret (v := r26) hx hb hr (fun t9 ht9 hW9 => ⟨⟨r26, (I, G, A, L), rfl, by cases h; exact ⟨rfl, rfl⟩, by rw [ht9]; exact hP, va_K.moved hW9.alike hK⟩, hS.F ht9⟩) hS.2.2 dX6_walked_163
      · have h := iN (by rw [hs10]; decide) h
        have h := iN (by rw [hs10]; decide) h
        have h := iN (by rw [hs10]; decide) h
        have h := iN (by rw [hs10]; decide) h
        have h := ip hs10 h
        refine W_top hs10 ?_
        refine lv_tableIn (off := 91) (tgt := 134) hx hb dX6_walked_43 (by decide) (by decide) (by decide) (by decide) ?_
        refine lv_iload_n hx hb dX6_walked_134 rfl (lv_at hl 3 rfl) ?_
        refine lv_aload_n hx hb dX6_walked_135 rfl (lv_at hl 1 rfl) ?_
        refine vgG hx hb hts hi6 hown hK hP (0) (by decide) (show kd 0 = 6 by decide) (C := RX6) (T := TX6) (N := 18) rfl 6 (by decide) (by decide) (by decide) (by decide) (hts (.fieldLink RX6 82 "CrateHelpers" "lastEnded" "LCrateHelpers$Tree;") (by decide +kernel)) (fun _ h9 => h9) dX6_walked_136 ?_
        refine vgS hx hb hts hi5 hown hK hP (G 0 6) (s318 hk4.1) hk4.2 (C := RX5) (T := TX5) (N := 16) rfl 1 (by decide) (by decide) (by decide) (by decide) (G 0 6 + 2) rfl (hts (.fieldLink RX6 198 "CrateHelpers$Tree" "depth" "[B") (by decide +kernel)) (fun _ h9 => h9) dX6_walked_139 ?_
        refine lv_iload_n hx hb dX6_walked_142 rfl (lv_at hl 0 rfl) ?_
        obtain ⟨hk28, h⟩ := gk h
        obtain ⟨hn29, h⟩ := gk h
        refine xbald hx hb hK hP (G 0 6 + 2) (s318 hk28.1) hk28.2 hn29 dX6_walked_143 ?_
        refine lv_icmp_gt (tgt := 161) hx hb dX6_walked_144 (by decide) (fun c_30 => ?_) (fun c_30 => ?_)
        · have h := ip c_30 h
          refine lv_bipush (v := (-9)) hx hb dX6_walked_161 (by decide) ?_
          exact W.iret (v := (-9)) hx hb hr (fun t9 ht9 hW9 => ⟨⟨(-9), (I, G, A, L), rfl, by cases h; exact ⟨rfl, rfl⟩, by rw [ht9]; exact hP, va_K.moved hW9.alike hK⟩, hS.F ht9⟩) hS.2.2 dX6_walked_163
        · have h := iN c_30 h
          refine lv_aload_n hx hb dX6_walked_147 rfl (lv_at hl 1 rfl) ?_
          refine vgG hx hb hts hi6 hown hK hP (0) (by decide) (show kd 0 = 6 by decide) (C := RX6) (T := TX6) (N := 18) rfl 6 (by decide) (by decide) (by decide) (by decide) (hts (.fieldLink RX6 82 "CrateHelpers" "lastEnded" "LCrateHelpers$Tree;") (by decide +kernel)) (fun _ h9 => h9) dX6_walked_148 ?_
          refine lv_iload_n hx hb dX6_walked_151 rfl (lv_at hl 0 rfl) ?_
          refine lv_iload_n hx hb dX6_walked_152 rfl (lv_at hl 3 rfl) ?_
          refine lv_iconst (v := 1) hx hb dX6_walked_153 (by decide) ?_
          refine lv_isub hx hb dX6_walked_154 ?_
          obtain ⟨r31, hc32, h⟩ := Option.bind_eq_some_iff.mp h
          refine ecV (As := [.int (A (G 0 6 + 9) a1.toNatClampNeg), .int (a2 - 1)]) (rest := []) ⟨hx, hb, hml, hown, hts⟩ (e_X5_valueOf l D K ad hap0 (G 0 6) (A (G 0 6 + 9) a1.toNatClampNeg) (a2 - 1) I G A L r31 hc32) (cwV 2 hts gX6_walked_X5_valueOf rfl rfl rfl (by decide +kernel) ⟨Nat.le_of_ble_eq_true rfl, Nat.le_of_ble_eq_true rfl⟩) hK hP hS (s318 hk4.1) hk4.2 (by decide) rfl rfl rfl hl.1 (Nat.le_of_ble_eq_true rfl) (Nat.le_of_ble_eq_true rfl) (Nat.le_of_ble_eq_true rfl) dX6_walked_155 (fun H locs hP hS => ?_) rfl
          have hP : va_P D vwCl (VW K ad I G A L) H := hP
          refine lv_goto (tgt := 163) hx hb dX6_walked_158 (by decide) ?_
          exact W.iret (v := r31) hx hb hr (fun t9 ht9 hW9 => ⟨⟨r31, (I, G, A, L), rfl, by cases h; exact ⟨rfl, rfl⟩, by rw [ht9]; exact hP, va_K.moved hW9.alike hK⟩, hS.F ht9⟩) hS.2.2 dX6_walked_163
      · have h := iN (by rw [hs10]; decide) h
        have h := iN (by rw [hs10]; decide) h
        have h := iN (by rw [hs10]; decide) h
        have h := iN (by rw [hs10]; decide) h
        have h := iN (by rw [hs10]; decide) h
        have h := ip hs10 h
        refine W_top hs10 ?_
        refine lv_tableIn (off := 91) (tgt := 134) hx hb dX6_walked_43 (by decide) (by decide) (by decide) (by decide) ?_
        refine lv_iload_n hx hb dX6_walked_134 rfl (lv_at hl 3 rfl) ?_
        refine lv_aload_n hx hb dX6_walked_135 rfl (lv_at hl 1 rfl) ?_
        refine vgG hx hb hts hi6 hown hK hP (0) (by decide) (show kd 0 = 6 by decide) (C := RX6) (T := TX6) (N := 18) rfl 6 (by decide) (by decide) (by decide) (by decide) (hts (.fieldLink RX6 82 "CrateHelpers" "lastEnded" "LCrateHelpers$Tree;") (by decide +kernel)) (fun _ h9 => h9) dX6_walked_136 ?_
        refine vgS hx hb hts hi5 hown hK hP (G 0 6) (s318 hk4.1) hk4.2 (C := RX5) (T := TX5) (N := 16) rfl 1 (by decide) (by decide) (by decide) (by decide) (G 0 6 + 2) rfl (hts (.fieldLink RX6 198 "CrateHelpers$Tree" "depth" "[B") (by decide +kernel)) (fun _ h9 => h9) dX6_walked_139 ?_
        refine lv_iload_n hx hb dX6_walked_142 rfl (lv_at hl 0 rfl) ?_
        obtain ⟨hk33, h⟩ := gk h
        obtain ⟨hn34, h⟩ := gk h
        refine xbald hx hb hK hP (G 0 6 + 2) (s318 hk33.1) hk33.2 hn34 dX6_walked_143 ?_
        refine lv_icmp_gt (tgt := 161) hx hb dX6_walked_144 (by decide) (fun c_35 => ?_) (fun c_35 => ?_)
        · have h := ip c_35 h
          refine lv_bipush (v := (-9)) hx hb dX6_walked_161 (by decide) ?_
          exact W.iret (v := (-9)) hx hb hr (fun t9 ht9 hW9 => ⟨⟨(-9), (I, G, A, L), rfl, by cases h; exact ⟨rfl, rfl⟩, by rw [ht9]; exact hP, va_K.moved hW9.alike hK⟩, hS.F ht9⟩) hS.2.2 dX6_walked_163
        · have h := iN c_35 h
          refine lv_aload_n hx hb dX6_walked_147 rfl (lv_at hl 1 rfl) ?_
          refine vgG hx hb hts hi6 hown hK hP (0) (by decide) (show kd 0 = 6 by decide) (C := RX6) (T := TX6) (N := 18) rfl 6 (by decide) (by decide) (by decide) (by decide) (hts (.fieldLink RX6 82 "CrateHelpers" "lastEnded" "LCrateHelpers$Tree;") (by decide +kernel)) (fun _ h9 => h9) dX6_walked_148 ?_
          refine lv_iload_n hx hb dX6_walked_151 rfl (lv_at hl 0 rfl) ?_
          refine lv_iload_n hx hb dX6_walked_152 rfl (lv_at hl 3 rfl) ?_
          refine lv_iconst (v := 1) hx hb dX6_walked_153 (by decide) ?_
          refine lv_isub hx hb dX6_walked_154 ?_
          obtain ⟨r36, hc37, h⟩ := Option.bind_eq_some_iff.mp h
          refine ecV (As := [.int (A (G 0 6 + 9) a1.toNatClampNeg), .int (a2 - 1)]) (rest := []) ⟨hx, hb, hml, hown, hts⟩ (e_X5_valueOf l D K ad hap0 (G 0 6) (A (G 0 6 + 9) a1.toNatClampNeg) (a2 - 1) I G A L r36 hc37) (cwV 2 hts gX6_walked_X5_valueOf rfl rfl rfl (by decide +kernel) ⟨Nat.le_of_ble_eq_true rfl, Nat.le_of_ble_eq_true rfl⟩) hK hP hS (s318 hk4.1) hk4.2 (by decide) rfl rfl rfl hl.1 (Nat.le_of_ble_eq_true rfl) (Nat.le_of_ble_eq_true rfl) (Nat.le_of_ble_eq_true rfl) dX6_walked_155 (fun H locs hP hS => ?_) rfl
          have hP : va_P D vwCl (VW K ad I G A L) H := hP
          refine lv_goto (tgt := 163) hx hb dX6_walked_158 (by decide) ?_
          exact W.iret (v := r36) hx hb hr (fun t9 ht9 hW9 => ⟨⟨r36, (I, G, A, L), rfl, by cases h; exact ⟨rfl, rfl⟩, by rw [ht9]; exact hP, va_K.moved hW9.alike hK⟩, hS.F ht9⟩) hS.2.2 dX6_walked_163
      · have h := iN (by rw [hs10]; decide) h
        have h := iN (by rw [hs10]; decide) h
        have h := iN (by rw [hs10]; decide) h
        have h := iN (by rw [hs10]; decide) h
        have h := iN (by rw [hs10]; decide) h
        have h := iN (by rw [hs10]; decide) h
        have h := ip hs10 h
        refine W_top hs10 ?_
        refine lv_tableIn (off := 91) (tgt := 134) hx hb dX6_walked_43 (by decide) (by decide) (by decide) (by decide) ?_
        refine lv_iload_n hx hb dX6_walked_134 rfl (lv_at hl 3 rfl) ?_
        refine lv_aload_n hx hb dX6_walked_135 rfl (lv_at hl 1 rfl) ?_
        refine vgG hx hb hts hi6 hown hK hP (0) (by decide) (show kd 0 = 6 by decide) (C := RX6) (T := TX6) (N := 18) rfl 6 (by decide) (by decide) (by decide) (by decide) (hts (.fieldLink RX6 82 "CrateHelpers" "lastEnded" "LCrateHelpers$Tree;") (by decide +kernel)) (fun _ h9 => h9) dX6_walked_136 ?_
        refine vgS hx hb hts hi5 hown hK hP (G 0 6) (s318 hk4.1) hk4.2 (C := RX5) (T := TX5) (N := 16) rfl 1 (by decide) (by decide) (by decide) (by decide) (G 0 6 + 2) rfl (hts (.fieldLink RX6 198 "CrateHelpers$Tree" "depth" "[B") (by decide +kernel)) (fun _ h9 => h9) dX6_walked_139 ?_
        refine lv_iload_n hx hb dX6_walked_142 rfl (lv_at hl 0 rfl) ?_
        obtain ⟨hk38, h⟩ := gk h
        obtain ⟨hn39, h⟩ := gk h
        refine xbald hx hb hK hP (G 0 6 + 2) (s318 hk38.1) hk38.2 hn39 dX6_walked_143 ?_
        refine lv_icmp_gt (tgt := 161) hx hb dX6_walked_144 (by decide) (fun c_40 => ?_) (fun c_40 => ?_)
        · have h := ip c_40 h
          refine lv_bipush (v := (-9)) hx hb dX6_walked_161 (by decide) ?_
          exact W.iret (v := (-9)) hx hb hr (fun t9 ht9 hW9 => ⟨⟨(-9), (I, G, A, L), rfl, by cases h; exact ⟨rfl, rfl⟩, by rw [ht9]; exact hP, va_K.moved hW9.alike hK⟩, hS.F ht9⟩) hS.2.2 dX6_walked_163
        · have h := iN c_40 h
          refine lv_aload_n hx hb dX6_walked_147 rfl (lv_at hl 1 rfl) ?_
          refine vgG hx hb hts hi6 hown hK hP (0) (by decide) (show kd 0 = 6 by decide) (C := RX6) (T := TX6) (N := 18) rfl 6 (by decide) (by decide) (by decide) (by decide) (hts (.fieldLink RX6 82 "CrateHelpers" "lastEnded" "LCrateHelpers$Tree;") (by decide +kernel)) (fun _ h9 => h9) dX6_walked_148 ?_
          refine lv_iload_n hx hb dX6_walked_151 rfl (lv_at hl 0 rfl) ?_
          refine lv_iload_n hx hb dX6_walked_152 rfl (lv_at hl 3 rfl) ?_
          refine lv_iconst (v := 1) hx hb dX6_walked_153 (by decide) ?_
          refine lv_isub hx hb dX6_walked_154 ?_
          obtain ⟨r41, hc42, h⟩ := Option.bind_eq_some_iff.mp h
          refine ecV (As := [.int (A (G 0 6 + 9) a1.toNatClampNeg), .int (a2 - 1)]) (rest := []) ⟨hx, hb, hml, hown, hts⟩ (e_X5_valueOf l D K ad hap0 (G 0 6) (A (G 0 6 + 9) a1.toNatClampNeg) (a2 - 1) I G A L r41 hc42) (cwV 2 hts gX6_walked_X5_valueOf rfl rfl rfl (by decide +kernel) ⟨Nat.le_of_ble_eq_true rfl, Nat.le_of_ble_eq_true rfl⟩) hK hP hS (s318 hk4.1) hk4.2 (by decide) rfl rfl rfl hl.1 (Nat.le_of_ble_eq_true rfl) (Nat.le_of_ble_eq_true rfl) (Nat.le_of_ble_eq_true rfl) dX6_walked_155 (fun H locs hP hS => ?_) rfl
          have hP : va_P D vwCl (VW K ad I G A L) H := hP
          refine lv_goto (tgt := 163) hx hb dX6_walked_158 (by decide) ?_
          exact W.iret (v := r41) hx hb hr (fun t9 ht9 hW9 => ⟨⟨r41, (I, G, A, L), rfl, by cases h; exact ⟨rfl, rfl⟩, by rw [ht9]; exact hP, va_K.moved hW9.alike hK⟩, hS.F ht9⟩) hS.2.2 dX6_walked_163
      · have h := iN (by rw [hs10]; decide) h
        have h := iN (by rw [hs10]; decide) h
        have h := iN (by rw [hs10]; decide) h
        have h := iN (by rw [hs10]; decide) h
        have h := iN (by rw [hs10]; decide) h
        have h := iN (by rw [hs10]; decide) h
        have h := iN (by rw [hs10]; decide) h
        have h := ip hs10 h
        refine W_top hs10 ?_
        refine lv_tableIn (off := 63) (tgt := 106) hx hb dX6_walked_43 (by decide) (by decide) (by decide) (by decide) ?_
        refine lv_aload_n hx hb dX6_walked_106 rfl (lv_at hl 1 rfl) ?_
        refine vgG hx hb hts hi6 hown hK hP (0) (by decide) (show kd 0 = 6 by decide) (C := RX6) (T := TX6) (N := 18) rfl 6 (by decide) (by decide) (by decide) (by decide) (hts (.fieldLink RX6 82 "CrateHelpers" "lastEnded" "LCrateHelpers$Tree;") (by decide +kernel)) (fun _ h9 => h9) dX6_walked_107 ?_
        refine lv_iload_n hx hb dX6_walked_110 rfl (lv_at hl 0 rfl) ?_
        obtain ⟨r43, hc44, h⟩ := Option.bind_eq_some_iff.mp h
        refine ecV (As := [.int (A (G 0 6 + 9) a1.toNatClampNeg)]) (rest := []) ⟨hx, hb, hml, hown, hts⟩ (e_X5_boundOf l D K ad hap0 (G 0 6) (A (G 0 6 + 9) a1.toNatClampNeg) I G A L r43 hc44) (cwV 1 hts gX6_walked_X5_boundOf rfl rfl rfl (by decide +kernel) ⟨Nat.le_of_ble_eq_true rfl, Nat.le_of_ble_eq_true rfl⟩) hK hP hS (s318 hk4.1) hk4.2 (by decide) rfl rfl rfl hl.1 (Nat.le_of_ble_eq_true rfl) (Nat.le_of_ble_eq_true rfl) (Nat.le_of_ble_eq_true rfl) dX6_walked_111 (fun H locs hP hS => ?_) rfl
        have hP : va_P D vwCl (VW K ad I G A L) H := hP
        exact W.iret (v := r43) hx hb hr (fun t9 ht9 hW9 => ⟨⟨r43, (I, G, A, L), rfl, by cases h; exact ⟨rfl, rfl⟩, by rw [ht9]; exact hP, va_K.moved hW9.alike hK⟩, hS.F ht9⟩) hS.2.2 dX6_walked_114
      · have h := iN (by rw [hs10]; decide) h
        have h := iN (by rw [hs10]; decide) h
        have h := iN (by rw [hs10]; decide) h
        have h := iN (by rw [hs10]; decide) h
        have h := iN (by rw [hs10]; decide) h
        have h := iN (by rw [hs10]; decide) h
        have h := iN (by rw [hs10]; decide) h
        have h := iN (by rw [hs10]; decide) h
        have h := ip hs10 h
        refine W_top hs10 ?_
        refine lv_tableIn (off := 72) (tgt := 115) hx hb dX6_walked_43 (by decide) (by decide) (by decide) (by decide) ?_
        refine lv_aload_n hx hb dX6_walked_115 rfl (lv_at hl 1 rfl) ?_
        refine vgG hx hb hts hi6 hown hK hP (0) (by decide) (show kd 0 = 6 by decide) (C := RX6) (T := TX6) (N := 18) rfl 6 (by decide) (by decide) (by decide) (by decide) (hts (.fieldLink RX6 82 "CrateHelpers" "lastEnded" "LCrateHelpers$Tree;") (by decide +kernel)) (fun _ h9 => h9) dX6_walked_116 ?_
        refine vgS hx hb hts hi5 hown hK hP (G 0 6) (s318 hk4.1) hk4.2 (C := RX5) (T := TX5) (N := 16) rfl 5 (by decide) (by decide) (by decide) (by decide) (G 0 6 + 6) rfl (hts (.fieldLink RX6 205 "CrateHelpers$Tree" "doneBy" "[B") (by decide +kernel)) (fun _ h9 => h9) dX6_walked_119 ?_
        refine lv_iload_n hx hb dX6_walked_122 rfl (lv_at hl 0 rfl) ?_
        obtain ⟨hk45, h⟩ := gk h
        obtain ⟨hn46, h⟩ := gk h
        refine xbald hx hb hK hP (G 0 6 + 6) (s318 hk45.1) hk45.2 hn46 dX6_walked_123 ?_
        exact W.iret (v := (A (G 0 6 + 6) ((A (G 0 6 + 9) a1.toNatClampNeg).toNatClampNeg))) hx hb hr (fun t9 ht9 hW9 => ⟨⟨(A (G 0 6 + 6) ((A (G 0 6 + 9) a1.toNatClampNeg).toNatClampNeg)), (I, G, A, L), rfl, by cases h; exact ⟨rfl, rfl⟩, by rw [ht9]; exact hP, va_K.moved hW9.alike hK⟩, hS.F ht9⟩) hS.2.2 dX6_walked_124
      · have h := iN (by rw [hs10]; decide) h
        have h := iN (by rw [hs10]; decide) h
        have h := iN (by rw [hs10]; decide) h
        have h := iN (by rw [hs10]; decide) h
        have h := iN (by rw [hs10]; decide) h
        have h := iN (by rw [hs10]; decide) h
        have h := iN (by rw [hs10]; decide) h
        have h := iN (by rw [hs10]; decide) h
        have h := iN (by rw [hs10]; decide) h
        have h := ip hs10 h
        refine W_top hs10 ?_
        refine lv_tableIn (off := 82) (tgt := 125) hx hb dX6_walked_43 (by decide) (by decide) (by decide) (by decide) ?_
        refine lv_aload_n hx hb dX6_walked_125 rfl (lv_at hl 1 rfl) ?_
        refine vgG hx hb hts hi6 hown hK hP (0) (by decide) (show kd 0 = 6 by decide) (C := RX6) (T := TX6) (N := 18) rfl 6 (by decide) (by decide) (by decide) (by decide) (hts (.fieldLink RX6 82 "CrateHelpers" "lastEnded" "LCrateHelpers$Tree;") (by decide +kernel)) (fun _ h9 => h9) dX6_walked_126 ?_
        refine lv_iload_n hx hb dX6_walked_129 rfl (lv_at hl 0 rfl) ?_
        obtain ⟨r47, hc48, h⟩ := Option.bind_eq_some_iff.mp h
        refine ecV (As := [.int (A (G 0 6 + 9) a1.toNatClampNeg)]) (rest := []) ⟨hx, hb, hml, hown, hts⟩ (e_X5_openBelow l D K ad hap0 (G 0 6) (A (G 0 6 + 9) a1.toNatClampNeg) I G A L r47 hc48) (cwV 1 hts gX6_walked_X5_openBelow rfl rfl rfl (by decide +kernel) ⟨Nat.le_of_ble_eq_true rfl, Nat.le_of_ble_eq_true rfl⟩) hK hP hS (s318 hk4.1) hk4.2 (by decide) rfl rfl rfl hl.1 (Nat.le_of_ble_eq_true rfl) (Nat.le_of_ble_eq_true rfl) (Nat.le_of_ble_eq_true rfl) dX6_walked_130 (fun H locs hP hS => ?_) rfl
        have hP : va_P D vwCl (VW K ad I G A L) H := hP
        exact W.iret (v := r47) hx hb hr (fun t9 ht9 hW9 => ⟨⟨r47, (I, G, A, L), rfl, by cases h; exact ⟨rfl, rfl⟩, by rw [ht9]; exact hP, va_K.moved hW9.alike hK⟩, hS.F ht9⟩) hS.2.2 dX6_walked_133
      · have h := iN (fun q => by rw [q] at hs10; exact absurd hs10 (by decide)) h
        have h := iN (fun q => by rw [q] at hs10; exact absurd hs10 (by decide)) h
        have h := iN (fun q => by rw [q] at hs10; exact absurd hs10 (by decide)) h
        have h := iN (fun q => by rw [q] at hs10; exact absurd hs10 (by decide)) h
        have h := iN (fun q => by rw [q] at hs10; exact absurd hs10 (by decide)) h
        have h := iN (fun q => by rw [q] at hs10; exact absurd hs10 (by decide)) h
        have h := iN (fun q => by rw [q] at hs10; exact absurd hs10 (by decide)) h
        have h := iN (fun q => by rw [q] at hs10; exact absurd hs10 (by decide)) h
        have h := iN (fun q => by rw [q] at hs10; exact absurd hs10 (by decide)) h
        have h := iN (fun q => by rw [q] at hs10; exact absurd hs10 (by decide)) h
        refine lv_tableOut (tgt := 134) hx hb dX6_walked_43 hs10 (by decide) ?_
        refine lv_iload_n hx hb dX6_walked_134 rfl (lv_at hl 3 rfl) ?_
        refine lv_aload_n hx hb dX6_walked_135 rfl (lv_at hl 1 rfl) ?_
        refine vgG hx hb hts hi6 hown hK hP (0) (by decide) (show kd 0 = 6 by decide) (C := RX6) (T := TX6) (N := 18) rfl 6 (by decide) (by decide) (by decide) (by decide) (hts (.fieldLink RX6 82 "CrateHelpers" "lastEnded" "LCrateHelpers$Tree;") (by decide +kernel)) (fun _ h9 => h9) dX6_walked_136 ?_
        refine vgS hx hb hts hi5 hown hK hP (G 0 6) (s318 hk4.1) hk4.2 (C := RX5) (T := TX5) (N := 16) rfl 1 (by decide) (by decide) (by decide) (by decide) (G 0 6 + 2) rfl (hts (.fieldLink RX6 198 "CrateHelpers$Tree" "depth" "[B") (by decide +kernel)) (fun _ h9 => h9) dX6_walked_139 ?_
        refine lv_iload_n hx hb dX6_walked_142 rfl (lv_at hl 0 rfl) ?_
        obtain ⟨hk49, h⟩ := gk h
        obtain ⟨hn50, h⟩ := gk h
        refine xbald hx hb hK hP (G 0 6 + 2) (s318 hk49.1) hk49.2 hn50 dX6_walked_143 ?_
        refine lv_icmp_gt (tgt := 161) hx hb dX6_walked_144 (by decide) (fun c_51 => ?_) (fun c_51 => ?_)
        · have h := ip c_51 h
          refine lv_bipush (v := (-9)) hx hb dX6_walked_161 (by decide) ?_
          exact W.iret (v := (-9)) hx hb hr (fun t9 ht9 hW9 => ⟨⟨(-9), (I, G, A, L), rfl, by cases h; exact ⟨rfl, rfl⟩, by rw [ht9]; exact hP, va_K.moved hW9.alike hK⟩, hS.F ht9⟩) hS.2.2 dX6_walked_163
        · have h := iN c_51 h
          refine lv_aload_n hx hb dX6_walked_147 rfl (lv_at hl 1 rfl) ?_
          refine vgG hx hb hts hi6 hown hK hP (0) (by decide) (show kd 0 = 6 by decide) (C := RX6) (T := TX6) (N := 18) rfl 6 (by decide) (by decide) (by decide) (by decide) (hts (.fieldLink RX6 82 "CrateHelpers" "lastEnded" "LCrateHelpers$Tree;") (by decide +kernel)) (fun _ h9 => h9) dX6_walked_148 ?_
          refine lv_iload_n hx hb dX6_walked_151 rfl (lv_at hl 0 rfl) ?_
          refine lv_iload_n hx hb dX6_walked_152 rfl (lv_at hl 3 rfl) ?_
          refine lv_iconst (v := 1) hx hb dX6_walked_153 (by decide) ?_
          refine lv_isub hx hb dX6_walked_154 ?_
          obtain ⟨r52, hc53, h⟩ := Option.bind_eq_some_iff.mp h
          refine ecV (As := [.int (A (G 0 6 + 9) a1.toNatClampNeg), .int (a2 - 1)]) (rest := []) ⟨hx, hb, hml, hown, hts⟩ (e_X5_valueOf l D K ad hap0 (G 0 6) (A (G 0 6 + 9) a1.toNatClampNeg) (a2 - 1) I G A L r52 hc53) (cwV 2 hts gX6_walked_X5_valueOf rfl rfl rfl (by decide +kernel) ⟨Nat.le_of_ble_eq_true rfl, Nat.le_of_ble_eq_true rfl⟩) hK hP hS (s318 hk4.1) hk4.2 (by decide) rfl rfl rfl hl.1 (Nat.le_of_ble_eq_true rfl) (Nat.le_of_ble_eq_true rfl) (Nat.le_of_ble_eq_true rfl) dX6_walked_155 (fun H locs hP hS => ?_) rfl
          have hP : va_P D vwCl (VW K ad I G A L) H := hP
          refine lv_goto (tgt := 163) hx hb dX6_walked_158 (by decide) ?_
          exact W.iret (v := r52) hx hb hr (fun t9 ht9 hW9 => ⟨⟨r52, (I, G, A, L), rfl, by cases h; exact ⟨rfl, rfl⟩, by rw [ht9]; exact hP, va_K.moved hW9.alike hK⟩, hS.F ht9⟩) hS.2.2 dX6_walked_163
    · have h := ip c_7 h
      refine lv_bipush (v := (-9)) hx hb dX6_walked_29 (by decide) ?_
      exact W.iret (v := (-9)) hx hb hr (fun t9 ht9 hW9 => ⟨⟨(-9), (I, G, A, L), rfl, by cases h; exact ⟨rfl, rfl⟩, by rw [ht9]; exact hP, va_K.moved hW9.alike hK⟩, hS.F ht9⟩) hS.2.2 dX6_walked_31
  · have h := ip c_3 h
    refine lv_iconst (v := (-1)) hx hb dX6_walked_10 (by decide) ?_
    exact W.iret (v := (-1)) hx hb hr (fun t9 ht9 hW9 => ⟨⟨(-1), (I, G, A, L), rfl, by cases h; exact ⟨rfl, rfl⟩, by rw [ht9]; exact hP, va_K.moved hW9.alike hK⟩, hS.F ht9⟩) hS.2.2 dX6_walked_11
set_option maxHeartbeats 4000000 in
set_option maxRecDepth 100000 in
theorem e_X6_with (l : Launch) (D : va_G) (K : Nat → ClassId) (ad : Nat → Nat) (hap0 : apart ad (fun _ => True)) (a1 : Int32) (I : Nat → Nat → Int32) (G : Nat → Nat → Nat) (A : Nat → Nat → Int32) (L : Nat → Nat → Int64) (r0 : Int32) (I0 : Nat → Nat → Int32) (A0 : Nat → Nat → Int32) (h : f_X6_with I A a1 = some (r0, I0, A0)) : Ci l D K ad yX6_with wsX6_with 2 49 [.ref (ad 0), .int a1] (I, G, A, L) (fun (r : Int32) (u : Mem) => r = r0 ∧ u = (I0, G, A0, L)) := by
  intro sz
  refine Met.ofW (cc := cX6_with) (maxL := 2) (ret := (some .int)) (by decide) rfl ?_
  intro p e s m args below meth c s₁ Bd hml hv0
  obtain ⟨rfl, hsz, hP, hK⟩ := hv0
  have hx := Bd.exec
  have hb := Bd.bytes
  have hr := Bd.returns
  have hts := atoms_spec (ws := wsX6_with) Bd.pre
  have hown : s.vm.findClass RX6 = some m.cls := findClass_of_methodNamed Bd.named
  have hlocks := Bd.notSynchronized
  have hi6 : ∀ w ∈ u_ws RX6 TX6 18, w ∈ wsX6_with := fun w h => List.mem_cons_of_mem _ (List.mem_append_left _ (List.mem_append_right _ h))
  have hi1 : ∀ w ∈ u_ws RX1 TX1 9, w ∈ wsX6_with := fun w h => List.mem_cons_of_mem _ (List.mem_append_right _ h)
  subst hsz
  have hap := vF_ap hap0 s.heap.size
  have hS : va_S (vF ad s.heap.size) s.heap s.heap [] := va_S.rf
  have hP : va_P D vwCl (VW K ad I G A L) s.heap := hP
  have hl := lv_entry ([.ref (ad 0), .int a1]) (n := 2) (Nat.le_of_ble_eq_true rfl)
  rw [lg_entry_eq]
  generalize (lg_sl ([.ref (ad 0), .int a1]) ++ List.replicate (2 - (lg_sl ([.ref (ad 0), .int a1])).length) Slot.unset).toArray = ls at hl ⊢
  have hl : lv_has ls 2 [(0, .ref (ad 0)), (1, .int a1)] := hl
  rw [f_X6_with] at h
  refine lv_aload_n hx hb dX6_with_0 rfl (lv_at hl 0 rfl) ?_
  refine vgI hx hb hts hi6 hown hK hP (0) (by decide) (show kd 0 = 6 by decide) (C := RX6) (T := TX6) (N := 18) rfl 7 (by decide) (by decide) (by decide) (by decide) (hts (.fieldLink RX6 32 "CrateHelpers" "asked" "I") (by decide +kernel)) (fun _ h9 => h9) dX6_with_1 ?_
  refine lv_bipush (v := (-9)) hx hb dX6_with_4 (by decide) ?_
  refine lv_icmp_eq (tgt := 29) hx hb dX6_with_6 (by decide) (fun c_1 => ?_) (fun c_1 => ?_)
  · have h := ip c_1 h
    refine lv_iconst (v := (-1)) hx hb dX6_with_29 (by decide) ?_
    exact W.iret (v := (-1)) hx hb hr (fun t9 ht9 hW9 => ⟨⟨(-1), (I, G, A, L), rfl, by cases h; exact ⟨rfl, rfl⟩, by rw [ht9]; exact hP, va_K.moved hW9.alike hK⟩, hS.F ht9⟩) hS.2.2 dX6_with_30
  · have h := iN c_1 h
    refine lv_aload_n hx hb dX6_with_9 rfl (lv_at hl 0 rfl) ?_
    refine vgC hx hb hts hi6 hown hK hP (0) (by decide) (show kd 0 = 6 by decide) (C := RX6) (T := TX6) (N := 18) rfl 0 (by decide) (by decide) (by decide) (by decide) (1) rfl (hts (.fieldLink RX6 11 "CrateHelpers" "problems" "[LCrateHelpers$Problem;") (by decide +kernel)) (fun _ h9 => h9) dX6_with_10 ?_
    refine lv_aload_n hx hb dX6_with_13 rfl (lv_at hl 0 rfl) ?_
    refine vgI hx hb hts hi6 hown hK hP (0) (by decide) (show kd 0 = 6 by decide) (C := RX6) (T := TX6) (N := 18) rfl 7 (by decide) (by decide) (by decide) (by decide) (hts (.fieldLink RX6 32 "CrateHelpers" "asked" "I") (by decide +kernel)) (fun _ h9 => h9) dX6_with_14 ?_
    obtain ⟨hn2, h⟩ := gk h
    refine xaald hx hb hK hP (1) (by decide) 5 13 (show kd 1 = 13 by decide) (by decide) rfl (by rw [show ln 1 = 5 by decide]; exact hn2) (58 + 52 * ((I 0 7).toNatClampNeg)) (drf13 ((show kd 1 = 13 by decide))) dX6_with_17 ?_
    refine lv_aload_n hx hb dX6_with_18 rfl (lv_at hl 0 rfl) ?_
    refine vgI hx hb hts hi6 hown hK hP (0) (by decide) (show kd 0 = 6 by decide) (C := RX6) (T := TX6) (N := 18) rfl 9 (by decide) (by decide) (by decide) (by decide) (hts (.fieldLink RX6 38 "CrateHelpers" "askedDepth" "I") (by decide +kernel)) (fun _ h9 => h9) dX6_with_19 ?_
    refine lv_iload_n hx hb dX6_with_22 rfl (lv_at hl 1 rfl) ?_
    obtain ⟨hk3, h⟩ := gk h
    obtain ⟨r4, hc5, h⟩ := Option.bind_eq_some_iff.mp h
    refine ecV (As := [.int (I 0 9), .int a1]) (rest := []) ⟨hx, hb, hml, hown, hts⟩ (e_X1_hasValue l D K ad hap0 (58 + 52 * ((I 0 7).toNatClampNeg)) (I 0 9) a1 I G A L r4 hc5) (cwV 2 hts gX6_with_X1_hasValue rfl rfl rfl (by decide +kernel) ⟨Nat.le_of_ble_eq_true rfl, Nat.le_of_ble_eq_true rfl⟩) hK hP hS (s318 hk3.1) hk3.2 (by decide) rfl rfl rfl hl.1 (Nat.le_of_ble_eq_true rfl) (Nat.le_of_ble_eq_true rfl) (Nat.le_of_ble_eq_true rfl) dX6_with_23 (fun H locs hP hS => ?_) rfl
    have hP : va_P D vwCl (VW K ad I G A L) H := hP
    refine lv_if_ne (tgt := 31) hx hb dX6_with_26 (by decide) (fun c_6 => ?_) (fun c_6 => ?_)
    · have h := iN c_6 h
      refine lv_aload_n hx hb dX6_with_31 rfl (lv_at hl 0 rfl) ?_
      refine vgC hx hb hts hi6 hown hK hP (0) (by decide) (show kd 0 = 6 by decide) (C := RX6) (T := TX6) (N := 18) rfl 10 (by decide) (by decide) (by decide) (by decide) (18) rfl (hts (.fieldLink RX6 41 "CrateHelpers" "askedValues" "[I") (by decide +kernel)) (fun _ h9 => h9) dX6_with_32 ?_
      refine lv_aload_n hx hb dX6_with_35 rfl (lv_at hl 0 rfl) ?_
      refine vgI hx hb hts hi6 hown hK hP (0) (by decide) (show kd 0 = 6 by decide) (C := RX6) (T := TX6) (N := 18) rfl 9 (by decide) (by decide) (by decide) (by decide) (hts (.fieldLink RX6 38 "CrateHelpers" "askedDepth" "I") (by decide +kernel)) (fun _ h9 => h9) dX6_with_36 ?_
      refine lv_iload_n hx hb dX6_with_39 rfl (lv_at hl 1 rfl) ?_
      obtain ⟨hn7, h⟩ := gk h
      refine xiast hx hb hK hP hap hS (18) (by decide) (show kd 18 = 8 by decide) (by rw [show ln 18 = 6 by decide]; exact hn7) dX6_with_40 (fun H locs hP hS => ?_)
      obtain ⟨A8, eA8, h⟩ := bd_e h
      rw [← eA8] at hP
      have hP : va_P D vwCl (VW K ad I G A8 L) H := hP
      refine lv_aload_n hx hb dX6_with_41 rfl (lv_at hl 0 rfl) ?_
      refine lv_dup hx hb dX6_with_42 rfl ?_
      refine vgI hx hb hts hi6 hown hK hP (0) (by decide) (show kd 0 = 6 by decide) (C := RX6) (T := TX6) (N := 18) rfl 9 (by decide) (by decide) (by decide) (by decide) (hts (.fieldLink RX6 38 "CrateHelpers" "askedDepth" "I") (by decide +kernel)) (fun _ h9 => h9) dX6_with_43 ?_
      refine lv_iconst (v := 1) hx hb dX6_with_46 (by decide) ?_
      refine lv_iadd hx hb dX6_with_47 ?_
      refine vpI (v := ((I 0 9) + 1)) (ty := .int) hx hb hts hi6 tyX6 tyX6_ok nmX6 hown hK hP hap hS (0) (by decide) (show kd 0 = 6 by decide) (C := RX6) (T := TX6) (N := 18) rfl 9 (by decide) (by decide) (by decide) (by decide) (hts (.fieldLink RX6 38 "CrateHelpers" "askedDepth" "I") (by decide +kernel)) (fun _ h9 => h9) rfl (by decide +kernel) rfl rfl dX6_with_48 (fun H locs hP hS => ?_)
      obtain ⟨I9, eI9, h⟩ := bd_e h
      rw [← eI9] at hP
      have hP : va_P D vwCl (VW K ad I9 G A8 L) H := hP
      refine lv_aload_n hx hb dX6_with_51 rfl (lv_at hl 0 rfl) ?_
      refine vgI hx hb hts hi6 hown hK hP (0) (by decide) (show kd 0 = 6 by decide) (C := RX6) (T := TX6) (N := 18) rfl 9 (by decide) (by decide) (by decide) (by decide) (hts (.fieldLink RX6 38 "CrateHelpers" "askedDepth" "I") (by decide +kernel)) (fun _ h9 => h9) dX6_with_52 ?_
      exact W.iret (v := (I9 0 9)) hx hb hr (fun t9 ht9 hW9 => ⟨⟨(I9 0 9), (I9, G, A8, L), rfl, by cases h; exact ⟨rfl, rfl⟩, by rw [ht9]; exact hP, va_K.moved hW9.alike hK⟩, hS.F ht9⟩) hS.2.2 dX6_with_55
    · have h := ip c_6 h
      refine lv_iconst (v := (-1)) hx hb dX6_with_29 (by decide) ?_
      exact W.iret (v := (-1)) hx hb hr (fun t9 ht9 hW9 => ⟨⟨(-1), (I, G, A, L), rfl, by cases h; exact ⟨rfl, rfl⟩, by rw [ht9]; exact hP, va_K.moved hW9.alike hK⟩, hS.F ht9⟩) hS.2.2 dX6_with_30
