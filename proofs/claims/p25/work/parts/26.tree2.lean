set_option maxHeartbeats 4000000 in
set_option maxRecDepth 100000 in
theorem c_X5_widthBelow (l : Launch) (D : va_G) (K : Nat → ClassId) (ad : Nat → Nat) (hap0 : apart ad (fun _ => True)) (T d : Nat) (hT : TrAt T) (hd : d < lT T) (B : Nat) (hB : PrAt B) (I : Nat → Nat → Int32) (G : Nat → Nat → Nat) (A : Nat → Nat → Int32) (L : Nat → Nat → Int64) (hTB : G T 14 = B) (hdp : ¬ A (T + 7) d = -1 → vp_in (A (T + 2) d) 6) : Ci l D K ad yX5_widthBelow wsX5_widthBelow 0 0 [.ref (ad T), .int (nI d)] (I, G, A, L) (fun (r : Int32) (u : Mem) => r = (if A (T + 7) d = -1 then 0 else A (B + 1) (A (T + 2) d).toNatClampNeg) ∧ u = (I, G, A, L)) := by
  intro sz
  refine Met.ofW (cc := cX5_widthBelow) (maxL := 2) (ret := (some .int)) (by decide) rfl ?_
  intro p e s m args below meth c s₁ Bd hml hv0
  obtain ⟨rfl, hsz, hP, hK⟩ := hv0
  have hx := Bd.exec
  have hb := Bd.bytes
  have hr := Bd.returns
  have hts := atoms_spec (ws := wsX5_widthBelow) Bd.pre
  have hown : s.vm.findClass RX5 = some m.cls := findClass_of_methodNamed Bd.named
  have hlocks := Bd.notSynchronized
  have hi5 : ∀ w ∈ u_ws RX5 TX5 16, w ∈ wsX5_widthBelow := fun w h => List.mem_cons_of_mem _ (List.mem_append_left _ (List.mem_append_right _ h))
  have hi1 : ∀ w ∈ u_ws RX1 TX1 9, w ∈ wsX5_widthBelow := fun w h => List.mem_cons_of_mem _ (List.mem_append_right _ h)
  subst hsz
  have hap := vF_ap hap0 s.heap.size
  have hS : va_S (vF ad s.heap.size) s.heap s.heap [] := va_S.rf
  have hP : va_P D vwCl (VW K ad I G A L) s.heap := hP
  have hl := lv_entry ([.ref (ad T), .int (nI d)]) (n := 2) (Nat.le_of_ble_eq_true rfl)
  rw [lg_entry_eq]
  generalize (lg_sl ([.ref (ad T), .int (nI d)]) ++ List.replicate (2 - (lg_sl ([.ref (ad T), .int (nI d)])).length) Slot.unset).toArray = ls at hl ⊢
  have hl : lv_has ls 2 [(0, .ref (ad T)), (1, .int (nI d))] := hl
  have hl1 := (tr_l hT).2.2.2.2.2.2.2.2.2.2
  have hi1d : vp_in (nI d) (ln (T + 1)) := by rw [(tr_l hT).1]; exact vp_in_nI hd (by omega)
  have hi2d : vp_in (nI d) (ln (T + 2)) := by rw [(tr_l hT).2.1]; exact vp_in_nI hd (by omega)
  have hi3d : vp_in (nI d) (ln (T + 3)) := by rw [(tr_l hT).2.2.1]; exact vp_in_nI hd (by omega)
  have hi4d : vp_in (nI d) (ln (T + 4)) := by rw [(tr_l hT).2.2.2.1]; exact vp_in_nI hd (by omega)
  have hi5d : vp_in (nI d) (ln (T + 5)) := by rw [(tr_l hT).2.2.2.2.1]; exact vp_in_nI hd (by omega)
  have hi6d : vp_in (nI d) (ln (T + 6)) := by rw [(tr_l hT).2.2.2.2.2.1]; exact vp_in_nI hd (by omega)
  have hi7d : vp_in (nI d) (ln (T + 7)) := by rw [(tr_l hT).2.2.2.2.2.2.1]; exact vp_in_nI hd (by omega)
  have hi8d : vp_in (nI d) (ln (T + 8)) := by rw [(tr_l hT).2.2.2.2.2.2.2.1]; exact vp_in_nI hd (by omega)
  refine lv_aload_n hx hb dX5_widthBelow_0 rfl (lv_at hl 0 rfl) ?_
  refine vgS hx hb hts hi5 hown hK hP (T) (by have := (tr_o hT).1; show _ < 378; omega) (tr_o hT).2.1 (C := RX5) (T := TX5) (N := 16) rfl 6 (by decide) (by decide) (by decide) (by decide) (T + 7) rfl (hts (.fieldLink RX5 69 "CrateHelpers$Tree" "firstBelow" "[S") (by decide +kernel)) (fun _ h9 => h9) dX5_widthBelow_1 ?_
  refine lv_iload_n hx hb dX5_widthBelow_4 rfl (lv_at hl 1 rfl) ?_
  refine xsald hx hb hK hP (T + 7) (by have := (tr_o hT).1; show _ < 378; omega) (tr_o hT).2.2.2.2.2.2.2.2.1 hi7d dX5_widthBelow_5 ?_
  rw [nI_clamp (n := d) (by omega)]
  refine lv_iconst (v := (-1)) hx hb dX5_widthBelow_6 (by decide) ?_
  refine lv_icmp_ne (tgt := 14) hx hb dX5_widthBelow_7 (by decide) (fun c_1 => ?_) (fun c_1 => ?_)
  · have hdq : vp_in (A (T + 2) d) (ln (B + 1)) := by rw [(pr_o hB).2.2.2.2.2.2.2.1]; exact hdp c_1
    refine lv_aload_n hx hb dX5_widthBelow_14 rfl (lv_at hl 0 rfl) ?_
    refine vgG hx hb hts hi5 hown hK hP (T) (by have := (tr_o hT).1; show _ < 378; omega) (tr_o hT).2.1 (C := RX5) (T := TX5) (N := 16) rfl 14 (by decide) (by decide) (by decide) (by decide) (hts (.fieldLink RX5 45 "CrateHelpers$Tree" "problem" "LCrateHelpers$Problem;") (by decide +kernel)) (fun _ h9 => h9) dX5_widthBelow_15 ?_
    rw [hTB]
    refine vgS hx hb hts hi1 hown hK hP (B) (by have := (pr_o hB).1; omega) (pr_o hB).2.1 (C := RX1) (T := TX1) (N := 9) rfl 4 (by decide) (by decide) (by decide) (by decide) (B + 1) rfl (hts (.fieldLink RX5 108 "CrateHelpers$Problem" "sizes" "[I") (by decide +kernel)) (fun _ h9 => h9) dX5_widthBelow_18 ?_
    refine lv_aload_n hx hb dX5_widthBelow_21 rfl (lv_at hl 0 rfl) ?_
    refine vgS hx hb hts hi5 hown hK hP (T) (by have := (tr_o hT).1; show _ < 378; omega) (tr_o hT).2.1 (C := RX5) (T := TX5) (N := 16) rfl 1 (by decide) (by decide) (by decide) (by decide) (T + 2) rfl (hts (.fieldLink RX5 53 "CrateHelpers$Tree" "depth" "[B") (by decide +kernel)) (fun _ h9 => h9) dX5_widthBelow_22 ?_
    refine lv_iload_n hx hb dX5_widthBelow_25 rfl (lv_at hl 1 rfl) ?_
    refine xbald hx hb hK hP (T + 2) (by have := (tr_o hT).1; show _ < 378; omega) (tr_o hT).2.2.2.1 hi2d dX5_widthBelow_26 ?_
    rw [nI_clamp (n := d) (by omega)]
    refine xiald hx hb hK hP (B + 1) (by have := (pr_o hB).1; omega) (pr_o hB).2.2.1 hdq dX5_widthBelow_27 ?_
    exact W.iret (v := (A (B + 1) ((A (T + 2) d).toNatClampNeg))) hx hb hr (fun t ht hW => ⟨⟨(A (B + 1) ((A (T + 2) d).toNatClampNeg)), (I, G, A, L), rfl, ⟨by first | (simp [c_1]; done), rfl⟩, by rw [ht]; exact hP, va_K.moved hW.alike hK⟩, hS.F ht⟩) hS.2.2 dX5_widthBelow_28
  · refine lv_iconst (v := 0) hx hb dX5_widthBelow_10 (by decide) ?_
    refine lv_goto (tgt := 28) hx hb dX5_widthBelow_11 (by decide) ?_
    exact W.iret (v := 0) hx hb hr (fun t ht hW => ⟨⟨0, (I, G, A, L), rfl, ⟨by first | (simp [c_1]; done), rfl⟩, by rw [ht]; exact hP, va_K.moved hW.alike hK⟩, hS.F ht⟩) hS.2.2 dX5_widthBelow_28

set_option maxHeartbeats 4000000 in
set_option maxRecDepth 100000 in
theorem c_X5_below (l : Launch) (D : va_G) (K : Nat → ClassId) (ad : Nat → Nat) (hap0 : apart ad (fun _ => True)) (T d : Nat) (hT : TrAt T) (hd : d < lT T) (B : Nat) (w : Int32) (hB : PrAt B) (I : Nat → Nat → Int32) (G : Nat → Nat → Nat) (A : Nat → Nat → Int32) (L : Nat → Nat → Int64) (hTB : G T 14 = B) (hdp : ¬ A (T + 7) d = -1 → vp_in (A (T + 2) d) 6) : Ci l D K ad yX5_below wsX5_below 1 40 [.ref (ad T), .int (nI d), .int w] (I, G, A, L) (fun (r : Int32) (u : Mem) => r = (if ¬ w < 0 ∧ w < (if A (T + 7) d = -1 then 0 else A (B + 1) (A (T + 2) d).toNatClampNeg) then A (T + 7) d + w else -1) ∧ u = (I, G, A, L)) := by
  intro sz
  refine Met.ofW (cc := cX5_below) (maxL := 3) (ret := (some .int)) (by decide) rfl ?_
  intro p e s m args below meth c s₁ Bd hml hv0
  obtain ⟨rfl, hsz, hP, hK⟩ := hv0
  have hx := Bd.exec
  have hb := Bd.bytes
  have hr := Bd.returns
  have hts := atoms_spec (ws := wsX5_below) Bd.pre
  have hown : s.vm.findClass RX5 = some m.cls := findClass_of_methodNamed Bd.named
  have hlocks := Bd.notSynchronized
  have hi5 : ∀ w ∈ u_ws RX5 TX5 16, w ∈ wsX5_below := fun w h => List.mem_cons_of_mem _ (List.mem_append_left _ (List.mem_append_right _ h))
  have hi1 : ∀ w ∈ u_ws RX1 TX1 9, w ∈ wsX5_below := fun w h => List.mem_cons_of_mem _ (List.mem_append_right _ h)
  subst hsz
  have hap := vF_ap hap0 s.heap.size
  have hS : va_S (vF ad s.heap.size) s.heap s.heap [] := va_S.rf
  have hP : va_P D vwCl (VW K ad I G A L) s.heap := hP
  have hl := lv_entry ([.ref (ad T), .int (nI d), .int w]) (n := 3) (Nat.le_of_ble_eq_true rfl)
  rw [lg_entry_eq]
  generalize (lg_sl ([.ref (ad T), .int (nI d), .int w]) ++ List.replicate (3 - (lg_sl ([.ref (ad T), .int (nI d), .int w])).length) Slot.unset).toArray = ls at hl ⊢
  have hl : lv_has ls 3 [(0, .ref (ad T)), (1, .int (nI d)), (2, .int w)] := hl
  have hl1 := (tr_l hT).2.2.2.2.2.2.2.2.2.2
  have hi1d : vp_in (nI d) (ln (T + 1)) := by rw [(tr_l hT).1]; exact vp_in_nI hd (by omega)
  have hi2d : vp_in (nI d) (ln (T + 2)) := by rw [(tr_l hT).2.1]; exact vp_in_nI hd (by omega)
  have hi3d : vp_in (nI d) (ln (T + 3)) := by rw [(tr_l hT).2.2.1]; exact vp_in_nI hd (by omega)
  have hi4d : vp_in (nI d) (ln (T + 4)) := by rw [(tr_l hT).2.2.2.1]; exact vp_in_nI hd (by omega)
  have hi5d : vp_in (nI d) (ln (T + 5)) := by rw [(tr_l hT).2.2.2.2.1]; exact vp_in_nI hd (by omega)
  have hi6d : vp_in (nI d) (ln (T + 6)) := by rw [(tr_l hT).2.2.2.2.2.1]; exact vp_in_nI hd (by omega)
  have hi7d : vp_in (nI d) (ln (T + 7)) := by rw [(tr_l hT).2.2.2.2.2.2.1]; exact vp_in_nI hd (by omega)
  have hi8d : vp_in (nI d) (ln (T + 8)) := by rw [(tr_l hT).2.2.2.2.2.2.2.1]; exact vp_in_nI hd (by omega)
  refine lv_iload_n hx hb dX5_below_0 rfl (lv_at hl 2 rfl) ?_
  refine lv_if_lt (tgt := 24) hx hb dX5_below_1 (by decide) (fun c_1 => ?_) (fun c_1 => ?_)
  · refine lv_iconst (v := (-1)) hx hb dX5_below_24 (by decide) ?_
    exact W.iret (v := (-1)) hx hb hr (fun t ht hW => ⟨⟨(-1), (I, G, A, L), rfl, ⟨(if_neg (fun h => h.1 c_1)).symm, rfl⟩, by rw [ht]; exact hP, va_K.moved hW.alike hK⟩, hS.F ht⟩) hS.2.2 dX5_below_25
  · refine lv_iload_n hx hb dX5_below_4 rfl (lv_at hl 2 rfl) ?_
    refine lv_aload_n hx hb dX5_below_5 rfl (lv_at hl 0 rfl) ?_
    refine lv_iload_n hx hb dX5_below_6 rfl (lv_at hl 1 rfl) ?_
    refine vcV (As := [.int (nI d)]) (rest := [.int w]) ⟨hx, hb, hml, hown, hts⟩ (c_X5_widthBelow l D K ad hap0 T d hT hd B hB I G A L hTB hdp) (cwV 1 hts gX5_below_X5_widthBelow rfl rfl rfl (by decide +kernel) ⟨Nat.le_of_ble_eq_true rfl, Nat.le_of_ble_eq_true rfl⟩) hK hP hS (by have := (tr_o hT).1; show _ < 378; omega) (tr_o hT).2.1 (by decide) rfl rfl rfl hl.1 (Nat.le_of_ble_eq_true rfl) (Nat.le_of_ble_eq_true rfl) (Nat.le_of_ble_eq_true rfl) dX5_below_7 (fun r2 u3 H locs hw hP hS => ?_) rfl
    obtain ⟨hr2, rfl⟩ := hw
    have hP : va_P D vwCl (VW K ad I G A L) H := hP
    subst hr2
    refine lv_icmp_ge (tgt := 24) hx hb dX5_below_10 (by decide) (fun c_4 => ?_) (fun c_4 => ?_)
    · refine lv_iconst (v := (-1)) hx hb dX5_below_24 (by decide) ?_
      exact W.iret (v := (-1)) hx hb hr (fun t ht hW => ⟨⟨(-1), (I, G, A, L), rfl, ⟨(if_neg (fun h => absurd h.2 (Int32.not_lt.mpr c_4))).symm, rfl⟩, by rw [ht]; exact hP, va_K.moved hW.alike hK⟩, hS.F ht⟩) hS.2.2 dX5_below_25
    · refine lv_aload_n hx hb dX5_below_13 rfl (lv_at hl 0 rfl) ?_
      refine vgS hx hb hts hi5 hown hK hP (T) (by have := (tr_o hT).1; show _ < 378; omega) (tr_o hT).2.1 (C := RX5) (T := TX5) (N := 16) rfl 6 (by decide) (by decide) (by decide) (by decide) (T + 7) rfl (hts (.fieldLink RX5 69 "CrateHelpers$Tree" "firstBelow" "[S") (by decide +kernel)) (fun _ h9 => h9) dX5_below_14 ?_
      refine lv_iload_n hx hb dX5_below_17 rfl (lv_at hl 1 rfl) ?_
      refine xsald hx hb hK hP (T + 7) (by have := (tr_o hT).1; show _ < 378; omega) (tr_o hT).2.2.2.2.2.2.2.2.1 hi7d dX5_below_18 ?_
      rw [nI_clamp (n := d) (by omega)]
      refine lv_iload_n hx hb dX5_below_19 rfl (lv_at hl 2 rfl) ?_
      refine lv_iadd hx hb dX5_below_20 ?_
      refine lv_goto (tgt := 25) hx hb dX5_below_21 (by decide) ?_
      exact W.iret (v := ((A (T + 7) d) + w)) hx hb hr (fun t ht hW => ⟨⟨((A (T + 7) d) + w), (I, G, A, L), rfl, ⟨(if_pos ⟨c_1, Int32.not_le.mp c_4⟩).symm, rfl⟩, by rw [ht]; exact hP, va_K.moved hW.alike hK⟩, hS.F ht⟩) hS.2.2 dX5_below_25

set_option maxHeartbeats 4000000 in
set_option maxRecDepth 100000 in
theorem c_X5_addJudged (l : Launch) (D : va_G) (K : Nat → ClassId) (ad : Nat → Nat) (hap0 : apart ad (fun _ => True)) (T n : Nat) (x : Int32) (w : Int64) (hT : TrAt T) (hn : n < lT T) (I : Nat → Nat → Int32) (G : Nat → Nat → Nat) (A : Nat → Nat → Int32) (L : Nat → Nat → Int64) (hkn : I T 9 = nI n) : Cv l D K ad yX5_addJudged wsX5_addJudged 0 0 [.ref (ad T), .int x, .long w] (I, G, A, L) (fun (u : Mem) => u = (up2 I T 9 (nI n + 1), G, up2 (up2 (up2 (up2 (up2 (up2 (up2 A (T + 2) n (vp_nar .byte x.toInt8.toInt32)) (T + 3) n (vp_nar .byte (I (T + 11) 0).toInt8.toInt32)) (T + 4) n (vp_nar .byte (I (T + 11) 1).toInt8.toInt32)) (T + 5) n (vp_nar .byte 0)) (T + 6) n (vp_nar .byte (-9))) (T + 7) n (vp_nar .short (-1))) (T + 8) n (vp_nar .boolean 0), up2 L (T + 1) n (plc (I (T + 11) 2) w))) := by
  intro sz
  refine Met.ofW (cc := cX5_addJudged) (maxL := 4) (ret := none) (by decide) rfl ?_
  intro p e s m args below meth c s₁ Bd hml hv0
  obtain ⟨rfl, hsz, hP, hK⟩ := hv0
  have hx := Bd.exec
  have hb := Bd.bytes
  have hr := Bd.returns
  have hts := atoms_spec (ws := wsX5_addJudged) Bd.pre
  have hown : s.vm.findClass RX5 = some m.cls := findClass_of_methodNamed Bd.named
  have hlocks := Bd.notSynchronized
  have hi5 : ∀ w ∈ u_ws RX5 TX5 16, w ∈ wsX5_addJudged := fun w h => List.mem_cons_of_mem _ (List.mem_append_left _ (List.mem_append_right _ h))
  have hi0 : ∀ w ∈ u_ws RX0 TX0 3, w ∈ wsX5_addJudged := fun w h => List.mem_cons_of_mem _ (List.mem_append_right _ h)
  subst hsz
  have hap := vF_ap hap0 s.heap.size
  have hS : va_S (vF ad s.heap.size) s.heap s.heap [] := va_S.rf
  have hP : va_P D vwCl (VW K ad I G A L) s.heap := hP
  have hl := lv_entry ([.ref (ad T), .int x, .long w]) (n := 4) (Nat.le_of_ble_eq_true rfl)
  rw [lg_entry_eq]
  generalize (lg_sl ([.ref (ad T), .int x, .long w]) ++ List.replicate (4 - (lg_sl ([.ref (ad T), .int x, .long w])).length) Slot.unset).toArray = ls at hl ⊢
  have hl : lv_has ls 4 [(0, .ref (ad T)), (1, .int x), (2, .long w)] := hl
  have hl1 := (tr_l hT).2.2.2.2.2.2.2.2.2.2
  have hi1n : vp_in (nI n) (ln (T + 1)) := by rw [(tr_l hT).1]; exact vp_in_nI hn (by omega)
  have hi2n : vp_in (nI n) (ln (T + 2)) := by rw [(tr_l hT).2.1]; exact vp_in_nI hn (by omega)
  have hi3n : vp_in (nI n) (ln (T + 3)) := by rw [(tr_l hT).2.2.1]; exact vp_in_nI hn (by omega)
  have hi4n : vp_in (nI n) (ln (T + 4)) := by rw [(tr_l hT).2.2.2.1]; exact vp_in_nI hn (by omega)
  have hi5n : vp_in (nI n) (ln (T + 5)) := by rw [(tr_l hT).2.2.2.2.1]; exact vp_in_nI hn (by omega)
  have hi6n : vp_in (nI n) (ln (T + 6)) := by rw [(tr_l hT).2.2.2.2.2.1]; exact vp_in_nI hn (by omega)
  have hi7n : vp_in (nI n) (ln (T + 7)) := by rw [(tr_l hT).2.2.2.2.2.2.1]; exact vp_in_nI hn (by omega)
  have hi8n : vp_in (nI n) (ln (T + 8)) := by rw [(tr_l hT).2.2.2.2.2.2.2.1]; exact vp_in_nI hn (by omega)
  refine lv_aload_n hx hb dX5_addJudged_0 rfl (lv_at hl 0 rfl) ?_
  refine vgS hx hb hts hi5 hown hK hP (T) (by have := (tr_o hT).1; show _ < 378; omega) (tr_o hT).2.1 (C := RX5) (T := TX5) (N := 16) rfl 0 (by decide) (by decide) (by decide) (by decide) (T + 1) rfl (hts (.fieldLink RX5 49 "CrateHelpers$Tree" "place" "[J") (by decide +kernel)) (fun _ h9 => h9) dX5_addJudged_1 ?_
  refine lv_aload_n hx hb dX5_addJudged_4 rfl (lv_at hl 0 rfl) ?_
  refine vgI hx hb hts hi5 hown hK hP (T) (by have := (tr_o hT).1; show _ < 378; omega) (tr_o hT).2.1 (C := RX5) (T := TX5) (N := 16) rfl 9 (by decide) (by decide) (by decide) (by decide) (hts (.fieldLink RX5 15 "CrateHelpers$Tree" "known" "I") (by decide +kernel)) (fun _ h9 => h9) dX5_addJudged_5 ?_
  rw [hkn]
  refine lv_aload_n hx hb dX5_addJudged_8 rfl (lv_at hl 0 rfl) ?_
  refine vgS hx hb hts hi5 hown hK hP (T) (by have := (tr_o hT).1; show _ < 378; omega) (tr_o hT).2.1 (C := RX5) (T := TX5) (N := 16) rfl 13 (by decide) (by decide) (by decide) (by decide) (T + 11) rfl (hts (.fieldLink RX5 31 "CrateHelpers$Tree" "judge" "LCrateHelpers$Judge;") (by decide +kernel)) (fun _ h9 => h9) dX5_addJudged_9 ?_
  refine vgI hx hb hts hi0 hown hK hP (T + 11) (by have := (tr_o hT).1; show _ < 378; omega) (tr_o hT).2.2.2.2.2.2.2.2.2.2.2.2 (C := RX0) (T := TX0) (N := 3) rfl 2 (by decide) (by decide) (by decide) (by decide) (hts (.fieldLink RX5 91 "CrateHelpers$Judge" "bound" "I") (by decide +kernel)) (fun _ h9 => h9) dX5_addJudged_12 ?_
  refine lv_i2l hx hb dX5_addJudged_15 rfl ?_
  refine lv_bipush (v := 18) hx hb dX5_addJudged_16 (by decide) ?_
  refine lv_lshl hx hb dX5_addJudged_18 rfl ?_
  refine lv_lload_n hx hb dX5_addJudged_19 rfl (lv_at hl 2 rfl) ?_
  refine lv_lor hx hb dX5_addJudged_20 ?_
  refine xlast hx hb hK hP hap hS (T + 1) (by have := (tr_o hT).1; show _ < 378; omega) (tr_o hT).2.2.1 hi1n dX5_addJudged_21 (fun H locs hP hS => ?_)
  rw [nI_clamp (n := n) (by omega)] at hP
  obtain ⟨L1, eL1⟩ : ∃ z, z = up2 L (T + 1) n (((((I (T + 11) 2).toInt64) <<< ((18 : Int32).toInt64 &&& 63)) ||| w)) := ⟨_, rfl⟩
  rw [← eL1] at hP
  have hP : va_P D vwCl (VW K ad I G A L1) H := hP
  refine lv_aload_n hx hb dX5_addJudged_22 rfl (lv_at hl 0 rfl) ?_
  refine vgS hx hb hts hi5 hown hK hP (T) (by have := (tr_o hT).1; show _ < 378; omega) (tr_o hT).2.1 (C := RX5) (T := TX5) (N := 16) rfl 1 (by decide) (by decide) (by decide) (by decide) (T + 2) rfl (hts (.fieldLink RX5 53 "CrateHelpers$Tree" "depth" "[B") (by decide +kernel)) (fun _ h9 => h9) dX5_addJudged_23 ?_
  refine lv_aload_n hx hb dX5_addJudged_26 rfl (lv_at hl 0 rfl) ?_
  refine vgI hx hb hts hi5 hown hK hP (T) (by have := (tr_o hT).1; show _ < 378; omega) (tr_o hT).2.1 (C := RX5) (T := TX5) (N := 16) rfl 9 (by decide) (by decide) (by decide) (by decide) (hts (.fieldLink RX5 15 "CrateHelpers$Tree" "known" "I") (by decide +kernel)) (fun _ h9 => h9) dX5_addJudged_27 ?_
  rw [hkn]
  refine lv_iload_n hx hb dX5_addJudged_30 rfl (lv_at hl 1 rfl) ?_
  refine lv_i2b hx hb dX5_addJudged_31 rfl ?_
  refine xbast hx hb hK hP hap hS (T + 2) (by have := (tr_o hT).1; show _ < 378; omega) (tr_o hT).2.2.2.1 hi2n dX5_addJudged_32 (fun H locs hP hS => ?_)
  rw [nI_clamp (n := n) (by omega)] at hP
  obtain ⟨A2, eA2⟩ : ∃ z, z = up2 A (T + 2) n (vp_nar .byte x.toInt8.toInt32) := ⟨_, rfl⟩
  rw [← eA2] at hP
  have hP : va_P D vwCl (VW K ad I G A2 L1) H := hP
  refine lv_aload_n hx hb dX5_addJudged_33 rfl (lv_at hl 0 rfl) ?_
  refine vgS hx hb hts hi5 hown hK hP (T) (by have := (tr_o hT).1; show _ < 378; omega) (tr_o hT).2.1 (C := RX5) (T := TX5) (N := 16) rfl 2 (by decide) (by decide) (by decide) (by decide) (T + 3) rfl (hts (.fieldLink RX5 57 "CrateHelpers$Tree" "what" "[B") (by decide +kernel)) (fun _ h9 => h9) dX5_addJudged_34 ?_
  refine lv_aload_n hx hb dX5_addJudged_37 rfl (lv_at hl 0 rfl) ?_
  refine vgI hx hb hts hi5 hown hK hP (T) (by have := (tr_o hT).1; show _ < 378; omega) (tr_o hT).2.1 (C := RX5) (T := TX5) (N := 16) rfl 9 (by decide) (by decide) (by decide) (by decide) (hts (.fieldLink RX5 15 "CrateHelpers$Tree" "known" "I") (by decide +kernel)) (fun _ h9 => h9) dX5_addJudged_38 ?_
  rw [hkn]
  refine lv_aload_n hx hb dX5_addJudged_41 rfl (lv_at hl 0 rfl) ?_
  refine vgS hx hb hts hi5 hown hK hP (T) (by have := (tr_o hT).1; show _ < 378; omega) (tr_o hT).2.1 (C := RX5) (T := TX5) (N := 16) rfl 13 (by decide) (by decide) (by decide) (by decide) (T + 11) rfl (hts (.fieldLink RX5 31 "CrateHelpers$Tree" "judge" "LCrateHelpers$Judge;") (by decide +kernel)) (fun _ h9 => h9) dX5_addJudged_42 ?_
  refine vgI hx hb hts hi0 hown hK hP (T + 11) (by have := (tr_o hT).1; show _ < 378; omega) (tr_o hT).2.2.2.2.2.2.2.2.2.2.2.2 (C := RX0) (T := TX0) (N := 3) rfl 0 (by decide) (by decide) (by decide) (by decide) (hts (.fieldLink RX5 94 "CrateHelpers$Judge" "what" "I") (by decide +kernel)) (fun _ h9 => h9) dX5_addJudged_45 ?_
  refine lv_i2b hx hb dX5_addJudged_48 rfl ?_
  refine xbast hx hb hK hP hap hS (T + 3) (by have := (tr_o hT).1; show _ < 378; omega) (tr_o hT).2.2.2.2.1 hi3n dX5_addJudged_49 (fun H locs hP hS => ?_)
  rw [nI_clamp (n := n) (by omega)] at hP
  obtain ⟨A3, eA3⟩ : ∃ z, z = up2 A2 (T + 3) n (vp_nar .byte ((I (T + 11) 0).toInt8.toInt32)) := ⟨_, rfl⟩
  rw [← eA3] at hP
  have hP : va_P D vwCl (VW K ad I G A3 L1) H := hP
  refine lv_aload_n hx hb dX5_addJudged_50 rfl (lv_at hl 0 rfl) ?_
  refine vgS hx hb hts hi5 hown hK hP (T) (by have := (tr_o hT).1; show _ < 378; omega) (tr_o hT).2.1 (C := RX5) (T := TX5) (N := 16) rfl 3 (by decide) (by decide) (by decide) (by decide) (T + 4) rfl (hts (.fieldLink RX5 60 "CrateHelpers$Tree" "why" "[B") (by decide +kernel)) (fun _ h9 => h9) dX5_addJudged_51 ?_
  refine lv_aload_n hx hb dX5_addJudged_54 rfl (lv_at hl 0 rfl) ?_
  refine vgI hx hb hts hi5 hown hK hP (T) (by have := (tr_o hT).1; show _ < 378; omega) (tr_o hT).2.1 (C := RX5) (T := TX5) (N := 16) rfl 9 (by decide) (by decide) (by decide) (by decide) (hts (.fieldLink RX5 15 "CrateHelpers$Tree" "known" "I") (by decide +kernel)) (fun _ h9 => h9) dX5_addJudged_55 ?_
  rw [hkn]
  refine lv_aload_n hx hb dX5_addJudged_58 rfl (lv_at hl 0 rfl) ?_
  refine vgS hx hb hts hi5 hown hK hP (T) (by have := (tr_o hT).1; show _ < 378; omega) (tr_o hT).2.1 (C := RX5) (T := TX5) (N := 16) rfl 13 (by decide) (by decide) (by decide) (by decide) (T + 11) rfl (hts (.fieldLink RX5 31 "CrateHelpers$Tree" "judge" "LCrateHelpers$Judge;") (by decide +kernel)) (fun _ h9 => h9) dX5_addJudged_59 ?_
  refine vgI hx hb hts hi0 hown hK hP (T + 11) (by have := (tr_o hT).1; show _ < 378; omega) (tr_o hT).2.2.2.2.2.2.2.2.2.2.2.2 (C := RX0) (T := TX0) (N := 3) rfl 1 (by decide) (by decide) (by decide) (by decide) (hts (.fieldLink RX5 96 "CrateHelpers$Judge" "why" "I") (by decide +kernel)) (fun _ h9 => h9) dX5_addJudged_62 ?_
  refine lv_i2b hx hb dX5_addJudged_65 rfl ?_
  refine xbast hx hb hK hP hap hS (T + 4) (by have := (tr_o hT).1; show _ < 378; omega) (tr_o hT).2.2.2.2.2.1 hi4n dX5_addJudged_66 (fun H locs hP hS => ?_)
  rw [nI_clamp (n := n) (by omega)] at hP
  obtain ⟨A4, eA4⟩ : ∃ z, z = up2 A3 (T + 4) n (vp_nar .byte ((I (T + 11) 1).toInt8.toInt32)) := ⟨_, rfl⟩
  rw [← eA4] at hP
  have hP : va_P D vwCl (VW K ad I G A4 L1) H := hP
  refine lv_aload_n hx hb dX5_addJudged_67 rfl (lv_at hl 0 rfl) ?_
  refine vgS hx hb hts hi5 hown hK hP (T) (by have := (tr_o hT).1; show _ < 378; omega) (tr_o hT).2.1 (C := RX5) (T := TX5) (N := 16) rfl 4 (by decide) (by decide) (by decide) (by decide) (T + 5) rfl (hts (.fieldLink RX5 63 "CrateHelpers$Tree" "stage" "[B") (by decide +kernel)) (fun _ h9 => h9) dX5_addJudged_68 ?_
  refine lv_aload_n hx hb dX5_addJudged_71 rfl (lv_at hl 0 rfl) ?_
  refine vgI hx hb hts hi5 hown hK hP (T) (by have := (tr_o hT).1; show _ < 378; omega) (tr_o hT).2.1 (C := RX5) (T := TX5) (N := 16) rfl 9 (by decide) (by decide) (by decide) (by decide) (hts (.fieldLink RX5 15 "CrateHelpers$Tree" "known" "I") (by decide +kernel)) (fun _ h9 => h9) dX5_addJudged_72 ?_
  rw [hkn]
  refine lv_iconst (v := 0) hx hb dX5_addJudged_75 (by decide) ?_
  refine xbast hx hb hK hP hap hS (T + 5) (by have := (tr_o hT).1; show _ < 378; omega) (tr_o hT).2.2.2.2.2.2.1 hi5n dX5_addJudged_76 (fun H locs hP hS => ?_)
  rw [nI_clamp (n := n) (by omega)] at hP
  obtain ⟨A5, eA5⟩ : ∃ z, z = up2 A4 (T + 5) n (vp_nar .byte 0) := ⟨_, rfl⟩
  rw [← eA5] at hP
  have hP : va_P D vwCl (VW K ad I G A5 L1) H := hP
  refine lv_aload_n hx hb dX5_addJudged_77 rfl (lv_at hl 0 rfl) ?_
  refine vgS hx hb hts hi5 hown hK hP (T) (by have := (tr_o hT).1; show _ < 378; omega) (tr_o hT).2.1 (C := RX5) (T := TX5) (N := 16) rfl 5 (by decide) (by decide) (by decide) (by decide) (T + 6) rfl (hts (.fieldLink RX5 66 "CrateHelpers$Tree" "doneBy" "[B") (by decide +kernel)) (fun _ h9 => h9) dX5_addJudged_78 ?_
  refine lv_aload_n hx hb dX5_addJudged_81 rfl (lv_at hl 0 rfl) ?_
  refine vgI hx hb hts hi5 hown hK hP (T) (by have := (tr_o hT).1; show _ < 378; omega) (tr_o hT).2.1 (C := RX5) (T := TX5) (N := 16) rfl 9 (by decide) (by decide) (by decide) (by decide) (hts (.fieldLink RX5 15 "CrateHelpers$Tree" "known" "I") (by decide +kernel)) (fun _ h9 => h9) dX5_addJudged_82 ?_
  rw [hkn]
  refine lv_bipush (v := (-9)) hx hb dX5_addJudged_85 (by decide) ?_
  refine xbast hx hb hK hP hap hS (T + 6) (by have := (tr_o hT).1; show _ < 378; omega) (tr_o hT).2.2.2.2.2.2.2.1 hi6n dX5_addJudged_87 (fun H locs hP hS => ?_)
  rw [nI_clamp (n := n) (by omega)] at hP
  obtain ⟨A6, eA6⟩ : ∃ z, z = up2 A5 (T + 6) n (vp_nar .byte (-9)) := ⟨_, rfl⟩
  rw [← eA6] at hP
  have hP : va_P D vwCl (VW K ad I G A6 L1) H := hP
  refine lv_aload_n hx hb dX5_addJudged_88 rfl (lv_at hl 0 rfl) ?_
  refine vgS hx hb hts hi5 hown hK hP (T) (by have := (tr_o hT).1; show _ < 378; omega) (tr_o hT).2.1 (C := RX5) (T := TX5) (N := 16) rfl 6 (by decide) (by decide) (by decide) (by decide) (T + 7) rfl (hts (.fieldLink RX5 69 "CrateHelpers$Tree" "firstBelow" "[S") (by decide +kernel)) (fun _ h9 => h9) dX5_addJudged_89 ?_
  refine lv_aload_n hx hb dX5_addJudged_92 rfl (lv_at hl 0 rfl) ?_
  refine vgI hx hb hts hi5 hown hK hP (T) (by have := (tr_o hT).1; show _ < 378; omega) (tr_o hT).2.1 (C := RX5) (T := TX5) (N := 16) rfl 9 (by decide) (by decide) (by decide) (by decide) (hts (.fieldLink RX5 15 "CrateHelpers$Tree" "known" "I") (by decide +kernel)) (fun _ h9 => h9) dX5_addJudged_93 ?_
  rw [hkn]
  refine lv_iconst (v := (-1)) hx hb dX5_addJudged_96 (by decide) ?_
  refine xsast hx hb hK hP hap hS (T + 7) (by have := (tr_o hT).1; show _ < 378; omega) (tr_o hT).2.2.2.2.2.2.2.2.1 hi7n dX5_addJudged_97 (fun H locs hP hS => ?_)
  rw [nI_clamp (n := n) (by omega)] at hP
  obtain ⟨A7, eA7⟩ : ∃ z, z = up2 A6 (T + 7) n (vp_nar .short (-1)) := ⟨_, rfl⟩
  rw [← eA7] at hP
  have hP : va_P D vwCl (VW K ad I G A7 L1) H := hP
  refine lv_aload_n hx hb dX5_addJudged_98 rfl (lv_at hl 0 rfl) ?_
  refine vgS hx hb hts hi5 hown hK hP (T) (by have := (tr_o hT).1; show _ < 378; omega) (tr_o hT).2.1 (C := RX5) (T := TX5) (N := 16) rfl 7 (by decide) (by decide) (by decide) (by decide) (T + 8) rfl (hts (.fieldLink RX5 73 "CrateHelpers$Tree" "isReached" "[Z") (by decide +kernel)) (fun _ h9 => h9) dX5_addJudged_99 ?_
  refine lv_aload_n hx hb dX5_addJudged_102 rfl (lv_at hl 0 rfl) ?_
  refine vgI hx hb hts hi5 hown hK hP (T) (by have := (tr_o hT).1; show _ < 378; omega) (tr_o hT).2.1 (C := RX5) (T := TX5) (N := 16) rfl 9 (by decide) (by decide) (by decide) (by decide) (hts (.fieldLink RX5 15 "CrateHelpers$Tree" "known" "I") (by decide +kernel)) (fun _ h9 => h9) dX5_addJudged_103 ?_
  rw [hkn]
  refine lv_iconst (v := 0) hx hb dX5_addJudged_106 (by decide) ?_
  refine xzast hx hb hK hP hap hS (T + 8) (by have := (tr_o hT).1; show _ < 378; omega) (tr_o hT).2.2.2.2.2.2.2.2.2.1 hi8n dX5_addJudged_107 (fun H locs hP hS => ?_)
  rw [nI_clamp (n := n) (by omega)] at hP
  obtain ⟨A8, eA8⟩ : ∃ z, z = up2 A7 (T + 8) n (vp_nar .boolean 0) := ⟨_, rfl⟩
  rw [← eA8] at hP
  have hP : va_P D vwCl (VW K ad I G A8 L1) H := hP
  refine lv_aload_n hx hb dX5_addJudged_108 rfl (lv_at hl 0 rfl) ?_
  refine lv_dup hx hb dX5_addJudged_109 rfl ?_
  refine vgI hx hb hts hi5 hown hK hP (T) (by have := (tr_o hT).1; show _ < 378; omega) (tr_o hT).2.1 (C := RX5) (T := TX5) (N := 16) rfl 9 (by decide) (by decide) (by decide) (by decide) (hts (.fieldLink RX5 15 "CrateHelpers$Tree" "known" "I") (by decide +kernel)) (fun _ h9 => h9) dX5_addJudged_110 ?_
  rw [hkn]
  refine lv_iconst (v := 1) hx hb dX5_addJudged_113 (by decide) ?_
  refine lv_iadd hx hb dX5_addJudged_114 ?_
  refine vpI (v := ((nI n) + 1)) (ty := .int) hx hb hts hi5 tyX5 tyX5_ok nmX5 hown hK hP hap hS (T) (by have := (tr_o hT).1; show _ < 378; omega) (tr_o hT).2.1 (C := RX5) (T := TX5) (N := 16) rfl 9 (by decide) (by decide) (by decide) (by decide) (hts (.fieldLink RX5 15 "CrateHelpers$Tree" "known" "I") (by decide +kernel)) (fun _ h9 => h9) rfl (by decide +kernel) rfl rfl dX5_addJudged_115 (fun H locs hP hS => ?_)
  obtain ⟨I9, eI9⟩ : ∃ z, z = up2 I T 9 ((nI n) + 1) := ⟨_, rfl⟩
  rw [← eI9] at hP
  have hP : va_P D vwCl (VW K ad I9 G A8 L1) H := hP
  exact W.vret hx hb hr (fun t ht hW => ⟨⟨(I9, G, A8, L1), rfl, by rw [eI9, eA8, eA7, eA6, eA5, eA4, eA3, eA2, eL1]; rfl, by rw [ht]; exact hP, va_K.moved hW.alike hK⟩, hS.F ht⟩) hS.2.2 dX5_addJudged_118
