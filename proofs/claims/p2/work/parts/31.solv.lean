set_option maxHeartbeats 4000000 in
set_option maxRecDepth 100000 in
theorem c_X3_replace (l : Launch) (D : va_G) (K : Nat → ClassId) (ad : Nat → Nat) (hap0 : apart ad (fun _ => True)) (T E x : Nat) (hT : TrAt T) (hE : TeAt E) (hx5 : x < 5) (d : Nat) (hd : d < lT T) (I : Nat → Nat → Int32) (G : Nat → Nat → Nat) (A : Nat → Nat → Int32) (L : Nat → Nat → Int64) (hgT : G 14 0 = T) (hgE : G 14 1 = E) (hho : A 15 x = nI d) : Cv l D K ad yX3_replace wsX3_replace 0 0 [.ref (ad 14), .int (nI x)] (I, G, A, L) (fun (u : Mem) => u = (I, G, up2 (up2 (up2 A (T + 5) d (vp_nar .byte 0)) 15 x (-1)) (E + 5) x (A (E + 5) x + 1), L)) := by
  intro sz
  refine Met.ofW (cc := cX3_replace) (maxL := 2) (ret := none) (by decide) rfl ?_
  intro p e s m args below meth c s₁ Bd hml hv0
  obtain ⟨rfl, hsz, hP, hK⟩ := hv0
  have hx := Bd.exec
  have hb := Bd.bytes
  have hr := Bd.returns
  have hts := atoms_spec (ws := wsX3_replace) Bd.pre
  have hown : s.vm.findClass RX3 = some m.cls := findClass_of_methodNamed Bd.named
  have hlocks := Bd.notSynchronized
  have hi3 : ∀ w ∈ u_ws RX3 TX3 6, w ∈ wsX3_replace := fun w h => List.mem_cons_of_mem _ (List.mem_append_left _ (List.mem_append_left _ (List.mem_append_right _ h)))
  have hi5 : ∀ w ∈ u_ws RX5 TX5 16, w ∈ wsX3_replace := fun w h => List.mem_cons_of_mem _ (List.mem_append_left _ (List.mem_append_right _ h))
  have hi4 : ∀ w ∈ u_ws RX4 TX4 7, w ∈ wsX3_replace := fun w h => List.mem_cons_of_mem _ (List.mem_append_right _ h)
  subst hsz
  have hap := vF_ap hap0 s.heap.size
  have hS : va_S (vF ad s.heap.size) s.heap s.heap [] := va_S.rf
  have hP : va_P D vwCl (VW K ad I G A L) s.heap := hP
  have hl := lv_entry ([.ref (ad 14), .int (nI x)]) (n := 2) (Nat.le_of_ble_eq_true rfl)
  rw [lg_entry_eq]
  generalize (lg_sl ([.ref (ad 14), .int (nI x)]) ++ List.replicate (2 - (lg_sl ([.ref (ad 14), .int (nI x)])).length) Slot.unset).toArray = ls at hl ⊢
  have hl : lv_has ls 2 [(0, .ref (ad 14)), (1, .int (nI x))] := hl
  have hl1 := (tr_l hT).2.2.2.2.2.2.2.2.2.2
  have hT11 := (tr_o hT).1
  have hT22 : 22 ≤ T := by rcases hT with h | h | h <;> omega
  have hE14 := (te_o hE).1
  have hx15 : vp_in (nI x) (ln 15) := by rw [show ln 15 = 5 by decide]; exact vp_in_nI hx5 (by decide)
  have hx16 : vp_in (nI x) (ln 16) := by rw [show ln 16 = 5 by decide]; exact vp_in_nI hx5 (by decide)
  have hxe1 : vp_in (nI x) (ln (E + 1)) := by rw [(te_o hE).2.2.2.2.2.2.2.1]; exact vp_in_nI hx5 (by decide)
  have hxe3 : vp_in (nI x) (ln (E + 3)) := by rw [(te_o hE).2.2.2.2.2.2.2.2.2.1]; exact vp_in_nI hx5 (by decide)
  have hxe4 : vp_in (nI x) (ln (E + 4)) := by rw [(te_o hE).2.2.2.2.2.2.2.2.2.2.1]; exact vp_in_nI hx5 (by decide)
  have hxe5 : vp_in (nI x) (ln (E + 5)) := by rw [(te_o hE).2.2.2.2.2.2.2.2.2.2.2]; exact vp_in_nI hx5 (by decide)
  have hi1d : vp_in (nI d) (ln (T + 1)) := by rw [(tr_l hT).1]; exact vp_in_nI hd (by omega)
  have hi2d : vp_in (nI d) (ln (T + 2)) := by rw [(tr_l hT).2.1]; exact vp_in_nI hd (by omega)
  have hi3d : vp_in (nI d) (ln (T + 3)) := by rw [(tr_l hT).2.2.1]; exact vp_in_nI hd (by omega)
  have hi4d : vp_in (nI d) (ln (T + 4)) := by rw [(tr_l hT).2.2.2.1]; exact vp_in_nI hd (by omega)
  have hi5d : vp_in (nI d) (ln (T + 5)) := by rw [(tr_l hT).2.2.2.2.1]; exact vp_in_nI hd (by omega)
  have hi6d : vp_in (nI d) (ln (T + 6)) := by rw [(tr_l hT).2.2.2.2.2.1]; exact vp_in_nI hd (by omega)
  have hi7d : vp_in (nI d) (ln (T + 7)) := by rw [(tr_l hT).2.2.2.2.2.2.1]; exact vp_in_nI hd (by omega)
  have hi8d : vp_in (nI d) (ln (T + 8)) := by rw [(tr_l hT).2.2.2.2.2.2.2.1]; exact vp_in_nI hd (by omega)
  refine lv_aload_n hx hb dX3_replace_0 rfl (lv_at hl 0 rfl) ?_
  refine vgG hx hb hts hi3 hown hK hP (14) (by decide) (show kd 14 = 3 by decide) (C := RX3) (T := TX3) (N := 6) rfl 0 (by decide) (by decide) (by decide) (by decide) (hts (.fieldLink RX3 30 "CrateHelpers$Solving" "tree" "LCrateHelpers$Tree;") (by decide +kernel)) (fun _ h9 => h9) dX3_replace_1 ?_
  rw [hgT]
  refine vgS hx hb hts hi5 hown hK hP (T) (by have := (tr_o hT).1; show _ < 378; omega) (tr_o hT).2.1 (C := RX5) (T := TX5) (N := 16) rfl 4 (by decide) (by decide) (by decide) (by decide) (T + 5) rfl (hts (.fieldLink RX3 90 "CrateHelpers$Tree" "stage" "[B") (by decide +kernel)) (fun _ h9 => h9) dX3_replace_4 ?_
  refine lv_aload_n hx hb dX3_replace_7 rfl (lv_at hl 0 rfl) ?_
  refine vgS hx hb hts hi3 hown hK hP (14) (by decide) (show kd 14 = 3 by decide) (C := RX3) (T := TX3) (N := 6) rfl 4 (by decide) (by decide) (by decide) (by decide) (15) rfl (hts (.fieldLink RX3 18 "CrateHelpers$Solving" "holds" "[I") (by decide +kernel)) (fun _ h9 => h9) dX3_replace_8 ?_
  refine lv_iload_n hx hb dX3_replace_11 rfl (lv_at hl 1 rfl) ?_
  refine xiald hx hb hK hP (15) (by decide) (show kd 15 = 8 by decide) hx15 dX3_replace_12 ?_
  rw [nI_clamp (n := x) (by omega)]
  rw [hho]
  refine lv_iconst (v := 0) hx hb dX3_replace_13 (by decide) ?_
  refine xbast hx hb hK hP hap hS (T + 5) (by have := (tr_o hT).1; show _ < 378; omega) (tr_o hT).2.2.2.2.2.2.1 hi5d dX3_replace_14 (fun H locs hP hS => ?_)
  rw [nI_clamp (n := d) (by omega)] at hP
  obtain ⟨A1, eA1⟩ : ∃ z, z = up2 A (T + 5) d (vp_nar .byte 0) := ⟨_, rfl⟩
  rw [← eA1] at hP
  have hP : va_P D vwCl (VW K ad I G A1 L) H := hP
  refine lv_aload_n hx hb dX3_replace_15 rfl (lv_at hl 0 rfl) ?_
  refine vgS hx hb hts hi3 hown hK hP (14) (by decide) (show kd 14 = 3 by decide) (C := RX3) (T := TX3) (N := 6) rfl 4 (by decide) (by decide) (by decide) (by decide) (15) rfl (hts (.fieldLink RX3 18 "CrateHelpers$Solving" "holds" "[I") (by decide +kernel)) (fun _ h9 => h9) dX3_replace_16 ?_
  refine lv_iload_n hx hb dX3_replace_19 rfl (lv_at hl 1 rfl) ?_
  refine lv_iconst (v := (-1)) hx hb dX3_replace_20 (by decide) ?_
  refine xiast hx hb hK hP hap hS (15) (by decide) (show kd 15 = 8 by decide) hx15 dX3_replace_21 (fun H locs hP hS => ?_)
  rw [nI_clamp (n := x) (by omega)] at hP
  obtain ⟨A2, eA2⟩ : ∃ z, z = up2 A1 15 x ((-1)) := ⟨_, rfl⟩
  rw [← eA2] at hP
  have hP : va_P D vwCl (VW K ad I G A2 L) H := hP
  refine lv_aload_n hx hb dX3_replace_22 rfl (lv_at hl 0 rfl) ?_
  refine vgG hx hb hts hi3 hown hK hP (14) (by decide) (show kd 14 = 3 by decide) (C := RX3) (T := TX3) (N := 6) rfl 1 (by decide) (by decide) (by decide) (by decide) (hts (.fieldLink RX3 34 "CrateHelpers$Solving" "team" "LCrateHelpers$Team;") (by decide +kernel)) (fun _ h9 => h9) dX3_replace_23 ?_
  rw [hgE]
  refine vgS hx hb hts hi4 hown hK hP (E) (by have := (te_o hE).1; show _ < 378; omega) (te_o hE).2.1 (C := RX4) (T := TX4) (N := 7) rfl 6 (by decide) (by decide) (by decide) (by decide) (E + 5) rfl (hts (.fieldLink RX3 93 "CrateHelpers$Team" "replaced" "[I") (by decide +kernel)) (fun _ h9 => h9) dX3_replace_26 ?_
  refine lv_iload_n hx hb dX3_replace_29 rfl (lv_at hl 1 rfl) ?_
  refine lv_dup2_11 hx hb dX3_replace_30 rfl rfl ?_
  refine xiald hx hb hK hP (E + 5) (by have := (te_o hE).1; show _ < 378; omega) (te_o hE).2.2.2.2.2.2.1 hxe5 dX3_replace_31 ?_
  rw [nI_clamp (n := x) (by omega)]
  refine lv_iconst (v := 1) hx hb dX3_replace_32 (by decide) ?_
  refine lv_iadd hx hb dX3_replace_33 ?_
  refine xiast hx hb hK hP hap hS (E + 5) (by have := (te_o hE).1; show _ < 378; omega) (te_o hE).2.2.2.2.2.2.1 hxe5 dX3_replace_34 (fun H locs hP hS => ?_)
  rw [nI_clamp (n := x) (by omega)] at hP
  obtain ⟨A3, eA3⟩ : ∃ z, z = up2 A2 (E + 5) x (((A2 (E + 5) x) + 1)) := ⟨_, rfl⟩
  rw [← eA3] at hP
  have hP : va_P D vwCl (VW K ad I G A3 L) H := hP
  exact W.vret hx hb hr (fun t9 ht9 hW9 => ⟨⟨(I, G, A3, L), rfl, by rw [eA3, show A2 (E + 5) x = A (E + 5) x from by rw [eA2, up2_j (by omega), eA1, up2_j (by omega)], eA2, eA1], by rw [ht9]; exact hP, va_K.moved hW9.alike hK⟩, hS.F ht9⟩) hS.2.2 dX3_replace_35
