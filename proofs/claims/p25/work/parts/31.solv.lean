set_option maxHeartbeats 4000000 in
set_option maxRecDepth 100000 in
theorem c_X3_replace (l : Launch) (D : va_G) (K : Nat → ClassId) (ad : Nat → Nat) (hap0 : apart ad (fun _ => True)) (T E x : Nat) (hT : TrAt T) (hE : TeAt E) (hx5 : x < 5) (d : Nat) (hd : d < lT T) (I : Nat → Nat → Int32) (G : Nat → Nat → Nat) (A : Nat → Nat → Int32) (L : Nat → Nat → Int64) (hgT : G 14 0 = T) (hgE : G 14 1 = E) (hho : A 15 x = nI d) : Cv l D K ad yX3_replace wsX3_replace 0 0 [.ref (ad 14), .int (nI x)] (I, G, A, L) (fun (u : Mem) => u = (I, G, up2 (up2 (up2 A (T + 5) d (vp_nar .byte 0)) 15 x (-1)) (E + 5) x (A (E + 5) x + 1), L)) := by
  intro sz
  refine Met.ofW (cc := cX3_replace) (maxL := 2) (ret := none) (by decide) rfl ?_
  intro p e s m args below meth c s₁ Bd hml hv0
  obtain ⟨rfl, hsz, hP, hK⟩ := hv0
  have hx := Bd.exec
  have hb := Bd.bytes
  have hr := Bd.returns
  have hts := atoms_spec (ws := wsX3_replace) Bd.pre
  have hown : s.vm.findClass RX3 = some m.cls := findClass_of_methodNamed Bd.named
  have hlocks := Bd.notSynchronized
  have hi3 : ∀ w ∈ u_ws RX3 TX3 6, w ∈ wsX3_replace := fun w h => List.mem_cons_of_mem _ (List.mem_append_left _ (List.mem_append_left _ (List.mem_append_right _ h)))
  have hi5 : ∀ w ∈ u_ws RX5 TX5 16, w ∈ wsX3_replace := fun w h => List.mem_cons_of_mem _ (List.mem_append_left _ (List.mem_append_right _ h))
  have hi4 : ∀ w ∈ u_ws RX4 TX4 7, w ∈ wsX3_replace := fun w h => List.mem_cons_of_mem _ (List.mem_append_right _ h)
  subst hsz
  have hap := vF_ap hap0 s.heap.size
  have hS : va_S (vF ad s.heap.size) s.heap s.heap [] := va_S.rf
  have hP : va_P D vwCl (VW K ad I G A L) s.heap := hP
  have hl := lv_entry ([.ref (ad 14), .int (nI x)]) (n := 2) (Nat.le_of_ble_eq_true rfl)
  rw [lg_entry_eq]
  generalize (lg_sl ([.ref (ad 14), .int (nI x)]) ++ List.replicate (2 - (lg_sl ([.ref (ad 14), .int (nI x)])).length) Slot.unset).toArray = ls at hl ⊢
  have hl : lv_has ls 2 [(0, .ref (ad 14)), (1, .int (nI x))] := hl
  have hl1 := (tr_l hT).2.2.2.2.2.2.2.2.2.2
  have hT11 := (tr_o hT).1
  have hT22 : 22 ≤ T := by rcases hT with h | h | h <;> omega
  have hE14 := (te_o hE).1
  have hx15 : vp_in (nI x) (ln 15) := by rw [show ln 15 = 5 by decide]; exact vp_in_nI hx5 (by decide)
  have hx16 : vp_in (nI x) (ln 16) := by rw [show ln 16 = 5 by decide]; exact vp_in_nI hx5 (by decide)
  have hxe1 : vp_in (nI x) (ln (E + 1)) := by rw [(te_o hE).2.2.2.2.2.2.2.1]; exact vp_in_nI hx5 (by decide)
  have hxe3 : vp_in (nI x) (ln (E + 3)) := by rw [(te_o hE).2.2.2.2.2.2.2.2.2.1]; exact vp_in_nI hx5 (by decide)
  have hxe4 : vp_in (nI x) (ln (E + 4)) := by rw [(te_o hE).2.2.2.2.2.2.2.2.2.2.1]; exact vp_in_nI hx5 (by decide)
  have hxe5 : vp_in (nI x) (ln (E + 5)) := by rw [(te_o hE).2.2.2.2.2.2.2.2.2.2.2]; exact vp_in_nI hx5 (by decide)
  have hi1d : vp_in (nI d) (ln (T + 1)) := by rw [(tr_l hT).1]; exact vp_in_nI hd (by omega)
  have hi2d : vp_in (nI d) (ln (T + 2)) := by rw [(tr_l hT).2.1]; exact vp_in_nI hd (by omega)
  have hi3d : vp_in (nI d) (ln (T + 3)) := by rw [(tr_l hT).2.2.1]; exact vp_in_nI hd (by omega)
  have hi4d : vp_in (nI d) (ln (T + 4)) := by rw [(tr_l hT).2.2.2.1]; exact vp_in_nI hd (by omega)
  have hi5d : vp_in (nI d) (ln (T + 5)) := by rw [(tr_l hT).2.2.2.2.1]; exact vp_in_nI hd (by omega)
  have hi6d : vp_in (nI d) (ln (T + 6)) := by rw [(tr_l hT).2.2.2.2.2.1]; exact vp_in_nI hd (by omega)
  have hi7d : vp_in (nI d) (ln (T + 7)) := by rw [(tr_l hT).2.2.2.2.2.2.1]; exact vp_in_nI hd (by omega)
  have hi8d : vp_in (nI d) (ln (T + 8)) := by rw [(tr_l hT).2.2.2.2.2.2.2.1]; exact vp_in_nI hd (by omega)
  refine lv_aload_n hx hb dX3_replace_0 rfl (lv_at hl 0 rfl) ?_
  refine vgG hx hb hts hi3 hown hK hP (14) (by decide) (show kd 14 = 3 by decide) (C := RX3) (T := TX3) (N := 6) rfl 0 (by decide) (by decide) (by decide) (by decide) (hts (.fieldLink RX3 30 "CrateHelpers$Solving" "tree" "LCrateHelpers$Tree;") (by decide +kernel)) (fun _ h9 => h9) dX3_replace_1 ?_
  rw [hgT]
  refine vgS hx hb hts hi5 hown hK hP (T) (by have := (tr_o hT).1; show _ < 378; omega) (tr_o hT).2.1 (C := RX5) (T := TX5) (N := 16) rfl 4 (by decide) (by decide) (by decide) (by decide) (T + 5) rfl (hts (.fieldLink RX3 90 "CrateHelpers$Tree" "stage" "[B") (by decide +kernel)) (fun _ h9 => h9) dX3_replace_4 ?_
  refine lv_aload_n hx hb dX3_replace_7 rfl (lv_at hl 0 rfl) ?_
  refine vgS hx hb hts hi3 hown hK hP (14) (by decide) (show kd 14 = 3 by decide) (C := RX3) (T := TX3) (N := 6) rfl 4 (by decide) (by decide) (by decide) (by decide) (15) rfl (hts (.fieldLink RX3 18 "CrateHelpers$Solving" "holds" "[I") (by decide +kernel)) (fun _ h9 => h9) dX3_replace_8 ?_
  refine lv_iload_n hx hb dX3_replace_11 rfl (lv_at hl 1 rfl) ?_
  refine xiald hx hb hK hP (15) (by decide) (show kd 15 = 8 by decide) hx15 dX3_replace_12 ?_
  rw [nI_clamp (n := x) (by omega)]
  rw [hho]
  refine lv_iconst (v := 0) hx hb dX3_replace_13 (by decide) ?_
  refine xbast hx hb hK hP hap hS (T + 5) (by have := (tr_o hT).1; show _ < 378; omega) (tr_o hT).2.2.2.2.2.2.1 hi5d dX3_replace_14 (fun H locs hP hS => ?_)
  rw [nI_clamp (n := d) (by omega)] at hP
  obtain ⟨A1, eA1⟩ : ∃ z, z = up2 A (T + 5) d (vp_nar .byte 0) := ⟨_, rfl⟩
  rw [← eA1] at hP
  have hP : va_P D vwCl (VW K ad I G A1 L) H := hP
  refine lv_aload_n hx hb dX3_replace_15 rfl (lv_at hl 0 rfl) ?_
  refine vgS hx hb hts hi3 hown hK hP (14) (by decide) (show kd 14 = 3 by decide) (C := RX3) (T := TX3) (N := 6) rfl 4 (by decide) (by decide) (by decide) (by decide) (15) rfl (hts (.fieldLink RX3 18 "CrateHelpers$Solving" "holds" "[I") (by decide +kernel)) (fun _ h9 => h9) dX3_replace_16 ?_
  refine lv_iload_n hx hb dX3_replace_19 rfl (lv_at hl 1 rfl) ?_
  refine lv_iconst (v := (-1)) hx hb dX3_replace_20 (by decide) ?_
  refine xiast hx hb hK hP hap hS (15) (by decide) (show kd 15 = 8 by decide) hx15 dX3_replace_21 (fun H locs hP hS => ?_)
  rw [nI_clamp (n := x) (by omega)] at hP
  obtain ⟨A2, eA2⟩ : ∃ z, z = up2 A1 15 x ((-1)) := ⟨_, rfl⟩
  rw [← eA2] at hP
  have hP : va_P D vwCl (VW K ad I G A2 L) H := hP
  refine lv_aload_n hx hb dX3_replace_22 rfl (lv_at hl 0 rfl) ?_
  refine vgG hx hb hts hi3 hown hK hP (14) (by decide) (show kd 14 = 3 by decide) (C := RX3) (T := TX3) (N := 6) rfl 1 (by decide) (by decide) (by decide) (by decide) (hts (.fieldLink RX3 34 "CrateHelpers$Solving" "team" "LCrateHelpers$Team;") (by decide +kernel)) (fun _ h9 => h9) dX3_replace_23 ?_
  rw [hgE]
  refine vgS hx hb hts hi4 hown hK hP (E) (by have := (te_o hE).1; show _ < 378; omega) (te_o hE).2.1 (C := RX4) (T := TX4) (N := 7) rfl 6 (by decide) (by decide) (by decide) (by decide) (E + 5) rfl (hts (.fieldLink RX3 93 "CrateHelpers$Team" "replaced" "[I") (by decide +kernel)) (fun _ h9 => h9) dX3_replace_26 ?_
  refine lv_iload_n hx hb dX3_replace_29 rfl (lv_at hl 1 rfl) ?_
  refine lv_dup2_11 hx hb dX3_replace_30 rfl rfl ?_
  refine xiald hx hb hK hP (E + 5) (by have := (te_o hE).1; show _ < 378; omega) (te_o hE).2.2.2.2.2.2.1 hxe5 dX3_replace_31 ?_
  rw [nI_clamp (n := x) (by omega)]
  refine lv_iconst (v := 1) hx hb dX3_replace_32 (by decide) ?_
  refine lv_iadd hx hb dX3_replace_33 ?_
  refine xiast hx hb hK hP hap hS (E + 5) (by have := (te_o hE).1; show _ < 378; omega) (te_o hE).2.2.2.2.2.2.1 hxe5 dX3_replace_34 (fun H locs hP hS => ?_)
  rw [nI_clamp (n := x) (by omega)] at hP
  obtain ⟨A3, eA3⟩ : ∃ z, z = up2 A2 (E + 5) x (((A2 (E + 5) x) + 1)) := ⟨_, rfl⟩
  rw [← eA3] at hP
  have hP : va_P D vwCl (VW K ad I G A3 L) H := hP
  exact W.vret hx hb hr (fun t9 ht9 hW9 => ⟨⟨(I, G, A3, L), rfl, by rw [eA3, show A2 (E + 5) x = A (E + 5) x from by rw [eA2, up2_j (by omega), eA1, up2_j (by omega)], eA2, eA1], by rw [ht9]; exact hP, va_K.moved hW9.alike hK⟩, hS.F ht9⟩) hS.2.2 dX3_replace_35

theorem nfr_in (A : Nat → Nat → Int32) (L : Nat → Nat → Int64) (T : Nat) {N : Nat} (hN : N < 2 ^ 31) : ∀ k i b, (b = -1 ∨ vp_in b N) → i + k ≤ N → (nfr A L T k i b = -1 ∨ vp_in (nfr A L T k i b) N)
  | 0, _, _, h, _ => h
  | k + 1, i, b, h, hk => by
    unfold nfr
    refine nfr_in A L T hN k (i + 1) _ ?_ (by omega)
    split
    · exact Or.inr (vp_in_nI (by omega) hN)
    · exact h
/-- a helper picks: the least free node, or it is idle -/
def pkA (I A : Nat → Nat → Int32) (L : Nat → Nat → Int64) (T E x n : Nat) : Nat → Nat → Int32 := if I T 10 - I T 11 < 30 then (if nfr A L T n 0 (-1) = -1 then up2 A (E + 4) x (A (E + 4) x + 1) else up2 (up2 (up2 A (T + 5) (nfr A L T n 0 (-1)).toNatClampNeg (vp_nar .byte 1)) 15 x (nfr A L T n 0 (-1))) 16 x (A 16 x + 1)) else up2 A (E + 4) x (A (E + 4) x + 1)

set_option maxHeartbeats 4000000 in
set_option maxRecDepth 100000 in
theorem c_X3_pick (l : Launch) (D : va_G) (K : Nat → ClassId) (ad : Nat → Nat) (hap0 : apart ad (fun _ => True)) (T E x : Nat) (hT : TrAt T) (hE : TeAt E) (hx5 : x < 5) (n : Nat) (hn : n ≤ lT T) (I : Nat → Nat → Int32) (G : Nat → Nat → Nat) (A : Nat → Nat → Int32) (L : Nat → Nat → Int64) (hgT : G 14 0 = T) (hgE : G 14 1 = E) (hkn : I T 9 = nI n) : Cv l D K ad yX3_pick wsX3_pick 1 60 [.ref (ad 14), .int (nI x)] (I, G, A, L) (fun (u : Mem) => u = (I, G, pkA I A L T E x n, L)) := by
  intro sz
  refine Met.ofW (cc := cX3_pick) (maxL := 4) (ret := none) (by decide) rfl ?_
  intro p e s m args below meth c s₁ Bd hml hv0
  obtain ⟨rfl, hsz, hP, hK⟩ := hv0
  have hx := Bd.exec
  have hb := Bd.bytes
  have hr := Bd.returns
  have hts := atoms_spec (ws := wsX3_pick) Bd.pre
  have hown : s.vm.findClass RX3 = some m.cls := findClass_of_methodNamed Bd.named
  have hlocks := Bd.notSynchronized
  have hi3 : ∀ w ∈ u_ws RX3 TX3 6, w ∈ wsX3_pick := fun w h => List.mem_cons_of_mem _ (List.mem_append_left _ (List.mem_append_left _ (List.mem_append_right _ h)))
  have hi5 : ∀ w ∈ u_ws RX5 TX5 16, w ∈ wsX3_pick := fun w h => List.mem_cons_of_mem _ (List.mem_append_left _ (List.mem_append_right _ h))
  have hi4 : ∀ w ∈ u_ws RX4 TX4 7, w ∈ wsX3_pick := fun w h => List.mem_cons_of_mem _ (List.mem_append_right _ h)
  subst hsz
  have hap := vF_ap hap0 s.heap.size
  have hS : va_S (vF ad s.heap.size) s.heap s.heap [] := va_S.rf
  have hP : va_P D vwCl (VW K ad I G A L) s.heap := hP
  have hl := lv_entry ([.ref (ad 14), .int (nI x)]) (n := 4) (Nat.le_of_ble_eq_true rfl)
  rw [lg_entry_eq]
  generalize (lg_sl ([.ref (ad 14), .int (nI x)]) ++ List.replicate (4 - (lg_sl ([.ref (ad 14), .int (nI x)])).length) Slot.unset).toArray = ls at hl ⊢
  have hl : lv_has ls 4 [(0, .ref (ad 14)), (1, .int (nI x))] := hl
  have hl1 := (tr_l hT).2.2.2.2.2.2.2.2.2.2
  have hT11 := (tr_o hT).1
  have hT22 : 22 ≤ T := by rcases hT with h | h | h <;> omega
  have hE14 := (te_o hE).1
  have hx15 : vp_in (nI x) (ln 15) := by rw [show ln 15 = 5 by decide]; exact vp_in_nI hx5 (by decide)
  have hx16 : vp_in (nI x) (ln 16) := by rw [show ln 16 = 5 by decide]; exact vp_in_nI hx5 (by decide)
  have hxe1 : vp_in (nI x) (ln (E + 1)) := by rw [(te_o hE).2.2.2.2.2.2.2.1]; exact vp_in_nI hx5 (by decide)
  have hxe3 : vp_in (nI x) (ln (E + 3)) := by rw [(te_o hE).2.2.2.2.2.2.2.2.2.1]; exact vp_in_nI hx5 (by decide)
  have hxe4 : vp_in (nI x) (ln (E + 4)) := by rw [(te_o hE).2.2.2.2.2.2.2.2.2.2.1]; exact vp_in_nI hx5 (by decide)
  have hxe5 : vp_in (nI x) (ln (E + 5)) := by rw [(te_o hE).2.2.2.2.2.2.2.2.2.2.2]; exact vp_in_nI hx5 (by decide)
  refine lv_aload_n hx hb dX3_pick_0 rfl (lv_at hl 0 rfl) ?_
  refine vgG hx hb hts hi3 hown hK hP (14) (by decide) (show kd 14 = 3 by decide) (C := RX3) (T := TX3) (N := 6) rfl 0 (by decide) (by decide) (by decide) (by decide) (hts (.fieldLink RX3 30 "CrateHelpers$Solving" "tree" "LCrateHelpers$Tree;") (by decide +kernel)) (fun _ h9 => h9) dX3_pick_1 ?_
  rw [hgT]
  refine vgI hx hb hts hi5 hown hK hP (T) (by have := (tr_o hT).1; show _ < 378; omega) (tr_o hT).2.1 (C := RX5) (T := TX5) (N := 16) rfl 10 (by decide) (by decide) (by decide) (by decide) (hts (.fieldLink RX3 79 "CrateHelpers$Tree" "done" "I") (by decide +kernel)) (fun _ h9 => h9) dX3_pick_4 ?_
  refine lv_aload_n hx hb dX3_pick_7 rfl (lv_at hl 0 rfl) ?_
  refine vgG hx hb hts hi3 hown hK hP (14) (by decide) (show kd 14 = 3 by decide) (C := RX3) (T := TX3) (N := 6) rfl 0 (by decide) (by decide) (by decide) (by decide) (hts (.fieldLink RX3 30 "CrateHelpers$Solving" "tree" "LCrateHelpers$Tree;") (by decide +kernel)) (fun _ h9 => h9) dX3_pick_8 ?_
  rw [hgT]
  refine vgI hx hb hts hi5 hown hK hP (T) (by have := (tr_o hT).1; show _ < 378; omega) (tr_o hT).2.1 (C := RX5) (T := TX5) (N := 16) rfl 11 (by decide) (by decide) (by decide) (by decide) (hts (.fieldLink RX3 81 "CrateHelpers$Tree" "taken" "I") (by decide +kernel)) (fun _ h9 => h9) dX3_pick_11 ?_
  refine lv_isub hx hb dX3_pick_14 ?_
  refine lv_bipush (v := 30) hx hb dX3_pick_15 (by decide) ?_
  refine lv_icmp_lt (tgt := 24) hx hb dX3_pick_17 (by decide) (fun c_1 => ?_) (fun c_1 => ?_)
  · refine lv_iconst (v := 0) hx hb dX3_pick_24 (by decide) ?_
    refine lv_istore_n (lv' := [(2, .int 0), (0, .ref (ad 14)), (1, .int (nI x))]) hx hb dX3_pick_25 rfl hl (by decide) rfl (fun ls hl => ?_)
    refine lv_iload_n hx hb dX3_pick_26 rfl (lv_at hl 0 rfl) ?_
    refine lv_if_eq (tgt := 34) hx hb dX3_pick_27 (by decide) (fun _ => ?_) (fun c_2 => absurd c_2 (by decide))
    refine lv_aload_n hx hb dX3_pick_34 rfl (lv_at hl 1 rfl) ?_
    refine vgG hx hb hts hi3 hown hK hP (14) (by decide) (show kd 14 = 3 by decide) (C := RX3) (T := TX3) (N := 6) rfl 0 (by decide) (by decide) (by decide) (by decide) (hts (.fieldLink RX3 30 "CrateHelpers$Solving" "tree" "LCrateHelpers$Tree;") (by decide +kernel)) (fun _ h9 => h9) dX3_pick_35 ?_
    rw [hgT]
    refine vcV (As := []) (rest := []) ⟨hx, hb, hml, hown, hts⟩ (c_X5_nextFree l D K ad hap0 T n hT hn I G A L hkn) (cwV 0 hts gX3_pick_X5_nextFree rfl rfl rfl (by decide +kernel) ⟨Nat.le_of_ble_eq_true rfl, Nat.le_of_ble_eq_true rfl⟩) hK hP hS (by have := (tr_o hT).1; show _ < 378; omega) (tr_o hT).2.1 (by decide) rfl rfl rfl hl.1 (Nat.le_of_ble_eq_true rfl) (Nat.le_of_ble_eq_true rfl) (Nat.le_of_ble_eq_true rfl) dX3_pick_38 (fun r3 u4 H locs hw hP hS => ?_) rfl
    obtain ⟨hr3, rfl⟩ := hw
    have hP : va_P D vwCl (VW K ad I G A L) H := hP
    subst hr3
    refine lv_istore_n (lv' := [(3, .int (nfr A L T n 0 (-1))), (2, .int 0), (0, .ref (ad 14)), (1, .int (nI x))]) hx hb dX3_pick_41 rfl hl (by decide) rfl (fun ls hl => ?_)
    refine lv_iload_n hx hb dX3_pick_42 rfl (lv_at hl 0 rfl) ?_
    refine lv_iconst (v := (-1)) hx hb dX3_pick_43 (by decide) ?_
    refine lv_icmp_ne (tgt := 61) hx hb dX3_pick_44 (by decide) (fun c_5 => ?_) (fun c_5 => ?_)
    · have hin5 : vp_in (nfr A L T n 0 (-1)) (ln (T + 5)) := by rw [(tr_l hT).2.2.2.2.1]; exact (nfr_in A L T (by omega) n 0 (-1) (Or.inl rfl) (by omega)).resolve_left c_5
      refine lv_aload_n hx hb dX3_pick_61 rfl (lv_at hl 2 rfl) ?_
      refine vgG hx hb hts hi3 hown hK hP (14) (by decide) (show kd 14 = 3 by decide) (C := RX3) (T := TX3) (N := 6) rfl 0 (by decide) (by decide) (by decide) (by decide) (hts (.fieldLink RX3 30 "CrateHelpers$Solving" "tree" "LCrateHelpers$Tree;") (by decide +kernel)) (fun _ h9 => h9) dX3_pick_62 ?_
      rw [hgT]
      refine vgS hx hb hts hi5 hown hK hP (T) (by have := (tr_o hT).1; show _ < 378; omega) (tr_o hT).2.1 (C := RX5) (T := TX5) (N := 16) rfl 4 (by decide) (by decide) (by decide) (by decide) (T + 5) rfl (hts (.fieldLink RX3 90 "CrateHelpers$Tree" "stage" "[B") (by decide +kernel)) (fun _ h9 => h9) dX3_pick_65 ?_
      refine lv_iload_n hx hb dX3_pick_68 rfl (lv_at hl 0 rfl) ?_
      refine lv_iconst (v := 1) hx hb dX3_pick_69 (by decide) ?_
      refine xbast hx hb hK hP hap hS (T + 5) (by have := (tr_o hT).1; show _ < 378; omega) (tr_o hT).2.2.2.2.2.2.1 hin5 dX3_pick_70 (fun H locs hP hS => ?_)
      obtain ⟨A6, eA6⟩ : ∃ z, z = up2 A (T + 5) ((nfr A L T n 0 (-1)).toNatClampNeg) (vp_nar .byte 1) := ⟨_, rfl⟩
      rw [← eA6] at hP
      have hP : va_P D vwCl (VW K ad I G A6 L) H := hP
      refine lv_aload_n hx hb dX3_pick_71 rfl (lv_at hl 2 rfl) ?_
      refine vgS hx hb hts hi3 hown hK hP (14) (by decide) (show kd 14 = 3 by decide) (C := RX3) (T := TX3) (N := 6) rfl 4 (by decide) (by decide) (by decide) (by decide) (15) rfl (hts (.fieldLink RX3 18 "CrateHelpers$Solving" "holds" "[I") (by decide +kernel)) (fun _ h9 => h9) dX3_pick_72 ?_
      refine lv_iload_n hx hb dX3_pick_75 rfl (lv_at hl 3 rfl) ?_
      refine lv_iload_n hx hb dX3_pick_76 rfl (lv_at hl 0 rfl) ?_
      refine xiast hx hb hK hP hap hS (15) (by decide) (show kd 15 = 8 by decide) hx15 dX3_pick_77 (fun H locs hP hS => ?_)
      rw [nI_clamp (n := x) (by omega)] at hP
      obtain ⟨A7, eA7⟩ : ∃ z, z = up2 A6 15 x ((nfr A L T n 0 (-1))) := ⟨_, rfl⟩
      rw [← eA7] at hP
      have hP : va_P D vwCl (VW K ad I G A7 L) H := hP
      refine lv_aload_n hx hb dX3_pick_78 rfl (lv_at hl 2 rfl) ?_
      refine vgS hx hb hts hi3 hown hK hP (14) (by decide) (show kd 14 = 3 by decide) (C := RX3) (T := TX3) (N := 6) rfl 5 (by decide) (by decide) (by decide) (by decide) (16) rfl (hts (.fieldLink RX3 22 "CrateHelpers$Solving" "had" "[I") (by decide +kernel)) (fun _ h9 => h9) dX3_pick_79 ?_
      refine lv_iload_n hx hb dX3_pick_82 rfl (lv_at hl 3 rfl) ?_
      refine lv_dup2_11 hx hb dX3_pick_83 rfl rfl ?_
      refine xiald hx hb hK hP (16) (by decide) (show kd 16 = 8 by decide) hx16 dX3_pick_84 ?_
      rw [nI_clamp (n := x) (by omega)]
      refine lv_iconst (v := 1) hx hb dX3_pick_85 (by decide) ?_
      refine lv_iadd hx hb dX3_pick_86 ?_
      refine xiast hx hb hK hP hap hS (16) (by decide) (show kd 16 = 8 by decide) hx16 dX3_pick_87 (fun H locs hP hS => ?_)
      rw [nI_clamp (n := x) (by omega)] at hP
      obtain ⟨A8, eA8⟩ : ∃ z, z = up2 A7 16 x (((A7 16 x) + 1)) := ⟨_, rfl⟩
      rw [← eA8] at hP
      have hP : va_P D vwCl (VW K ad I G A8 L) H := hP
      exact W.vret hx hb hr (fun t9 ht9 hW9 => ⟨⟨(I, G, A8, L), rfl, by rw [eA8, show A7 16 x = A 16 x from by rw [eA7, up2_j (by decide), eA6, up2_j (by omega)], eA7, eA6]; unfold pkA; rw [if_pos c_1, if_neg c_5], by rw [ht9]; exact hP, va_K.moved hW9.alike hK⟩, hS.F ht9⟩) hS.2.2 dX3_pick_88
    · refine lv_aload_n hx hb dX3_pick_47 rfl (lv_at hl 2 rfl) ?_
      refine vgG hx hb hts hi3 hown hK hP (14) (by decide) (show kd 14 = 3 by decide) (C := RX3) (T := TX3) (N := 6) rfl 1 (by decide) (by decide) (by decide) (by decide) (hts (.fieldLink RX3 34 "CrateHelpers$Solving" "team" "LCrateHelpers$Team;") (by decide +kernel)) (fun _ h9 => h9) dX3_pick_48 ?_
      rw [hgE]
      refine vgS hx hb hts hi4 hown hK hP (E) (by have := (te_o hE).1; show _ < 378; omega) (te_o hE).2.1 (C := RX4) (T := TX4) (N := 7) rfl 5 (by decide) (by decide) (by decide) (by decide) (E + 4) rfl (hts (.fieldLink RX3 87 "CrateHelpers$Team" "idle" "[I") (by decide +kernel)) (fun _ h9 => h9) dX3_pick_51 ?_
      refine lv_iload_n hx hb dX3_pick_54 rfl (lv_at hl 3 rfl) ?_
      refine lv_dup2_11 hx hb dX3_pick_55 rfl rfl ?_
      refine xiald hx hb hK hP (E + 4) (by have := (te_o hE).1; show _ < 378; omega) (te_o hE).2.2.2.2.2.1 hxe4 dX3_pick_56 ?_
      rw [nI_clamp (n := x) (by omega)]
      refine lv_iconst (v := 1) hx hb dX3_pick_57 (by decide) ?_
      refine lv_iadd hx hb dX3_pick_58 ?_
      refine xiast hx hb hK hP hap hS (E + 4) (by have := (te_o hE).1; show _ < 378; omega) (te_o hE).2.2.2.2.2.1 hxe4 dX3_pick_59 (fun H locs hP hS => ?_)
      rw [nI_clamp (n := x) (by omega)] at hP
      obtain ⟨A9, eA9⟩ : ∃ z, z = up2 A (E + 4) x (((A (E + 4) x) + 1)) := ⟨_, rfl⟩
      rw [← eA9] at hP
      have hP : va_P D vwCl (VW K ad I G A9 L) H := hP
      exact W.vret hx hb hr (fun t9 ht9 hW9 => ⟨⟨(I, G, A9, L), rfl, by rw [eA9]; unfold pkA; rw [if_pos c_1, if_pos c_5], by rw [ht9]; exact hP, va_K.moved hW9.alike hK⟩, hS.F ht9⟩) hS.2.2 dX3_pick_60
  · refine lv_iconst (v := 1) hx hb dX3_pick_20 (by decide) ?_
    refine lv_goto (tgt := 25) hx hb dX3_pick_21 (by decide) ?_
    refine lv_istore_n (lv' := [(2, .int 1), (0, .ref (ad 14)), (1, .int (nI x))]) hx hb dX3_pick_25 rfl hl (by decide) rfl (fun ls hl => ?_)
    refine lv_iload_n hx hb dX3_pick_26 rfl (lv_at hl 0 rfl) ?_
    refine lv_if_eq (tgt := 34) hx hb dX3_pick_27 (by decide) (fun c_10 => absurd c_10 (by decide)) (fun _ => ?_)
    refine lv_iconst (v := (-1)) hx hb dX3_pick_30 (by decide) ?_
    refine lv_goto (tgt := 41) hx hb dX3_pick_31 (by decide) ?_
    refine lv_istore_n (lv' := [(3, .int (-1)), (2, .int 1), (0, .ref (ad 14)), (1, .int (nI x))]) hx hb dX3_pick_41 rfl hl (by decide) rfl (fun ls hl => ?_)
    refine lv_iload_n hx hb dX3_pick_42 rfl (lv_at hl 0 rfl) ?_
    refine lv_iconst (v := (-1)) hx hb dX3_pick_43 (by decide) ?_
    refine lv_icmp_ne (tgt := 61) hx hb dX3_pick_44 (by decide) (fun c_11 => absurd c_11 (by decide)) (fun _ => ?_)
    refine lv_aload_n hx hb dX3_pick_47 rfl (lv_at hl 2 rfl) ?_
    refine vgG hx hb hts hi3 hown hK hP (14) (by decide) (show kd 14 = 3 by decide) (C := RX3) (T := TX3) (N := 6) rfl 1 (by decide) (by decide) (by decide) (by decide) (hts (.fieldLink RX3 34 "CrateHelpers$Solving" "team" "LCrateHelpers$Team;") (by decide +kernel)) (fun _ h9 => h9) dX3_pick_48 ?_
    rw [hgE]
    refine vgS hx hb hts hi4 hown hK hP (E) (by have := (te_o hE).1; show _ < 378; omega) (te_o hE).2.1 (C := RX4) (T := TX4) (N := 7) rfl 5 (by decide) (by decide) (by decide) (by decide) (E + 4) rfl (hts (.fieldLink RX3 87 "CrateHelpers$Team" "idle" "[I") (by decide +kernel)) (fun _ h9 => h9) dX3_pick_51 ?_
    refine lv_iload_n hx hb dX3_pick_54 rfl (lv_at hl 3 rfl) ?_
    refine lv_dup2_11 hx hb dX3_pick_55 rfl rfl ?_
    refine xiald hx hb hK hP (E + 4) (by have := (te_o hE).1; show _ < 378; omega) (te_o hE).2.2.2.2.2.1 hxe4 dX3_pick_56 ?_
    rw [nI_clamp (n := x) (by omega)]
    refine lv_iconst (v := 1) hx hb dX3_pick_57 (by decide) ?_
    refine lv_iadd hx hb dX3_pick_58 ?_
    refine xiast hx hb hK hP hap hS (E + 4) (by have := (te_o hE).1; show _ < 378; omega) (te_o hE).2.2.2.2.2.1 hxe4 dX3_pick_59 (fun H locs hP hS => ?_)
    rw [nI_clamp (n := x) (by omega)] at hP
    obtain ⟨A12, eA12⟩ : ∃ z, z = up2 A (E + 4) x (((A (E + 4) x) + 1)) := ⟨_, rfl⟩
    rw [← eA12] at hP
    have hP : va_P D vwCl (VW K ad I G A12 L) H := hP
    exact W.vret hx hb hr (fun t9 ht9 hW9 => ⟨⟨(I, G, A12, L), rfl, by rw [eA12]; unfold pkA; rw [if_neg c_1], by rw [ht9]; exact hP, va_K.moved hW9.alike hK⟩, hS.F ht9⟩) hS.2.2 dX3_pick_60
