/-- the memory with a tree planted -/
def plM (I : Nat → Nat → Int32) (G : Nat → Nat → Nat) (A : Nat → Nat → Int32) (L : Nat → Nat → Int64) (T B nv nr : Nat) (mt : Int32) : Mem := (up2 (jdI (plI I T mt) (T + 11) (lk (plI I T mt) (fil A (T + 10) 6 (-1)) B (T + 10) nv nr 0 mt)) T 9 (nI 0 + 1), up2 G T 14 B, up2 (adA (jdI (plI I T mt) (T + 11) (lk (plI I T mt) (fil A (T + 10) 6 (-1)) B (T + 10) nv nr 0 mt)) (fil A (T + 10) 6 (-1)) T 0 0) (T + 8) 0 (vp_nar .boolean 1), up2 L (T + 1) 0 (plc ((jdI (plI I T mt) (T + 11) (lk (plI I T mt) (fil A (T + 10) 6 (-1)) B (T + 10) nv nr 0 mt)) (T + 11) 2) 0))
def bgI (I : Nat → Nat → Int32) (w : Int32) : Nat → Nat → Int32 := up2 (up2 I 14 2 w) 14 3 0
def bgA (A : Nat → Nat → Int32) (E : Nat) : Nat → Nat → Int32 := fil (fil (fil A (E + 3) 5 0) 15 5 (-1)) 16 5 0
theorem ia_d {E : Nat} (h : TeAt E) : IA (E + 3) 5 := ⟨by have := (te_o h).1; show _ < 378; omega, (te_o h).2.2.2.2.1, (te_o h).2.2.2.2.2.2.2.2.2.1⟩

set_option maxHeartbeats 4000000 in
set_option maxRecDepth 100000 in
theorem c_X3_begin (l : Launch) (D : va_G) (K : Nat → ClassId) (ad : Nat → Nat) (hap0 : apart ad (fun _ => True)) (T E B nv nr : Nat) (w : Int32) (hT : TrAt T) (hE : TeAt E) (hB : PrAt B) (I : Nat → Nat → Int32) (G : Nat → Nat → Nat) (A : Nat → Nat → Int32) (L : Nat → Nat → Int64) (hgT : G 14 0 = T) (hw : PrW I A B nv nr) : Ci l D K ad yX3_begin wsX3_begin 6 230 [.ref (ad 14), .ref (ad B), .ref (ad E), .int w] (I, G, A, L) (fun (r : Int32) (u : Mem) => r = (if (plM (bgI I w) (up2 G 14 1 E) (bgA A E) L T B nv nr 1).2.2.1 (T + 3) 0 = 0 then 0 else 2) ∧ u = plM (bgI I w) (up2 G 14 1 E) (bgA A E) L T B nv nr 1) := by
  intro sz
  refine Met.ofW (cc := cX3_begin) (maxL := 4) (ret := (some .int)) (by decide) rfl ?_
  intro p e s m args below meth c s₁ Bd hml hv0
  obtain ⟨rfl, hsz, hP, hK⟩ := hv0
  have hx := Bd.exec
  have hb := Bd.bytes
  have hr := Bd.returns
  have hts := atoms_spec (ws := wsX3_begin) Bd.pre
  have hown : s.vm.findClass RX3 = some m.cls := findClass_of_methodNamed Bd.named
  have hlocks := Bd.notSynchronized
  have hi3 : ∀ w ∈ u_ws RX3 TX3 6, w ∈ wsX3_begin := fun w h => List.mem_cons_of_mem _ (List.mem_append_left _ (List.mem_append_left _ (List.mem_append_left _ (List.mem_append_left _ (List.mem_append_left _ (List.mem_append_right _ h))))))
  have hi4 : ∀ w ∈ u_ws RX4 TX4 7, w ∈ wsX3_begin := fun w h => List.mem_cons_of_mem _ (List.mem_append_left _ (List.mem_append_left _ (List.mem_append_left _ (List.mem_append_left _ (List.mem_append_right _ h)))))
  have hi5 : ∀ w ∈ u_ws RX5 TX5 16, w ∈ wsX3_begin := fun w h => List.mem_cons_of_mem _ (List.mem_append_left _ (List.mem_append_left _ (List.mem_append_left _ (List.mem_append_right _ h))))
  have hi1 : ∀ w ∈ u_ws RX1 TX1 9, w ∈ wsX3_begin := fun w h => List.mem_cons_of_mem _ (List.mem_append_left _ (List.mem_append_left _ (List.mem_append_right _ h)))
  have hi0 : ∀ w ∈ u_ws RX0 TX0 3, w ∈ wsX3_begin := fun w h => List.mem_cons_of_mem _ (List.mem_append_left _ (List.mem_append_right _ h))
  have hi2 : ∀ w ∈ u_ws RX2 TX2 7, w ∈ wsX3_begin := fun w h => List.mem_cons_of_mem _ (List.mem_append_right _ h)
  subst hsz
  have hap := vF_ap hap0 s.heap.size
  have hS : va_S (vF ad s.heap.size) s.heap s.heap [] := va_S.rf
  have hP : va_P D vwCl (VW K ad I G A L) s.heap := hP
  have hl := lv_entry ([.ref (ad 14), .ref (ad B), .ref (ad E), .int w]) (n := 4) (Nat.le_of_ble_eq_true rfl)
  rw [lg_entry_eq]
  generalize (lg_sl ([.ref (ad 14), .ref (ad B), .ref (ad E), .int w]) ++ List.replicate (4 - (lg_sl ([.ref (ad 14), .ref (ad B), .ref (ad E), .int w])).length) Slot.unset).toArray = ls at hl ⊢
  have hl : lv_has ls 4 [(0, .ref (ad 14)), (1, .ref (ad B)), (2, .ref (ad E)), (3, .int w)] := hl
  have hl1 := (tr_l hT).2.2.2.2.2.2.2.2.2.2
  have hT11 := (tr_o hT).1
  have hT22 : 22 ≤ T := by rcases hT with h | h | h <;> omega
  have hE14 := (te_o hE).1
  have hB58 := pr_ge hB
  have hz3 : vp_in (0 : Int32) (ln (T + 3)) := by rw [(tr_l hT).2.2.1]; exact vp_in_nI (n := 0) (by omega) (by omega)
  refine lv_aload_n hx hb dX3_begin_0 rfl (lv_at hl 0 rfl) ?_
  refine lv_aload_n hx hb dX3_begin_1 rfl (lv_at hl 2 rfl) ?_
  refine vpG (q := E) (ty := .object "CrateHelpers$Team") hx hb hts hi3 tyX3 tyX3_ok nmX3 hown hK hP hap hS (14) (by decide) (show kd 14 = 3 by decide) (C := RX3) (T := TX3) (N := 6) rfl 1 (by decide) (by decide) (by decide) (by decide) (hts (.fieldLink RX3 34 "CrateHelpers$Solving" "team" "LCrateHelpers$Team;") (by decide +kernel)) (fun _ h9 => h9) rfl (by decide +kernel) rfl rfl dX3_begin_2 (fun H locs hP hS => ?_)
  obtain ⟨G1, eG1⟩ : ∃ z, z = up2 G 14 1 E := ⟨_, rfl⟩
  rw [← eG1] at hP
  have hP : va_P D vwCl (VW K ad I G1 A L) H := hP
  refine lv_aload_n hx hb dX3_begin_5 rfl (lv_at hl 0 rfl) ?_
  refine lv_iload_n hx hb dX3_begin_6 rfl (lv_at hl 3 rfl) ?_
  refine vpI (v := w) (ty := .int) hx hb hts hi3 tyX3 tyX3_ok nmX3 hown hK hP hap hS (14) (by decide) (show kd 14 = 3 by decide) (C := RX3) (T := TX3) (N := 6) rfl 2 (by decide) (by decide) (by decide) (by decide) (hts (.fieldLink RX3 9 "CrateHelpers$Solving" "limit" "I") (by decide +kernel)) (fun _ h9 => h9) rfl (by decide +kernel) rfl rfl dX3_begin_7 (fun H locs hP hS => ?_)
  obtain ⟨I2, eI2⟩ : ∃ z, z = up2 I 14 2 w := ⟨_, rfl⟩
  rw [← eI2] at hP
  have hP : va_P D vwCl (VW K ad I2 G1 A L) H := hP
  refine lv_aload_n hx hb dX3_begin_10 rfl (lv_at hl 0 rfl) ?_
  refine lv_iconst (v := 0) hx hb dX3_begin_11 (by decide) ?_
  refine vpI (v := 0) (ty := .int) hx hb hts hi3 tyX3 tyX3_ok nmX3 hown hK hP hap hS (14) (by decide) (show kd 14 = 3 by decide) (C := RX3) (T := TX3) (N := 6) rfl 3 (by decide) (by decide) (by decide) (by decide) (hts (.fieldLink RX3 15 "CrateHelpers$Solving" "turns" "I") (by decide +kernel)) (fun _ h9 => h9) rfl (by decide +kernel) rfl rfl dX3_begin_12 (fun H locs hP hS => ?_)
  obtain ⟨I3, eI3⟩ : ∃ z, z = up2 I2 14 3 0 := ⟨_, rfl⟩
  rw [← eI3] at hP
  have hP : va_P D vwCl (VW K ad I3 G1 A L) H := hP
  refine lv_aload_n hx hb dX3_begin_15 rfl (lv_at hl 0 rfl) ?_
  refine vgG hx hb hts hi3 hown hK hP (14) (by decide) (show kd 14 = 3 by decide) (C := RX3) (T := TX3) (N := 6) rfl 1 (by decide) (by decide) (by decide) (by decide) (hts (.fieldLink RX3 34 "CrateHelpers$Solving" "team" "LCrateHelpers$Team;") (by decide +kernel)) (fun _ h9 => h9) dX3_begin_16 ?_
  rw [eG1, up2_s]
  refine vgS hx hb hts hi4 hown hK hP (E) (by have := (te_o hE).1; show _ < 378; omega) (te_o hE).2.1 (C := RX4) (T := TX4) (N := 7) rfl 4 (by decide) (by decide) (by decide) (by decide) (E + 3) rfl (hts (.fieldLink RX3 38 "CrateHelpers$Team" "done" "[I") (by decide +kernel)) (fun _ h9 => h9) dX3_begin_19 ?_
  refine lv_iconst (v := 0) hx hb dX3_begin_22 (by decide) ?_
  refine vcSv (As := [.ref (ad (E + 3)), .int 0]) (rest := []) ⟨hx, hb, hml, hown, hts⟩ (c_fill l D K ad hap0 (E + 3) 5 0 (ia_d hE) (by decide) I3 G1 A L) (va_cwS 2 hts gX3_begin_J7_fill_53178 rfl rfl rfl (by decide +kernel) ⟨Nat.le_of_ble_eq_true rfl, Nat.le_of_ble_eq_true rfl⟩) hK hP hS rfl hl.1 (Nat.le_of_ble_eq_true rfl) (Nat.le_of_ble_eq_true rfl) (Nat.le_of_ble_eq_true rfl) dX3_begin_23 (fun u5 H locs hw9 hP hS => ?_) rfl
  obtain ⟨I6, G7, A8, L9⟩ := u5
  have hP : va_P D vwCl (VW K ad I6 G7 A8 L9) H := hP
  have hq := hw9
  injection hq with h1 h2
  injection h2 with h2 h3
  injection h3 with h3 h4
  rw [h1, h2, h3, h4, eI3, eI2, eG1] at hP
  clear h1 h2 h3 h4
  have hP : va_P D vwCl (VW K ad (bgI I w) (up2 G 14 1 E) (fil A (E + 3) 5 0) L) H := hP
  refine lv_aload_n hx hb dX3_begin_26 rfl (lv_at hl 0 rfl) ?_
  refine vgS hx hb hts hi3 hown hK hP (14) (by decide) (show kd 14 = 3 by decide) (C := RX3) (T := TX3) (N := 6) rfl 4 (by decide) (by decide) (by decide) (by decide) (15) rfl (hts (.fieldLink RX3 18 "CrateHelpers$Solving" "holds" "[I") (by decide +kernel)) (fun _ h9 => h9) dX3_begin_27 ?_
  refine lv_iconst (v := (-1)) hx hb dX3_begin_30 (by decide) ?_
  refine vcSv (As := [.ref (ad 15), .int (-1)]) (rest := []) ⟨hx, hb, hml, hown, hts⟩ (c_fill l D K ad hap0 15 5 (-1) ⟨by decide, by decide, by decide⟩ (by decide) (bgI I w) (up2 G 14 1 E) (fil A (E + 3) 5 0) L) (va_cwS 2 hts gX3_begin_J7_fill_53178 rfl rfl rfl (by decide +kernel) ⟨Nat.le_of_ble_eq_true rfl, Nat.le_of_ble_eq_true rfl⟩) hK hP hS rfl hl.1 (Nat.le_of_ble_eq_true rfl) (Nat.le_of_ble_eq_true rfl) (Nat.le_of_ble_eq_true rfl) dX3_begin_31 (fun u11 H locs hw9 hP hS => ?_) rfl
  obtain ⟨I12, G13, A14, L15⟩ := u11
  have hP : va_P D vwCl (VW K ad I12 G13 A14 L15) H := hP
  have hq := hw9
  injection hq with h1 h2
  injection h2 with h2 h3
  injection h3 with h3 h4
  rw [h1, h2, h3, h4] at hP
  clear h1 h2 h3 h4
  have hP : va_P D vwCl (VW K ad (bgI I w) (up2 G 14 1 E) (fil (fil A (E + 3) 5 0) 15 5 (-1)) L) H := hP
  refine lv_aload_n hx hb dX3_begin_34 rfl (lv_at hl 0 rfl) ?_
  refine vgS hx hb hts hi3 hown hK hP (14) (by decide) (show kd 14 = 3 by decide) (C := RX3) (T := TX3) (N := 6) rfl 5 (by decide) (by decide) (by decide) (by decide) (16) rfl (hts (.fieldLink RX3 22 "CrateHelpers$Solving" "had" "[I") (by decide +kernel)) (fun _ h9 => h9) dX3_begin_35 ?_
  refine lv_iconst (v := 0) hx hb dX3_begin_38 (by decide) ?_
  refine vcSv (As := [.ref (ad 16), .int 0]) (rest := []) ⟨hx, hb, hml, hown, hts⟩ (c_fill l D K ad hap0 16 5 0 ⟨by decide, by decide, by decide⟩ (by decide) (bgI I w) (up2 G 14 1 E) (fil (fil A (E + 3) 5 0) 15 5 (-1)) L) (va_cwS 2 hts gX3_begin_J7_fill_53178 rfl rfl rfl (by decide +kernel) ⟨Nat.le_of_ble_eq_true rfl, Nat.le_of_ble_eq_true rfl⟩) hK hP hS rfl hl.1 (Nat.le_of_ble_eq_true rfl) (Nat.le_of_ble_eq_true rfl) (Nat.le_of_ble_eq_true rfl) dX3_begin_39 (fun u17 H locs hw9 hP hS => ?_) rfl
  obtain ⟨I18, G19, A20, L21⟩ := u17
  have hP : va_P D vwCl (VW K ad I18 G19 A20 L21) H := hP
  have hq := hw9
  injection hq with h1 h2
  injection h2 with h2 h3
  injection h3 with h3 h4
  rw [h1, h2, h3, h4] at hP
  clear h1 h2 h3 h4
  have hP : va_P D vwCl (VW K ad (bgI I w) (up2 G 14 1 E) (bgA A E) L) H := hP
  refine lv_aload_n hx hb dX3_begin_42 rfl (lv_at hl 0 rfl) ?_
  refine vgG hx hb hts hi3 hown hK hP (14) (by decide) (show kd 14 = 3 by decide) (C := RX3) (T := TX3) (N := 6) rfl 0 (by decide) (by decide) (by decide) (by decide) (hts (.fieldLink RX3 30 "CrateHelpers$Solving" "tree" "LCrateHelpers$Tree;") (by decide +kernel)) (fun _ h9 => h9) dX3_begin_43 ?_
  rw [show up2 G 14 1 E 14 0 = T from by rw [up2_k (by decide)]; exact hgT]
  refine lv_aload_n hx hb dX3_begin_46 rfl (lv_at hl 1 rfl) ?_
  refine lv_iconst (v := 1) hx hb dX3_begin_47 (by decide) ?_
  refine vcVv (As := [.ref (ad B), .int 1]) (rest := []) ⟨hx, hb, hml, hown, hts⟩ (c_X5_plant l D K ad hap0 T B nv nr 1 hT hB (Or.inr rfl) (bgI I w) (up2 G 14 1 E) (bgA A E) L (PrW_of hw hB58 (fun j k h => by unfold bgI; rw [up2_j (by omega), up2_j (by omega)]) (fun j k h => by unfold bgA; rw [fil_j (by omega), fil_j (by omega), fil_j (by omega)]))) (cwV 2 hts gX3_begin_X5_plant rfl rfl rfl (by decide +kernel) ⟨Nat.le_of_ble_eq_true rfl, Nat.le_of_ble_eq_true rfl⟩) hK hP hS (by have := (tr_o hT).1; show _ < 378; omega) (tr_o hT).2.1 (by decide) rfl rfl rfl hl.1 (Nat.le_of_ble_eq_true rfl) (Nat.le_of_ble_eq_true rfl) (Nat.le_of_ble_eq_true rfl) dX3_begin_48 (fun u23 H locs hw9 hP hS => ?_) rfl
  obtain ⟨I24, G25, A26, L27⟩ := u23
  have hP : va_P D vwCl (VW K ad I24 G25 A26 L27) H := hP
  have hq : (I24, G25, A26, L27) = plM (bgI I w) (up2 G 14 1 E) (bgA A E) L T B nv nr 1 := hw9
  have hg9 : G25 14 0 = T := by { have h9 : G25 = up2 (up2 G 14 1 E) T 14 B := congrArg (fun q : Mem => q.2.1) hq; rw [h9, up2_j (by omega), up2_k (by decide)]; exact hgT }
  refine lv_aload_n hx hb dX3_begin_51 rfl (lv_at hl 0 rfl) ?_
  refine vgG hx hb hts hi3 hown hK hP (14) (by decide) (show kd 14 = 3 by decide) (C := RX3) (T := TX3) (N := 6) rfl 0 (by decide) (by decide) (by decide) (by decide) (hts (.fieldLink RX3 30 "CrateHelpers$Solving" "tree" "LCrateHelpers$Tree;") (by decide +kernel)) (fun _ h9 => h9) dX3_begin_52 ?_
  rw [hg9]
  refine vgS hx hb hts hi5 hown hK hP (T) (by have := (tr_o hT).1; show _ < 378; omega) (tr_o hT).2.1 (C := RX5) (T := TX5) (N := 16) rfl 2 (by decide) (by decide) (by decide) (by decide) (T + 3) rfl (hts (.fieldLink RX3 53 "CrateHelpers$Tree" "what" "[B") (by decide +kernel)) (fun _ h9 => h9) dX3_begin_55 ?_
  refine lv_iconst (v := 0) hx hb dX3_begin_58 (by decide) ?_
  refine xbald hx hb hK hP (T + 3) (by have := (tr_o hT).1; show _ < 378; omega) (tr_o hT).2.2.2.2.1 hz3 dX3_begin_59 ?_
  rw [show (0 : Int32).toNatClampNeg = 0 by decide]
  refine lv_if_ne (tgt := 67) hx hb dX3_begin_60 (by decide) (fun c_28 => ?_) (fun c_28 => ?_)
  · refine lv_iconst (v := 2) hx hb dX3_begin_67 (by decide) ?_
    exact W.iret (v := 2) hx hb hr (fun t9 ht9 hW9 => ⟨⟨2, (I24, G25, A26, L27), rfl, ⟨by { rw [← hq]; exact (if_neg c_28).symm }, hq⟩, by rw [ht9]; exact hP, va_K.moved hW9.alike hK⟩, hS.F ht9⟩) hS.2.2 dX3_begin_68
  · refine lv_iconst (v := 0) hx hb dX3_begin_63 (by decide) ?_
    refine lv_goto (tgt := 68) hx hb dX3_begin_64 (by decide) ?_
    exact W.iret (v := 0) hx hb hr (fun t9 ht9 hW9 => ⟨⟨0, (I24, G25, A26, L27), rfl, ⟨by { rw [← hq]; exact (if_pos c_28).symm }, hq⟩, by rw [ht9]; exact hP, va_K.moved hW9.alike hK⟩, hS.F ht9⟩) hS.2.2 dX3_begin_68
