theorem fit01 {x : Int32} (h : x = 0 ∨ x = 1) : fits .boolean (.int x) = true := by rcases h with rfl | rfl <;> rfl
/-- a problem in order stays so where the slots from 58 on stay -/
theorem PrW_of {I I2 A A2 : Nat → Nat → Int32} {B nv nr : Nat} (h : PrW I A B nv nr) (hB : 58 ≤ B) (hI : ∀ j k, 58 ≤ j → I2 j k = I j k) (hA : ∀ j k, 58 ≤ j → A2 j k = A j k) : PrW I2 A2 B nv nr := by
  refine ⟨h.1, h.2.1, by rw [hI _ _ hB]; exact h.2.2.1, by rw [hI _ _ hB]; exact h.2.2.2.1, fun x hx => by rw [hA _ _ (by omega)]; exact h.2.2.2.2.1 x hx, fun r hr => ?_⟩
  have e : nP I2 (B + 12 + 5 * r) = nP I (B + 12 + 5 * r) := by unfold nP; rw [hI _ _ (by omega)]
  rw [e]
  have w := h.2.2.2.2.2 r hr
  exact ⟨w.1, by rw [hI _ _ (by omega)]; exact w.2.1, fun i hi => by rw [hA _ _ (by omega)]; exact w.2.2 i hi⟩
def plI (I : Nat → Nat → Int32) (T : Nat) (mt : Int32) : Nat → Nat → Int32 := up2 (up2 (up2 (up2 I T 15 mt) T 9 0) T 10 0) T 11 0
def jdI (I : Nat → Nat → Int32) (J : Nat) (w : Int32 × Int32 × Int32) : Nat → Nat → Int32 := up2 (up2 (up2 I J 0 w.1) J 1 w.2.1) J 2 w.2.2
def adA (I A : Nat → Nat → Int32) (T n : Nat) (x : Int32) : Nat → Nat → Int32 := up2 (up2 (up2 (up2 (up2 (up2 (up2 A (T + 2) n (vp_nar .byte x.toInt8.toInt32)) (T + 3) n (vp_nar .byte (I (T + 11) 0).toInt8.toInt32)) (T + 4) n (vp_nar .byte (I (T + 11) 1).toInt8.toInt32)) (T + 5) n (vp_nar .byte 0)) (T + 6) n (vp_nar .byte (-9))) (T + 7) n (vp_nar .short (-1))) (T + 8) n (vp_nar .boolean 0)
theorem plI_o {I : Nat → Nat → Int32} {T j k : Nat} {mt : Int32} (h : j ≠ T) : plI I T mt j k = I j k := by unfold plI; rw [up2_j h, up2_j h, up2_j h, up2_j h]
theorem plI_15 (I : Nat → Nat → Int32) (T : Nat) (mt : Int32) : plI I T mt T 15 = mt := by unfold plI; rw [up2_k (by decide), up2_k (by decide), up2_k (by decide), up2_s]
theorem plI_9 (I : Nat → Nat → Int32) (T : Nat) (mt : Int32) : plI I T mt T 9 = 0 := by unfold plI; rw [up2_k (by decide), up2_k (by decide), up2_s]
theorem jdI_o {I : Nat → Nat → Int32} {J j k : Nat} {w : Int32 × Int32 × Int32} (h : j ≠ J) : jdI I J w j k = I j k := by unfold jdI; rw [up2_j h, up2_j h, up2_j h]
theorem ju_at {T : Nat} (h : TrAt T) : JuAt (T + 11) := ⟨(tr_o h).1, by have := (tr_o h).1; show _ < 378; omega, (tr_o h).2.2.2.2.2.2.2.2.2.2.2.2⟩
theorem ia_v {T : Nat} (h : TrAt T) : IA (T + 10) 6 := ⟨by have := (tr_o h).1; show _ < 378; omega, (tr_o h).2.2.2.2.2.2.2.2.2.2.2.1, (tr_l h).2.2.2.2.2.2.2.2.2.1⟩
theorem ro_0 (A : Nat → Nat → Int32) (B v : Nat) : RoW (fil A v 6 (-1)) B v 0 := ⟨fun i h => absurd h (Nat.not_lt_zero i), fun i _ h => by simp [fil, h]⟩

set_option maxHeartbeats 4000000 in
set_option maxRecDepth 100000 in
theorem c_X5_plant (l : Launch) (D : va_G) (K : Nat → ClassId) (ad : Nat → Nat) (hap0 : apart ad (fun _ => True)) (T B nv nr : Nat) (mt : Int32) (hT : TrAt T) (hB : PrAt B) (hmt : mt = 0 ∨ mt = 1) (I : Nat → Nat → Int32) (G : Nat → Nat → Nat) (A : Nat → Nat → Int32) (L : Nat → Nat → Int64) (hw : PrW I A B nv nr) : Cv l D K ad yX5_plant wsX5_plant 5 190 [.ref (ad T), .ref (ad B), .int mt] (I, G, A, L) (fun (u : Mem) => u = (up2 (jdI (plI I T mt) (T + 11) (lk (plI I T mt) (fil A (T + 10) 6 (-1)) B (T + 10) nv nr 0 mt)) T 9 (nI 0 + 1), up2 G T 14 B, up2 (adA (jdI (plI I T mt) (T + 11) (lk (plI I T mt) (fil A (T + 10) 6 (-1)) B (T + 10) nv nr 0 mt)) (fil A (T + 10) 6 (-1)) T 0 0) (T + 8) 0 (vp_nar .boolean 1), up2 L (T + 1) 0 (plc ((jdI (plI I T mt) (T + 11) (lk (plI I T mt) (fil A (T + 10) 6 (-1)) B (T + 10) nv nr 0 mt)) (T + 11) 2) 0))) := by
  intro sz
  refine Met.ofW (cc := cX5_plant) (maxL := 3) (ret := none) (by decide) rfl ?_
  intro p e s m args below meth c s₁ Bd hml hv0
  obtain ⟨rfl, hsz, hP, hK⟩ := hv0
  have hx := Bd.exec
  have hb := Bd.bytes
  have hr := Bd.returns
  have hts := atoms_spec (ws := wsX5_plant) Bd.pre
  have hown : s.vm.findClass RX5 = some m.cls := findClass_of_methodNamed Bd.named
  have hlocks := Bd.notSynchronized
  have hi5 : ∀ w ∈ u_ws RX5 TX5 16, w ∈ wsX5_plant := fun w h => List.mem_cons_of_mem _ (List.mem_append_left _ (List.mem_append_left _ (List.mem_append_left _ (List.mem_append_right _ h))))
  have hi1 : ∀ w ∈ u_ws RX1 TX1 9, w ∈ wsX5_plant := fun w h => List.mem_cons_of_mem _ (List.mem_append_left _ (List.mem_append_left _ (List.mem_append_right _ h)))
  have hi0 : ∀ w ∈ u_ws RX0 TX0 3, w ∈ wsX5_plant := fun w h => List.mem_cons_of_mem _ (List.mem_append_left _ (List.mem_append_right _ h))
  have hi2 : ∀ w ∈ u_ws RX2 TX2 7, w ∈ wsX5_plant := fun w h => List.mem_cons_of_mem _ (List.mem_append_right _ h)
  subst hsz
  have hap := vF_ap hap0 s.heap.size
  have hS : va_S (vF ad s.heap.size) s.heap s.heap [] := va_S.rf
  have hP : va_P D vwCl (VW K ad I G A L) s.heap := hP
  have hl := lv_entry ([.ref (ad T), .ref (ad B), .int mt]) (n := 3) (Nat.le_of_ble_eq_true rfl)
  rw [lg_entry_eq]
  generalize (lg_sl ([.ref (ad T), .ref (ad B), .int mt]) ++ List.replicate (3 - (lg_sl ([.ref (ad T), .ref (ad B), .int mt])).length) Slot.unset).toArray = ls at hl ⊢
  have hl : lv_has ls 3 [(0, .ref (ad T)), (1, .ref (ad B)), (2, .int mt)] := hl
  have hB58 := pr_ge hB
  have hT11 := (tr_o hT).1
  have hl1 := (tr_l hT).2.2.2.2.2.2.2.2.2.2
  have hz8 : vp_in (0 : Int32) (ln (T + 8)) := by rw [(tr_l hT).2.2.2.2.2.2.2.1]; exact vp_in_nI (n := 0) (by omega) (by omega)
  refine lv_aload_n hx hb dX5_plant_0 rfl (lv_at hl 0 rfl) ?_
  refine lv_aload_n hx hb dX5_plant_1 rfl (lv_at hl 1 rfl) ?_
  refine vpG (q := B) (ty := .object "CrateHelpers$Problem") hx hb hts hi5 tyX5 tyX5_ok nmX5 hown hK hP hap hS (T) (by have := (tr_o hT).1; show _ < 378; omega) (tr_o hT).2.1 (C := RX5) (T := TX5) (N := 16) rfl 14 (by decide) (by decide) (by decide) (by decide) (hts (.fieldLink RX5 45 "CrateHelpers$Tree" "problem" "LCrateHelpers$Problem;") (by decide +kernel)) (fun _ h9 => h9) rfl (by decide +kernel) rfl rfl dX5_plant_2 (fun H locs hP hS => ?_)
  obtain ⟨G1, eG1⟩ : ∃ z, z = up2 G T 14 B := ⟨_, rfl⟩
  rw [← eG1] at hP
  have hP : va_P D vwCl (VW K ad I G1 A L) H := hP
  refine lv_aload_n hx hb dX5_plant_5 rfl (lv_at hl 0 rfl) ?_
  refine lv_iload_n hx hb dX5_plant_6 rfl (lv_at hl 2 rfl) ?_
  refine vpI (v := mt) (ty := .boolean) hx hb hts hi5 tyX5 tyX5_ok nmX5 hown hK hP hap hS (T) (by have := (tr_o hT).1; show _ < 378; omega) (tr_o hT).2.1 (C := RX5) (T := TX5) (N := 16) rfl 15 (by decide) (by decide) (by decide) (by decide) (hts (.fieldLink RX5 35 "CrateHelpers$Tree" "mindsTwins" "Z") (by decide +kernel)) (fun _ h9 => h9) rfl (by decide +kernel) (nar01 hmt) (fit01 hmt) dX5_plant_7 (fun H locs hP hS => ?_)
  obtain ⟨I2, eI2⟩ : ∃ z, z = up2 I T 15 mt := ⟨_, rfl⟩
  rw [← eI2] at hP
  have hP : va_P D vwCl (VW K ad I2 G1 A L) H := hP
  refine lv_aload_n hx hb dX5_plant_10 rfl (lv_at hl 0 rfl) ?_
  refine lv_iconst (v := 0) hx hb dX5_plant_11 (by decide) ?_
  refine vpI (v := 0) (ty := .int) hx hb hts hi5 tyX5 tyX5_ok nmX5 hown hK hP hap hS (T) (by have := (tr_o hT).1; show _ < 378; omega) (tr_o hT).2.1 (C := RX5) (T := TX5) (N := 16) rfl 9 (by decide) (by decide) (by decide) (by decide) (hts (.fieldLink RX5 15 "CrateHelpers$Tree" "known" "I") (by decide +kernel)) (fun _ h9 => h9) rfl (by decide +kernel) rfl rfl dX5_plant_12 (fun H locs hP hS => ?_)
  obtain ⟨I3, eI3⟩ : ∃ z, z = up2 I2 T 9 0 := ⟨_, rfl⟩
  rw [← eI3] at hP
  have hP : va_P D vwCl (VW K ad I3 G1 A L) H := hP
  refine lv_aload_n hx hb dX5_plant_15 rfl (lv_at hl 0 rfl) ?_
  refine lv_iconst (v := 0) hx hb dX5_plant_16 (by decide) ?_
  refine vpI (v := 0) (ty := .int) hx hb hts hi5 tyX5 tyX5_ok nmX5 hown hK hP hap hS (T) (by have := (tr_o hT).1; show _ < 378; omega) (tr_o hT).2.1 (C := RX5) (T := TX5) (N := 16) rfl 10 (by decide) (by decide) (by decide) (by decide) (hts (.fieldLink RX5 19 "CrateHelpers$Tree" "done" "I") (by decide +kernel)) (fun _ h9 => h9) rfl (by decide +kernel) rfl rfl dX5_plant_17 (fun H locs hP hS => ?_)
  obtain ⟨I4, eI4⟩ : ∃ z, z = up2 I3 T 10 0 := ⟨_, rfl⟩
  rw [← eI4] at hP
  have hP : va_P D vwCl (VW K ad I4 G1 A L) H := hP
  refine lv_aload_n hx hb dX5_plant_20 rfl (lv_at hl 0 rfl) ?_
  refine lv_iconst (v := 0) hx hb dX5_plant_21 (by decide) ?_
  refine vpI (v := 0) (ty := .int) hx hb hts hi5 tyX5 tyX5_ok nmX5 hown hK hP hap hS (T) (by have := (tr_o hT).1; show _ < 378; omega) (tr_o hT).2.1 (C := RX5) (T := TX5) (N := 16) rfl 11 (by decide) (by decide) (by decide) (by decide) (hts (.fieldLink RX5 22 "CrateHelpers$Tree" "taken" "I") (by decide +kernel)) (fun _ h9 => h9) rfl (by decide +kernel) rfl rfl dX5_plant_22 (fun H locs hP hS => ?_)
  obtain ⟨I5, eI5⟩ : ∃ z, z = up2 I4 T 11 0 := ⟨_, rfl⟩
  rw [← eI5] at hP
  have hP : va_P D vwCl (VW K ad I5 G1 A L) H := hP
  refine lv_aload_n hx hb dX5_plant_25 rfl (lv_at hl 0 rfl) ?_
  refine vgS hx hb hts hi5 hown hK hP (T) (by have := (tr_o hT).1; show _ < 378; omega) (tr_o hT).2.1 (C := RX5) (T := TX5) (N := 16) rfl 12 (by decide) (by decide) (by decide) (by decide) (T + 10) rfl (hts (.fieldLink RX5 25 "CrateHelpers$Tree" "values" "[I") (by decide +kernel)) (fun _ h9 => h9) dX5_plant_26 ?_
  refine lv_iconst (v := (-1)) hx hb dX5_plant_29 (by decide) ?_
  refine vcSv (As := [.ref (ad (T + 10)), .int (-1)]) (rest := []) ⟨hx, hb, hml, hown, hts⟩ (c_fill l D K ad hap0 (T + 10) 6 (-1) (ia_v hT) (by decide) I5 G1 A L) (va_cwS 2 hts gX5_plant_J7_fill_53178 rfl rfl rfl (by decide +kernel) ⟨Nat.le_of_ble_eq_true rfl, Nat.le_of_ble_eq_true rfl⟩) hK hP hS rfl hl.1 (Nat.le_of_ble_eq_true rfl) (Nat.le_of_ble_eq_true rfl) (Nat.le_of_ble_eq_true rfl) dX5_plant_30 (fun u7 H locs hw hP hS => ?_) rfl
  obtain ⟨I8, G9, A10, L11⟩ := u7
  have hP : va_P D vwCl (VW K ad I8 G9 A10 L11) H := hP
  injection hw with h1 h2
  injection h2 with h2 h3
  injection h3 with h3 h4
  rw [h1, h2, h3, h4] at hP
  have e4 : I5 = plI I T mt := by rw [eI5, eI4, eI3, eI2]; rfl
  rw [e4, eG1] at hP
  have hP : va_P D vwCl (VW K ad (plI I T mt) (up2 G T 14 B) (fil A (T + 10) 6 (-1)) L) H := hP
  clear h1 h2 h3 h4
  refine lv_aload_n hx hb dX5_plant_33 rfl (lv_at hl 0 rfl) ?_
  refine vgS hx hb hts hi5 hown hK hP (T) (by have := (tr_o hT).1; show _ < 378; omega) (tr_o hT).2.1 (C := RX5) (T := TX5) (N := 16) rfl 13 (by decide) (by decide) (by decide) (by decide) (T + 11) rfl (hts (.fieldLink RX5 31 "CrateHelpers$Tree" "judge" "LCrateHelpers$Judge;") (by decide +kernel)) (fun _ h9 => h9) dX5_plant_34 ?_
  refine lv_aload_n hx hb dX5_plant_37 rfl (lv_at hl 0 rfl) ?_
  refine vgG hx hb hts hi5 hown hK hP (T) (by have := (tr_o hT).1; show _ < 378; omega) (tr_o hT).2.1 (C := RX5) (T := TX5) (N := 16) rfl 14 (by decide) (by decide) (by decide) (by decide) (hts (.fieldLink RX5 45 "CrateHelpers$Tree" "problem" "LCrateHelpers$Problem;") (by decide +kernel)) (fun _ h9 => h9) dX5_plant_38 ?_
  rw [show up2 G T 14 B T 14 = B from up2_s _ _ _ _]
  refine lv_aload_n hx hb dX5_plant_41 rfl (lv_at hl 0 rfl) ?_
  refine vgS hx hb hts hi5 hown hK hP (T) (by have := (tr_o hT).1; show _ < 378; omega) (tr_o hT).2.1 (C := RX5) (T := TX5) (N := 16) rfl 12 (by decide) (by decide) (by decide) (by decide) (T + 10) rfl (hts (.fieldLink RX5 25 "CrateHelpers$Tree" "values" "[I") (by decide +kernel)) (fun _ h9 => h9) dX5_plant_42 ?_
  refine lv_iconst (v := 0) hx hb dX5_plant_45 (by decide) ?_
  refine lv_aload_n hx hb dX5_plant_46 rfl (lv_at hl 0 rfl) ?_
  refine vgI hx hb hts hi5 hown hK hP (T) (by have := (tr_o hT).1; show _ < 378; omega) (tr_o hT).2.1 (C := RX5) (T := TX5) (N := 16) rfl 15 (by decide) (by decide) (by decide) (by decide) (hts (.fieldLink RX5 35 "CrateHelpers$Tree" "mindsTwins" "Z") (by decide +kernel)) (fun _ h9 => h9) dX5_plant_47 ?_
  rw [plI_15]
  refine vcVv (As := [.ref (ad B), .ref (ad (T + 10)), .int 0, .int mt]) (rest := []) ⟨hx, hb, hml, hown, hts⟩ (c_X0_look l D K ad hap0 (T + 11) B (T + 10) nv nr 0 mt (ju_at hT) hB (ia_v hT) (by omega) (Nat.zero_le _) (plI I T mt) (up2 G T 14 B) (fil A (T + 10) 6 (-1)) L (PrW_of hw hB58 (fun j k h => plI_o (by omega)) (fun j k h => fil_j (by omega))) (ro_0 A B (T + 10))) (cwV 4 hts gX5_plant_X0_look rfl rfl rfl (by decide +kernel) ⟨Nat.le_of_ble_eq_true rfl, Nat.le_of_ble_eq_true rfl⟩) hK hP hS (by have := (tr_o hT).1; show _ < 378; omega) (tr_o hT).2.2.2.2.2.2.2.2.2.2.2.2 (by decide) rfl rfl rfl hl.1 (Nat.le_of_ble_eq_true rfl) (Nat.le_of_ble_eq_true rfl) (Nat.le_of_ble_eq_true rfl) dX5_plant_50 (fun u13 H locs hw hP hS => ?_) rfl
  obtain ⟨I14, G15, A16, L17⟩ := u13
  have hP : va_P D vwCl (VW K ad I14 G15 A16 L17) H := hP
  injection hw with h1 h2
  injection h2 with h2 h3
  injection h3 with h3 h4
  rw [h1, h2, h3, h4] at hP
  have hP : va_P D vwCl (VW K ad (jdI (plI I T mt) (T + 11) (lk (plI I T mt) (fil A (T + 10) 6 (-1)) B (T + 10) nv nr 0 mt)) (up2 G T 14 B) (fil A (T + 10) 6 (-1)) L) H := hP
  clear h1 h2 h3 h4
  refine lv_aload_n hx hb dX5_plant_53 rfl (lv_at hl 0 rfl) ?_
  refine lv_iconst (v := 0) hx hb dX5_plant_54 (by decide) ?_
  refine lv_lconst (v := 0) hx hb dX5_plant_55 rfl ?_
  refine vcVv (As := [.int 0, .long 0]) (rest := []) ⟨hx, hb, hml, hown, hts⟩ (c_X5_addJudged l D K ad hap0 T 0 0 0 hT (by omega) (jdI (plI I T mt) (T + 11) (lk (plI I T mt) (fil A (T + 10) 6 (-1)) B (T + 10) nv nr 0 mt)) (up2 G T 14 B) (fil A (T + 10) 6 (-1)) L (by rw [jdI_o (by omega), plI_9]; rfl)) (cwV 2 hts gX5_plant_X5_addJudged rfl rfl rfl (by decide +kernel) ⟨Nat.le_of_ble_eq_true rfl, Nat.le_of_ble_eq_true rfl⟩) hK hP hS (by have := (tr_o hT).1; show _ < 378; omega) (tr_o hT).2.1 (by decide) rfl rfl rfl hl.1 (Nat.le_of_ble_eq_true rfl) (Nat.le_of_ble_eq_true rfl) (Nat.le_of_ble_eq_true rfl) dX5_plant_56 (fun u19 H locs hw hP hS => ?_) rfl
  obtain ⟨I20, G21, A22, L23⟩ := u19
  have hP : va_P D vwCl (VW K ad I20 G21 A22 L23) H := hP
  injection hw with h1 h2
  injection h2 with h2 h3
  injection h3 with h3 h4
  rw [h1, h2, h3, h4] at hP
  have hP : va_P D vwCl (VW K ad (up2 (jdI (plI I T mt) (T + 11) (lk (plI I T mt) (fil A (T + 10) 6 (-1)) B (T + 10) nv nr 0 mt)) T 9 (nI 0 + 1)) (up2 G T 14 B) (adA (jdI (plI I T mt) (T + 11) (lk (plI I T mt) (fil A (T + 10) 6 (-1)) B (T + 10) nv nr 0 mt)) (fil A (T + 10) 6 (-1)) T 0 0) (up2 L (T + 1) 0 (plc ((jdI (plI I T mt) (T + 11) (lk (plI I T mt) (fil A (T + 10) 6 (-1)) B (T + 10) nv nr 0 mt)) (T + 11) 2) 0))) H := hP
  clear h1 h2 h3 h4
  refine lv_aload_n hx hb dX5_plant_59 rfl (lv_at hl 0 rfl) ?_
  refine vgS hx hb hts hi5 hown hK hP (T) (by have := (tr_o hT).1; show _ < 378; omega) (tr_o hT).2.1 (C := RX5) (T := TX5) (N := 16) rfl 7 (by decide) (by decide) (by decide) (by decide) (T + 8) rfl (hts (.fieldLink RX5 73 "CrateHelpers$Tree" "isReached" "[Z") (by decide +kernel)) (fun _ h9 => h9) dX5_plant_60 ?_
  refine lv_iconst (v := 0) hx hb dX5_plant_63 (by decide) ?_
  refine lv_iconst (v := 1) hx hb dX5_plant_64 (by decide) ?_
  refine xzast hx hb hK hP hap hS (T + 8) (by have := (tr_o hT).1; show _ < 378; omega) (tr_o hT).2.2.2.2.2.2.2.2.2.1 hz8 dX5_plant_65 (fun H locs hP hS => ?_)
  rw [show (0 : Int32).toNatClampNeg = 0 by decide] at hP
  obtain ⟨A24, eA24⟩ : ∃ z, z = up2 (adA (jdI (plI I T mt) (T + 11) (lk (plI I T mt) (fil A (T + 10) 6 (-1)) B (T + 10) nv nr 0 mt)) (fil A (T + 10) 6 (-1)) T 0 0) (T + 8) 0 (vp_nar .boolean 1) := ⟨_, rfl⟩
  rw [← eA24] at hP
  have hP : va_P D vwCl (VW K ad (up2 (jdI (plI I T mt) (T + 11) (lk (plI I T mt) (fil A (T + 10) 6 (-1)) B (T + 10) nv nr 0 mt)) T 9 (nI 0 + 1)) (up2 G T 14 B) A24 (up2 L (T + 1) 0 (plc ((jdI (plI I T mt) (T + 11) (lk (plI I T mt) (fil A (T + 10) 6 (-1)) B (T + 10) nv nr 0 mt)) (T + 11) 2) 0))) H := hP
  exact W.vret hx hb hr (fun t ht hW => ⟨⟨(up2 (jdI (plI I T mt) (T + 11) (lk (plI I T mt) (fil A (T + 10) 6 (-1)) B (T + 10) nv nr 0 mt)) T 9 (nI 0 + 1), up2 G T 14 B, A24, up2 L (T + 1) 0 (plc ((jdI (plI I T mt) (T + 11) (lk (plI I T mt) (fil A (T + 10) 6 (-1)) B (T + 10) nv nr 0 mt)) (T + 11) 2) 0)), rfl, by rw [eA24], by rw [ht]; exact hP, va_K.moved hW.alike hK⟩, hS.F ht⟩) hS.2.2 dX5_plant_66
