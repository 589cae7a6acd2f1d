/-! TREES. A tree lies in 12 slots from T on -/
def TrAt (T : Nat) : Prop := T = 22 ∨ T = 34 ∨ T = 46
/-- how many nodes a tree has room for -/
def lT (T : Nat) : Nat := if T < 46 then 1711 else 1501
theorem tr_o {T : Nat} (h : TrAt T) : T + 11 < 58 ∧ kd T = 5 ∧ kd (T + 1) = 12 ∧ kd (T + 2) = 9 ∧ kd (T + 3) = 9 ∧ kd (T + 4) = 9 ∧ kd (T + 5) = 9 ∧ kd (T + 6) = 9 ∧ kd (T + 7) = 10 ∧ kd (T + 8) = 11 ∧ kd (T + 9) = 8 ∧ kd (T + 10) = 8 ∧ kd (T + 11) = 0 := by
  rcases h with rfl | rfl | rfl <;> decide +kernel
theorem tr_l {T : Nat} (h : TrAt T) : ln (T + 1) = lT T ∧ ln (T + 2) = lT T ∧ ln (T + 3) = lT T ∧ ln (T + 4) = lT T ∧ ln (T + 5) = lT T ∧ ln (T + 6) = lT T ∧ ln (T + 7) = lT T ∧ ln (T + 8) = lT T ∧ ln (T + 9) = 250 ∧ ln (T + 10) = 6 ∧ 1501 ≤ lT T ∧ lT T ≤ 1711 := by
  rcases h with rfl | rfl | rfl <;> decide +kernel
theorem lg_lt {x y : Int64} : 0 ≤ lg_cmp x y ↔ ¬ x < y := (lg_cmp_ge x y).trans Int64.not_lt.symm
/-- the bits that a variable's value begins at -/
def sh (x : Int32) : Int32 := 3 * (5 - x)
def plc (b : Int32) (row : Int64) : Int64 := b.toInt64 <<< ((18 : Int32).toInt64 &&& 63) ||| row
def bdo (w : Int64) : Int32 := (w >>> ((18 : Int32).toInt64 &&& 63)).toInt32
def vlo (w : Int64) (x : Int32) : Int32 := ((w >>> ((sh x).toInt64 &&& 63)) &&& 7).toInt32 - 1
/-- the least free node from i on, within k steps; the least one to take -/
def nfr (A : Nat → Nat → Int32) (L : Nat → Nat → Int64) (T : Nat) : Nat → Nat → Int32 → Int32
  | 0, _, b => b
  | k + 1, i, b => nfr A L T k (i + 1) (if (A (T + 3) i = 0 ∧ A (T + 5) i = 0) ∧ (b = -1 ∨ L (T + 1) i < L (T + 1) b.toNatClampNeg) then nI i else b)
def nwk (A : Nat → Nat → Int32) (L : Nat → Nat → Int64) (T : Nat) : Nat → Nat → Int32 → Int32
  | 0, _, b => b
  | k + 1, i, b => nwk A L T k (i + 1) (if (¬ A (T + 8) i = 0 ∧ A (T + 3) i = 0 ∧ ¬ A (T + 5) i = 3) ∧ (b = -1 ∨ L (T + 1) i < L (T + 1) b.toNatClampNeg) then nI i else b)

set_option maxHeartbeats 4000000 in
set_option maxRecDepth 100000 in
theorem c_X5_shiftOf (l : Launch) (D : va_G) (K : Nat → ClassId) (ad : Nat → Nat) (hap0 : apart ad (fun _ => True)) (x : Int32) (I : Nat → Nat → Int32) (G : Nat → Nat → Nat) (A : Nat → Nat → Int32) (L : Nat → Nat → Int64)  : Ci l D K ad yX5_shiftOf wsX5_shiftOf 0 0 [.int x] (I, G, A, L) (fun (r : Int32) (u : Mem) => r = sh x ∧ u = (I, G, A, L)) := by
  intro sz
  refine Met.ofW (cc := cX5_shiftOf) (maxL := 1) (ret := (some .int)) (by decide) rfl ?_
  intro p e s m args below meth c s₁ Bd hml hv0
  obtain ⟨rfl, hsz, hP, hK⟩ := hv0
  have hx := Bd.exec
  have hb := Bd.bytes
  have hr := Bd.returns
  have hts := atoms_spec (ws := wsX5_shiftOf) Bd.pre
  have hown : s.vm.findClass RX5 = some m.cls := findClass_of_methodNamed Bd.named
  have hlocks := Bd.notSynchronized
  subst hsz
  have hap := vF_ap hap0 s.heap.size
  have hS : va_S (vF ad s.heap.size) s.heap s.heap [] := va_S.rf
  have hP : va_P D vwCl (VW K ad I G A L) s.heap := hP
  have hl := lv_entry ([.int x]) (n := 1) (Nat.le_of_ble_eq_true rfl)
  rw [lg_entry_eq]
  generalize (lg_sl ([.int x]) ++ List.replicate (1 - (lg_sl ([.int x])).length) Slot.unset).toArray = ls at hl ⊢
  have hl : lv_has ls 1 [(0, .int x)] := hl
  refine lv_iconst (v := 3) hx hb dX5_shiftOf_0 (by decide) ?_
  refine lv_iconst (v := 5) hx hb dX5_shiftOf_1 (by decide) ?_
  refine lv_iload_n hx hb dX5_shiftOf_2 rfl (lv_at hl 0 rfl) ?_
  refine lv_isub hx hb dX5_shiftOf_3 ?_
  refine lv_imul hx hb dX5_shiftOf_4 ?_
  exact W.iret (v := (3 * (5 - x))) hx hb hr (fun t ht hW => ⟨⟨(3 * (5 - x)), (I, G, A, L), rfl, ⟨rfl, rfl⟩, by rw [ht]; exact hP, va_K.moved hW.alike hK⟩, hS.F ht⟩) hS.2.2 dX5_shiftOf_5

set_option maxHeartbeats 4000000 in
set_option maxRecDepth 100000 in
theorem c_X5_boundOf (l : Launch) (D : va_G) (K : Nat → ClassId) (ad : Nat → Nat) (hap0 : apart ad (fun _ => True)) (T d : Nat) (hT : TrAt T) (hd : d < lT T) (I : Nat → Nat → Int32) (G : Nat → Nat → Nat) (A : Nat → Nat → Int32) (L : Nat → Nat → Int64)  : Ci l D K ad yX5_boundOf wsX5_boundOf 0 0 [.ref (ad T), .int (nI d)] (I, G, A, L) (fun (r : Int32) (u : Mem) => r = bdo (L (T + 1) d) ∧ u = (I, G, A, L)) := by
  intro sz
  refine Met.ofW (cc := cX5_boundOf) (maxL := 2) (ret := (some .int)) (by decide) rfl ?_
  intro p e s m args below meth c s₁ Bd hml hv0
  obtain ⟨rfl, hsz, hP, hK⟩ := hv0
  have hx := Bd.exec
  have hb := Bd.bytes
  have hr := Bd.returns
  have hts := atoms_spec (ws := wsX5_boundOf) Bd.pre
  have hown : s.vm.findClass RX5 = some m.cls := findClass_of_methodNamed Bd.named
  have hlocks := Bd.notSynchronized
  have hi5 : ∀ w ∈ u_ws RX5 TX5 16, w ∈ wsX5_boundOf := fun w h => List.mem_cons_of_mem _ (List.mem_append_right _ h)
  subst hsz
  have hap := vF_ap hap0 s.heap.size
  have hS : va_S (vF ad s.heap.size) s.heap s.heap [] := va_S.rf
  have hP : va_P D vwCl (VW K ad I G A L) s.heap := hP
  have hl := lv_entry ([.ref (ad T), .int (nI d)]) (n := 2) (Nat.le_of_ble_eq_true rfl)
  rw [lg_entry_eq]
  generalize (lg_sl ([.ref (ad T), .int (nI d)]) ++ List.replicate (2 - (lg_sl ([.ref (ad T), .int (nI d)])).length) Slot.unset).toArray = ls at hl ⊢
  have hl : lv_has ls 2 [(0, .ref (ad T)), (1, .int (nI d))] := hl
  have hl1 := (tr_l hT).2.2.2.2.2.2.2.2.2.2
  have hi1d : vp_in (nI d) (ln (T + 1)) := by rw [(tr_l hT).1]; exact vp_in_nI hd (by omega)
  have hi2d : vp_in (nI d) (ln (T + 2)) := by rw [(tr_l hT).2.1]; exact vp_in_nI hd (by omega)
  have hi3d : vp_in (nI d) (ln (T + 3)) := by rw [(tr_l hT).2.2.1]; exact vp_in_nI hd (by omega)
  have hi4d : vp_in (nI d) (ln (T + 4)) := by rw [(tr_l hT).2.2.2.1]; exact vp_in_nI hd (by omega)
  have hi5d : vp_in (nI d) (ln (T + 5)) := by rw [(tr_l hT).2.2.2.2.1]; exact vp_in_nI hd (by omega)
  have hi6d : vp_in (nI d) (ln (T + 6)) := by rw [(tr_l hT).2.2.2.2.2.1]; exact vp_in_nI hd (by omega)
  have hi7d : vp_in (nI d) (ln (T + 7)) := by rw [(tr_l hT).2.2.2.2.2.2.1]; exact vp_in_nI hd (by omega)
  have hi8d : vp_in (nI d) (ln (T + 8)) := by rw [(tr_l hT).2.2.2.2.2.2.2.1]; exact vp_in_nI hd (by omega)
  refine lv_aload_n hx hb dX5_boundOf_0 rfl (lv_at hl 0 rfl) ?_
  refine vgS hx hb hts hi5 hown hK hP (T) (by have := (tr_o hT).1; show _ < 378; omega) (tr_o hT).2.1 (C := RX5) (T := TX5) (N := 16) rfl 0 (by decide) (by decide) (by decide) (by decide) (T + 1) rfl (hts (.fieldLink RX5 49 "CrateHelpers$Tree" "place" "[J") (by decide +kernel)) (fun _ h9 => h9) dX5_boundOf_1 ?_
  refine lv_iload_n hx hb dX5_boundOf_4 rfl (lv_at hl 1 rfl) ?_
  refine xlald hx hb hK hP (T + 1) (by have := (tr_o hT).1; show _ < 378; omega) (tr_o hT).2.2.1 hi1d dX5_boundOf_5 ?_
  rw [nI_clamp (n := d) (by omega)]
  refine lv_bipush (v := 18) hx hb dX5_boundOf_6 (by decide) ?_
  refine lv_lshr hx hb dX5_boundOf_8 rfl ?_
  refine lv_l2i hx hb dX5_boundOf_9 rfl ?_
  exact W.iret (v := (((L (T + 1) d) >>> ((18 : Int32).toInt64 &&& 63)).toInt32)) hx hb hr (fun t ht hW => ⟨⟨(((L (T + 1) d) >>> ((18 : Int32).toInt64 &&& 63)).toInt32), (I, G, A, L), rfl, ⟨rfl, rfl⟩, by rw [ht]; exact hP, va_K.moved hW.alike hK⟩, hS.F ht⟩) hS.2.2 dX5_boundOf_10

set_option maxHeartbeats 4000000 in
set_option maxRecDepth 100000 in
theorem c_X5_valueOf (l : Launch) (D : va_G) (K : Nat → ClassId) (ad : Nat → Nat) (hap0 : apart ad (fun _ => True)) (T d : Nat) (hT : TrAt T) (hd : d < lT T) (x : Int32) (I : Nat → Nat → Int32) (G : Nat → Nat → Nat) (A : Nat → Nat → Int32) (L : Nat → Nat → Int64)  : Ci l D K ad yX5_valueOf wsX5_valueOf 1 40 [.ref (ad T), .int (nI d), .int x] (I, G, A, L) (fun (r : Int32) (u : Mem) => r = vlo (L (T + 1) d) x ∧ u = (I, G, A, L)) := by
  intro sz
  refine Met.ofW (cc := cX5_valueOf) (maxL := 3) (ret := (some .int)) (by decide) rfl ?_
  intro p e s m args below meth c s₁ Bd hml hv0
  obtain ⟨rfl, hsz, hP, hK⟩ := hv0
  have hx := Bd.exec
  have hb := Bd.bytes
  have hr := Bd.returns
  have hts := atoms_spec (ws := wsX5_valueOf) Bd.pre
  have hown : s.vm.findClass RX5 = some m.cls := findClass_of_methodNamed Bd.named
  have hlocks := Bd.notSynchronized
  have hi5 : ∀ w ∈ u_ws RX5 TX5 16, w ∈ wsX5_valueOf := fun w h => List.mem_cons_of_mem _ (List.mem_append_right _ h)
  subst hsz
  have hap := vF_ap hap0 s.heap.size
  have hS : va_S (vF ad s.heap.size) s.heap s.heap [] := va_S.rf
  have hP : va_P D vwCl (VW K ad I G A L) s.heap := hP
  have hl := lv_entry ([.ref (ad T), .int (nI d), .int x]) (n := 3) (Nat.le_of_ble_eq_true rfl)
  rw [lg_entry_eq]
  generalize (lg_sl ([.ref (ad T), .int (nI d), .int x]) ++ List.replicate (3 - (lg_sl ([.ref (ad T), .int (nI d), .int x])).length) Slot.unset).toArray = ls at hl ⊢
  have hl : lv_has ls 3 [(0, .ref (ad T)), (1, .int (nI d)), (2, .int x)] := hl
  have hl1 := (tr_l hT).2.2.2.2.2.2.2.2.2.2
  have hi1d : vp_in (nI d) (ln (T + 1)) := by rw [(tr_l hT).1]; exact vp_in_nI hd (by omega)
  have hi2d : vp_in (nI d) (ln (T + 2)) := by rw [(tr_l hT).2.1]; exact vp_in_nI hd (by omega)
  have hi3d : vp_in (nI d) (ln (T + 3)) := by rw [(tr_l hT).2.2.1]; exact vp_in_nI hd (by omega)
  have hi4d : vp_in (nI d) (ln (T + 4)) := by rw [(tr_l hT).2.2.2.1]; exact vp_in_nI hd (by omega)
  have hi5d : vp_in (nI d) (ln (T + 5)) := by rw [(tr_l hT).2.2.2.2.1]; exact vp_in_nI hd (by omega)
  have hi6d : vp_in (nI d) (ln (T + 6)) := by rw [(tr_l hT).2.2.2.2.2.1]; exact vp_in_nI hd (by omega)
  have hi7d : vp_in (nI d) (ln (T + 7)) := by rw [(tr_l hT).2.2.2.2.2.2.1]; exact vp_in_nI hd (by omega)
  have hi8d : vp_in (nI d) (ln (T + 8)) := by rw [(tr_l hT).2.2.2.2.2.2.2.1]; exact vp_in_nI hd (by omega)
  refine lv_aload_n hx hb dX5_valueOf_0 rfl (lv_at hl 0 rfl) ?_
  refine vgS hx hb hts hi5 hown hK hP (T) (by have := (tr_o hT).1; show _ < 378; omega) (tr_o hT).2.1 (C := RX5) (T := TX5) (N := 16) rfl 0 (by decide) (by decide) (by decide) (by decide) (T + 1) rfl (hts (.fieldLink RX5 49 "CrateHelpers$Tree" "place" "[J") (by decide +kernel)) (fun _ h9 => h9) dX5_valueOf_1 ?_
  refine lv_iload_n hx hb dX5_valueOf_4 rfl (lv_at hl 1 rfl) ?_
  refine xlald hx hb hK hP (T + 1) (by have := (tr_o hT).1; show _ < 378; omega) (tr_o hT).2.2.1 hi1d dX5_valueOf_5 ?_
  rw [nI_clamp (n := d) (by omega)]
  refine lv_iload_n hx hb dX5_valueOf_6 rfl (lv_at hl 2 rfl) ?_
  refine vcS (As := [.int x]) (rest := [.long (L (T + 1) d)]) ⟨hx, hb, hml, hown, hts⟩ (c_X5_shiftOf l D K ad hap0 x I G A L) (va_cwS 1 hts gX5_valueOf_X5_shiftOf rfl rfl rfl (by decide +kernel) ⟨Nat.le_of_ble_eq_true rfl, Nat.le_of_ble_eq_true rfl⟩) hK hP hS rfl hl.1 (Nat.le_of_ble_eq_true rfl) (Nat.le_of_ble_eq_true rfl) (Nat.le_of_ble_eq_true rfl) dX5_valueOf_7 (fun r1 u2 H locs hw hP hS => ?_) rfl
  obtain ⟨hr1, rfl⟩ := hw
  have hP : va_P D vwCl (VW K ad I G A L) H := hP
  subst hr1
  refine lv_lshr hx hb dX5_valueOf_10 rfl ?_
  refine lv_ldc2 (v := 7) hx hb hown (hts (.constantLong RX5 123 (7)) (by decide +kernel)) dX5_valueOf_11 ?_
  refine lv_land hx hb dX5_valueOf_14 ?_
  refine lv_l2i hx hb dX5_valueOf_15 rfl ?_
  refine lv_iconst (v := 1) hx hb dX5_valueOf_16 (by decide) ?_
  refine lv_isub hx hb dX5_valueOf_17 ?_
  exact W.iret (v := (((((L (T + 1) d) >>> ((sh x).toInt64 &&& 63)) &&& 7).toInt32) - 1)) hx hb hr (fun t ht hW => ⟨⟨(((((L (T + 1) d) >>> ((sh x).toInt64 &&& 63)) &&& 7).toInt32) - 1), (I, G, A, L), rfl, ⟨rfl, rfl⟩, by rw [ht]; exact hP, va_K.moved hW.alike hK⟩, hS.F ht⟩) hS.2.2 dX5_valueOf_18

set_option maxHeartbeats 4000000 in
set_option maxRecDepth 100000 in
theorem c_X5_isFull (l : Launch) (D : va_G) (K : Nat → ClassId) (ad : Nat → Nat) (hap0 : apart ad (fun _ => True)) (T d : Nat) (hT : TrAt T) (hd : d < lT T) (B : Nat) (hB : PrAt B) (I : Nat → Nat → Int32) (G : Nat → Nat → Nat) (A : Nat → Nat → Int32) (L : Nat → Nat → Int64) (hTB : G T 14 = B) : Ci l D K ad yX5_isFull wsX5_isFull 0 0 [.ref (ad T), .int (nI d)] (I, G, A, L) (fun (r : Int32) (u : Mem) => r = (if A (T + 2) d < I B 0 then 0 else 1) ∧ u = (I, G, A, L)) := by
  intro sz
  refine Met.ofW (cc := cX5_isFull) (maxL := 2) (ret := (some .boolean)) (by decide) rfl ?_
  intro p e s m args below meth c s₁ Bd hml hv0
  obtain ⟨rfl, hsz, hP, hK⟩ := hv0
  have hx := Bd.exec
  have hb := Bd.bytes
  have hr := Bd.returns
  have hts := atoms_spec (ws := wsX5_isFull) Bd.pre
  have hown : s.vm.findClass RX5 = some m.cls := findClass_of_methodNamed Bd.named
  have hlocks := Bd.notSynchronized
  have hi5 : ∀ w ∈ u_ws RX5 TX5 16, w ∈ wsX5_isFull := fun w h => List.mem_cons_of_mem _ (List.mem_append_left _ (List.mem_append_right _ h))
  have hi1 : ∀ w ∈ u_ws RX1 TX1 9, w ∈ wsX5_isFull := fun w h => List.mem_cons_of_mem _ (List.mem_append_right _ h)
  subst hsz
  have hap := vF_ap hap0 s.heap.size
  have hS : va_S (vF ad s.heap.size) s.heap s.heap [] := va_S.rf
  have hP : va_P D vwCl (VW K ad I G A L) s.heap := hP
  have hl := lv_entry ([.ref (ad T), .int (nI d)]) (n := 2) (Nat.le_of_ble_eq_true rfl)
  rw [lg_entry_eq]
  generalize (lg_sl ([.ref (ad T), .int (nI d)]) ++ List.replicate (2 - (lg_sl ([.ref (ad T), .int (nI d)])).length) Slot.unset).toArray = ls at hl ⊢
  have hl : lv_has ls 2 [(0, .ref (ad T)), (1, .int (nI d))] := hl
  have hl1 := (tr_l hT).2.2.2.2.2.2.2.2.2.2
  have hi1d : vp_in (nI d) (ln (T + 1)) := by rw [(tr_l hT).1]; exact vp_in_nI hd (by omega)
  have hi2d : vp_in (nI d) (ln (T + 2)) := by rw [(tr_l hT).2.1]; exact vp_in_nI hd (by omega)
  have hi3d : vp_in (nI d) (ln (T + 3)) := by rw [(tr_l hT).2.2.1]; exact vp_in_nI hd (by omega)
  have hi4d : vp_in (nI d) (ln (T + 4)) := by rw [(tr_l hT).2.2.2.1]; exact vp_in_nI hd (by omega)
  have hi5d : vp_in (nI d) (ln (T + 5)) := by rw [(tr_l hT).2.2.2.2.1]; exact vp_in_nI hd (by omega)
  have hi6d : vp_in (nI d) (ln (T + 6)) := by rw [(tr_l hT).2.2.2.2.2.1]; exact vp_in_nI hd (by omega)
  have hi7d : vp_in (nI d) (ln (T + 7)) := by rw [(tr_l hT).2.2.2.2.2.2.1]; exact vp_in_nI hd (by omega)
  have hi8d : vp_in (nI d) (ln (T + 8)) := by rw [(tr_l hT).2.2.2.2.2.2.2.1]; exact vp_in_nI hd (by omega)
  refine lv_aload_n hx hb dX5_isFull_0 rfl (lv_at hl 0 rfl) ?_
  refine vgS hx hb hts hi5 hown hK hP (T) (by have := (tr_o hT).1; show _ < 378; omega) (tr_o hT).2.1 (C := RX5) (T := TX5) (N := 16) rfl 1 (by decide) (by decide) (by decide) (by decide) (T + 2) rfl (hts (.fieldLink RX5 53 "CrateHelpers$Tree" "depth" "[B") (by decide +kernel)) (fun _ h9 => h9) dX5_isFull_1 ?_
  refine lv_iload_n hx hb dX5_isFull_4 rfl (lv_at hl 1 rfl) ?_
  refine xbald hx hb hK hP (T + 2) (by have := (tr_o hT).1; show _ < 378; omega) (tr_o hT).2.2.2.1 hi2d dX5_isFull_5 ?_
  rw [nI_clamp (n := d) (by omega)]
  refine lv_aload_n hx hb dX5_isFull_6 rfl (lv_at hl 0 rfl) ?_
  refine vgG hx hb hts hi5 hown hK hP (T) (by have := (tr_o hT).1; show _ < 378; omega) (tr_o hT).2.1 (C := RX5) (T := TX5) (N := 16) rfl 14 (by decide) (by decide) (by decide) (by decide) (hts (.fieldLink RX5 45 "CrateHelpers$Tree" "problem" "LCrateHelpers$Problem;") (by decide +kernel)) (fun _ h9 => h9) dX5_isFull_7 ?_
  rw [hTB]
  refine vgI hx hb hts hi1 hown hK hP (B) (by have := (pr_o hB).1; omega) (pr_o hB).2.1 (C := RX1) (T := TX1) (N := 9) rfl 0 (by decide) (by decide) (by decide) (by decide) (hts (.fieldLink RX5 120 "CrateHelpers$Problem" "variables" "I") (by decide +kernel)) (fun _ h9 => h9) dX5_isFull_10 ?_
  refine lv_icmp_lt (tgt := 20) hx hb dX5_isFull_13 (by decide) (fun c_1 => ?_) (fun c_1 => ?_)
  · refine lv_iconst (v := 0) hx hb dX5_isFull_20 (by decide) ?_
    exact W.zret (v := 0) hx hb hr (by decide) (fun t ht hW => ⟨⟨0, (I, G, A, L), rfl, ⟨by first | (simp [c_1]; done), rfl⟩, by rw [ht]; exact hP, va_K.moved hW.alike hK⟩, hS.F ht⟩) hS.2.2 dX5_isFull_21
  · refine lv_iconst (v := 1) hx hb dX5_isFull_16 (by decide) ?_
    refine lv_goto (tgt := 21) hx hb dX5_isFull_17 (by decide) ?_
    exact W.zret (v := 1) hx hb hr (by decide) (fun t ht hW => ⟨⟨1, (I, G, A, L), rfl, ⟨by first | (simp [c_1]; done), rfl⟩, by rw [ht]; exact hP, va_K.moved hW.alike hK⟩, hS.F ht⟩) hS.2.2 dX5_isFull_21

set_option maxHeartbeats 4000000 in
set_option maxRecDepth 100000 in
theorem c_X5_nextFree (l : Launch) (D : va_G) (K : Nat → ClassId) (ad : Nat → Nat) (hap0 : apart ad (fun _ => True)) (T n : Nat) (hT : TrAt T) (hn : n ≤ lT T) (I : Nat → Nat → Int32) (G : Nat → Nat → Nat) (A : Nat → Nat → Int32) (L : Nat → Nat → Int64) (hkn : I T 9 = nI n) : Ci l D K ad yX5_nextFree wsX5_nextFree 0 0 [.ref (ad T)] (I, G, A, L) (fun (r : Int32) (u : Mem) => r = nfr A L T n 0 (-1) ∧ u = (I, G, A, L)) := by
  intro sz
  refine Met.ofW (cc := cX5_nextFree) (maxL := 4) (ret := (some .int)) (by decide) rfl ?_
  intro p e s m args below meth c s₁ Bd hml hv0
  obtain ⟨rfl, hsz, hP, hK⟩ := hv0
  have hx := Bd.exec
  have hb := Bd.bytes
  have hr := Bd.returns
  have hts := atoms_spec (ws := wsX5_nextFree) Bd.pre
  have hown : s.vm.findClass RX5 = some m.cls := findClass_of_methodNamed Bd.named
  have hlocks := Bd.notSynchronized
  have hi5 : ∀ w ∈ u_ws RX5 TX5 16, w ∈ wsX5_nextFree := fun w h => List.mem_cons_of_mem _ (List.mem_append_right _ h)
  subst hsz
  have hap := vF_ap hap0 s.heap.size
  have hS : va_S (vF ad s.heap.size) s.heap s.heap [] := va_S.rf
  have hP : va_P D vwCl (VW K ad I G A L) s.heap := hP
  have hl := lv_entry ([.ref (ad T)]) (n := 4) (Nat.le_of_ble_eq_true rfl)
  rw [lg_entry_eq]
  generalize (lg_sl ([.ref (ad T)]) ++ List.replicate (4 - (lg_sl ([.ref (ad T)])).length) Slot.unset).toArray = ls at hl ⊢
  have hl : lv_has ls 4 [(0, .ref (ad T))] := hl
  have hl1 := (tr_l hT).2.2.2.2.2.2.2.2.2.2
  refine lv_iconst (v := (-1)) hx hb dX5_nextFree_0 (by decide) ?_
  refine lv_istore_n (lv' := [(1, .int (-1)), (0, .ref (ad T))]) hx hb dX5_nextFree_1 rfl hl (by decide) rfl (fun ls hl => ?_)
  refine lv_iconst (v := 0) hx hb dX5_nextFree_2 (by decide) ?_
  refine lv_istore_n (lv' := [(2, .int 0), (1, .int (-1)), (0, .ref (ad T))]) hx hb dX5_nextFree_3 rfl hl (by decide) rfl (fun ls hl => ?_)
  have kx1 : ∀ (b : Int32), b = nfr A L T n 0 (-1) → ∀ (H : Heap) (locs : List Loc), va_P D vwCl (VW K ad I G A L) H → va_S (vF ad s.heap.size) s.heap H locs → ∀ (ls : Array Slot), lv_has ls 4 [(1, .int b), (0, .ref (ad T))] → W p l e ({ frames := 0, cells := 0, slots := 0, locals := 0 }) s m ([.ref (ad T)] : List Value).toArray below meth c H locs 0 0 (MQ below (va_Qi (fun (r : Int32) (u : Mem) => r = nfr A L T n 0 (-1) ∧ u = (I, G, A, L)) (vB D K ad) (vF ad s.heap.size)) ([.ref (ad T)] : List Value).toArray s 0 0 (vF ad s.heap.size)) (F0 m 69 ls []) := by
    intro b hinv1 H locs hP hS ls hl
    refine lv_iload_n hx hb dX5_nextFree_69 rfl (lv_at hl 0 rfl) ?_
    exact W.iret (v := b) hx hb hr (fun t ht hW => ⟨⟨b, (I, G, A, L), rfl, ⟨hinv1, rfl⟩, by rw [ht]; exact hP, va_K.moved hW.alike hK⟩, hS.F ht⟩) hS.2.2 dX5_nextFree_70
  have lp1 : ∀ (k1 i : Nat) (b : Int32), i + k1 = n → nfr A L T k1 i b = nfr A L T n 0 (-1) ∧ (b = -1 ∨ vp_in b (ln (T + 1))) → ∀ (H : Heap) (locs : List Loc), va_P D vwCl (VW K ad I G A L) H → va_S (vF ad s.heap.size) s.heap H locs → ∀ (ls : Array Slot), lv_has ls 4 [(2, .int (nI i)), (1, .int b), (0, .ref (ad T))] → W p l e ({ frames := 0, cells := 0, slots := 0, locals := 0 }) s m ([.ref (ad T)] : List Value).toArray below meth c H locs 0 0 (MQ below (va_Qi (fun (r : Int32) (u : Mem) => r = nfr A L T n 0 (-1) ∧ u = (I, G, A, L)) (vB D K ad) (vF ad s.heap.size)) ([.ref (ad T)] : List Value).toArray s 0 0 (vF ad s.heap.size)) (F0 m 4 ls []) := by
    intro k1
    induction k1 with
    | zero =>
      intro i b hk1 hinv1 H locs hP hS ls hl
      obtain rfl : n = i := by omega
      refine lv_iload_n hx hb dX5_nextFree_4 rfl (lv_at hl 0 rfl) ?_
      refine lv_aload_n hx hb dX5_nextFree_5 rfl (lv_at hl 2 rfl) ?_
      refine vgI hx hb hts hi5 hown hK hP (T) (by have := (tr_o hT).1; show _ < 378; omega) (tr_o hT).2.1 (C := RX5) (T := TX5) (N := 16) rfl 9 (by decide) (by decide) (by decide) (by decide) (hts (.fieldLink RX5 15 "CrateHelpers$Tree" "known" "I") (by decide +kernel)) (fun _ h9 => h9) dX5_nextFree_6 ?_
      rw [hkn]
      refine lv_icmp_ge (tgt := 69) hx hb dX5_nextFree_9 (by decide) (fun _ => ?_) (fun c_2 => absurd (nI_le (Nat.le_refl _) (by omega)) c_2)
      exact kx1 b (hinv1.1) H locs hP hS ls (lv_sub hl [1, 2] rfl)
    | succ k1 ih1 =>
      intro i b hk1 hinv1 H locs hP hS ls hl
      have hlt1 : i < n := by omega
      have hi1i : vp_in (nI i) (ln (T + 1)) := by rw [(tr_l hT).1]; exact vp_in_nI (by omega) (by omega)
      have hi2i : vp_in (nI i) (ln (T + 2)) := by rw [(tr_l hT).2.1]; exact vp_in_nI (by omega) (by omega)
      have hi3i : vp_in (nI i) (ln (T + 3)) := by rw [(tr_l hT).2.2.1]; exact vp_in_nI (by omega) (by omega)
      have hi4i : vp_in (nI i) (ln (T + 4)) := by rw [(tr_l hT).2.2.2.1]; exact vp_in_nI (by omega) (by omega)
      have hi5i : vp_in (nI i) (ln (T + 5)) := by rw [(tr_l hT).2.2.2.2.1]; exact vp_in_nI (by omega) (by omega)
      have hi6i : vp_in (nI i) (ln (T + 6)) := by rw [(tr_l hT).2.2.2.2.2.1]; exact vp_in_nI (by omega) (by omega)
      have hi7i : vp_in (nI i) (ln (T + 7)) := by rw [(tr_l hT).2.2.2.2.2.2.1]; exact vp_in_nI (by omega) (by omega)
      have hi8i : vp_in (nI i) (ln (T + 8)) := by rw [(tr_l hT).2.2.2.2.2.2.2.1]; exact vp_in_nI (by omega) (by omega)
      refine lv_iload_n hx hb dX5_nextFree_4 rfl (lv_at hl 0 rfl) ?_
      refine lv_aload_n hx hb dX5_nextFree_5 rfl (lv_at hl 2 rfl) ?_
      refine vgI hx hb hts hi5 hown hK hP (T) (by have := (tr_o hT).1; show _ < 378; omega) (tr_o hT).2.1 (C := RX5) (T := TX5) (N := 16) rfl 9 (by decide) (by decide) (by decide) (by decide) (hts (.fieldLink RX5 15 "CrateHelpers$Tree" "known" "I") (by decide +kernel)) (fun _ h9 => h9) dX5_nextFree_6 ?_
      rw [hkn]
      refine lv_icmp_ge (tgt := 69) hx hb dX5_nextFree_9 (by decide) (fun c_3 => absurd c_3 (nI_ge (by omega) (by omega))) (fun _ => ?_)
      refine lv_aload_n hx hb dX5_nextFree_12 rfl (lv_at hl 2 rfl) ?_
      refine vgS hx hb hts hi5 hown hK hP (T) (by have := (tr_o hT).1; show _ < 378; omega) (tr_o hT).2.1 (C := RX5) (T := TX5) (N := 16) rfl 2 (by decide) (by decide) (by decide) (by decide) (T + 3) rfl (hts (.fieldLink RX5 57 "CrateHelpers$Tree" "what" "[B") (by decide +kernel)) (fun _ h9 => h9) dX5_nextFree_13 ?_
      refine lv_iload_n hx hb dX5_nextFree_16 rfl (lv_at hl 0 rfl) ?_
      refine xbald hx hb hK hP (T + 3) (by have := (tr_o hT).1; show _ < 378; omega) (tr_o hT).2.2.2.2.1 hi3i dX5_nextFree_17 ?_
      rw [nI_clamp (n := i) (by omega)]
      refine lv_if_ne (tgt := 34) hx hb dX5_nextFree_18 (by decide) (fun c_4 => ?_) (fun c_4 => ?_)
      · refine lv_iconst (v := 0) hx hb dX5_nextFree_34 (by decide) ?_
        refine lv_istore_n (lv' := [(3, .int 0), (2, .int (nI i)), (1, .int b), (0, .ref (ad T))]) hx hb dX5_nextFree_35 rfl hl (by decide) rfl (fun ls hl => ?_)
        refine lv_iload_n hx hb dX5_nextFree_36 rfl (lv_at hl 0 rfl) ?_
        refine lv_if_eq (tgt := 63) hx hb dX5_nextFree_37 (by decide) (fun _ => ?_) (fun c_5 => absurd c_5 (by decide))
        refine lv_iinc (v := (nI (i + 1))) (lv' := [(2, .int (nI (i + 1))), (3, .int 0), (1, .int b), (0, .ref (ad T))]) hx hb dX5_nextFree_63 hl (k := 1) rfl (nI_1 i) (by decide) rfl (fun ls hl => ?_)
        refine lv_goto (tgt := 4) hx hb dX5_nextFree_66 (by decide) ?_
        exact ih1 (i + 1) b (by omega) (⟨by rw [← hinv1.1]; simp [nfr, c_4], hinv1.2⟩) H locs hP hS ls (lv_sub hl [0, 2, 3] rfl)
      · refine lv_aload_n hx hb dX5_nextFree_21 rfl (lv_at hl 2 rfl) ?_
        refine vgS hx hb hts hi5 hown hK hP (T) (by have := (tr_o hT).1; show _ < 378; omega) (tr_o hT).2.1 (C := RX5) (T := TX5) (N := 16) rfl 4 (by decide) (by decide) (by decide) (by decide) (T + 5) rfl (hts (.fieldLink RX5 63 "CrateHelpers$Tree" "stage" "[B") (by decide +kernel)) (fun _ h9 => h9) dX5_nextFree_22 ?_
        refine lv_iload_n hx hb dX5_nextFree_25 rfl (lv_at hl 0 rfl) ?_
        refine xbald hx hb hK hP (T + 5) (by have := (tr_o hT).1; show _ < 378; omega) (tr_o hT).2.2.2.2.2.2.1 hi5i dX5_nextFree_26 ?_
        rw [nI_clamp (n := i) (by omega)]
        refine lv_if_ne (tgt := 34) hx hb dX5_nextFree_27 (by decide) (fun c_6 => ?_) (fun c_6 => ?_)
        · refine lv_iconst (v := 0) hx hb dX5_nextFree_34 (by decide) ?_
          refine lv_istore_n (lv' := [(3, .int 0), (2, .int (nI i)), (1, .int b), (0, .ref (ad T))]) hx hb dX5_nextFree_35 rfl hl (by decide) rfl (fun ls hl => ?_)
          refine lv_iload_n hx hb dX5_nextFree_36 rfl (lv_at hl 0 rfl) ?_
          refine lv_if_eq (tgt := 63) hx hb dX5_nextFree_37 (by decide) (fun _ => ?_) (fun c_7 => absurd c_7 (by decide))
          refine lv_iinc (v := (nI (i + 1))) (lv' := [(2, .int (nI (i + 1))), (3, .int 0), (1, .int b), (0, .ref (ad T))]) hx hb dX5_nextFree_63 hl (k := 1) rfl (nI_1 i) (by decide) rfl (fun ls hl => ?_)
          refine lv_goto (tgt := 4) hx hb dX5_nextFree_66 (by decide) ?_
          exact ih1 (i + 1) b (by omega) (⟨by rw [← hinv1.1]; simp [nfr, c_4, c_6], hinv1.2⟩) H locs hP hS ls (lv_sub hl [0, 2, 3] rfl)
        · refine lv_iconst (v := 1) hx hb dX5_nextFree_30 (by decide) ?_
          refine lv_goto (tgt := 35) hx hb dX5_nextFree_31 (by decide) ?_
          refine lv_istore_n (lv' := [(3, .int 1), (2, .int (nI i)), (1, .int b), (0, .ref (ad T))]) hx hb dX5_nextFree_35 rfl hl (by decide) rfl (fun ls hl => ?_)
          refine lv_iload_n hx hb dX5_nextFree_36 rfl (lv_at hl 0 rfl) ?_
          refine lv_if_eq (tgt := 63) hx hb dX5_nextFree_37 (by decide) (fun c_8 => absurd c_8 (by decide)) (fun _ => ?_)
          refine lv_iload_n hx hb dX5_nextFree_40 rfl (lv_at hl 2 rfl) ?_
          refine lv_iconst (v := (-1)) hx hb dX5_nextFree_41 (by decide) ?_
          refine lv_icmp_eq (tgt := 61) hx hb dX5_nextFree_42 (by decide) (fun c_9 => ?_) (fun c_9 => ?_)
          · refine lv_iload_n hx hb dX5_nextFree_61 rfl (lv_at hl 1 rfl) ?_
            refine lv_istore_n (lv' := [(1, .int (nI i)), (3, .int 1), (2, .int (nI i)), (0, .ref (ad T))]) hx hb dX5_nextFree_62 rfl hl (by decide) rfl (fun ls hl => ?_)
            refine lv_iinc (v := (nI (i + 1))) (lv' := [(2, .int (nI (i + 1))), (1, .int (nI i)), (3, .int 1), (0, .ref (ad T))]) hx hb dX5_nextFree_63 hl (k := 2) rfl (nI_1 i) (by decide) rfl (fun ls hl => ?_)
            refine lv_goto (tgt := 4) hx hb dX5_nextFree_66 (by decide) ?_
            exact ih1 (i + 1) (nI i) (by omega) (⟨by rw [← hinv1.1]; simp [nfr, c_4, c_6, c_9], Or.inr hi1i⟩) H locs hP hS ls (lv_sub hl [0, 1, 3] rfl)
          · have hbb : vp_in b (ln (T + 1)) := hinv1.2.resolve_left c_9
            refine lv_aload_n hx hb dX5_nextFree_45 rfl (lv_at hl 3 rfl) ?_
            refine vgS hx hb hts hi5 hown hK hP (T) (by have := (tr_o hT).1; show _ < 378; omega) (tr_o hT).2.1 (C := RX5) (T := TX5) (N := 16) rfl 0 (by decide) (by decide) (by decide) (by decide) (T + 1) rfl (hts (.fieldLink RX5 49 "CrateHelpers$Tree" "place" "[J") (by decide +kernel)) (fun _ h9 => h9) dX5_nextFree_46 ?_
            refine lv_iload_n hx hb dX5_nextFree_49 rfl (lv_at hl 1 rfl) ?_
            refine xlald hx hb hK hP (T + 1) (by have := (tr_o hT).1; show _ < 378; omega) (tr_o hT).2.2.1 hi1i dX5_nextFree_50 ?_
            rw [nI_clamp (n := i) (by omega)]
            refine lv_aload_n hx hb dX5_nextFree_51 rfl (lv_at hl 3 rfl) ?_
            refine vgS hx hb hts hi5 hown hK hP (T) (by have := (tr_o hT).1; show _ < 378; omega) (tr_o hT).2.1 (C := RX5) (T := TX5) (N := 16) rfl 0 (by decide) (by decide) (by decide) (by decide) (T + 1) rfl (hts (.fieldLink RX5 49 "CrateHelpers$Tree" "place" "[J") (by decide +kernel)) (fun _ h9 => h9) dX5_nextFree_52 ?_
            refine lv_iload_n hx hb dX5_nextFree_55 rfl (lv_at hl 2 rfl) ?_
            refine xlald hx hb hK hP (T + 1) (by have := (tr_o hT).1; show _ < 378; omega) (tr_o hT).2.2.1 hbb dX5_nextFree_56 ?_
            refine W.lcmp hx hb dX5_nextFree_57 ?_
            refine lv_if_ge (tgt := 63) hx hb dX5_nextFree_58 (by decide) (fun c_10 => ?_) (fun c_10 => ?_)
            · refine lv_iinc (v := (nI (i + 1))) (lv' := [(2, .int (nI (i + 1))), (3, .int 1), (1, .int b), (0, .ref (ad T))]) hx hb dX5_nextFree_63 hl (k := 1) rfl (nI_1 i) (by decide) rfl (fun ls hl => ?_)
              refine lv_goto (tgt := 4) hx hb dX5_nextFree_66 (by decide) ?_
              exact ih1 (i + 1) b (by omega) (⟨by rw [← hinv1.1]; simp [nfr, c_4, c_6, c_9, (lg_lt.mp c_10)], hinv1.2⟩) H locs hP hS ls (lv_sub hl [0, 2, 3] rfl)
            · refine lv_iload_n hx hb dX5_nextFree_61 rfl (lv_at hl 1 rfl) ?_
              refine lv_istore_n (lv' := [(1, .int (nI i)), (3, .int 1), (2, .int (nI i)), (0, .ref (ad T))]) hx hb dX5_nextFree_62 rfl hl (by decide) rfl (fun ls hl => ?_)
              refine lv_iinc (v := (nI (i + 1))) (lv' := [(2, .int (nI (i + 1))), (1, .int (nI i)), (3, .int 1), (0, .ref (ad T))]) hx hb dX5_nextFree_63 hl (k := 2) rfl (nI_1 i) (by decide) rfl (fun ls hl => ?_)
              refine lv_goto (tgt := 4) hx hb dX5_nextFree_66 (by decide) ?_
              exact ih1 (i + 1) (nI i) (by omega) (⟨by rw [← hinv1.1]; simp [nfr, c_4, c_6, c_9, (Decidable.not_not.mp (fun h9 => c_10 (lg_lt.mpr h9)))], Or.inr hi1i⟩) H locs hP hS ls (lv_sub hl [0, 1, 3] rfl)
  exact lp1 (n) 0 (-1) (by omega) (⟨rfl, Or.inl rfl⟩) _ _ hP hS ls (lv_sub hl [0, 1, 2] rfl)

set_option maxHeartbeats 4000000 in
set_option maxRecDepth 100000 in
theorem c_X5_nextOfWalk (l : Launch) (D : va_G) (K : Nat → ClassId) (ad : Nat → Nat) (hap0 : apart ad (fun _ => True)) (T n : Nat) (hT : TrAt T) (hn : n ≤ lT T) (I : Nat → Nat → Int32) (G : Nat → Nat → Nat) (A : Nat → Nat → Int32) (L : Nat → Nat → Int64) (hkn : I T 9 = nI n) : Ci l D K ad yX5_nextOfWalk wsX5_nextOfWalk 0 0 [.ref (ad T)] (I, G, A, L) (fun (r : Int32) (u : Mem) => r = nwk A L T n 0 (-1) ∧ u = (I, G, A, L)) := by
  intro sz
  refine Met.ofW (cc := cX5_nextOfWalk) (maxL := 4) (ret := (some .int)) (by decide) rfl ?_
  intro p e s m args below meth c s₁ Bd hml hv0
  obtain ⟨rfl, hsz, hP, hK⟩ := hv0
  have hx := Bd.exec
  have hb := Bd.bytes
  have hr := Bd.returns
  have hts := atoms_spec (ws := wsX5_nextOfWalk) Bd.pre
  have hown : s.vm.findClass RX5 = some m.cls := findClass_of_methodNamed Bd.named
  have hlocks := Bd.notSynchronized
  have hi5 : ∀ w ∈ u_ws RX5 TX5 16, w ∈ wsX5_nextOfWalk := fun w h => List.mem_cons_of_mem _ (List.mem_append_right _ h)
  subst hsz
  have hap := vF_ap hap0 s.heap.size
  have hS : va_S (vF ad s.heap.size) s.heap s.heap [] := va_S.rf
  have hP : va_P D vwCl (VW K ad I G A L) s.heap := hP
  have hl := lv_entry ([.ref (ad T)]) (n := 4) (Nat.le_of_ble_eq_true rfl)
  rw [lg_entry_eq]
  generalize (lg_sl ([.ref (ad T)]) ++ List.replicate (4 - (lg_sl ([.ref (ad T)])).length) Slot.unset).toArray = ls at hl ⊢
  have hl : lv_has ls 4 [(0, .ref (ad T))] := hl
  have hl1 := (tr_l hT).2.2.2.2.2.2.2.2.2.2
  refine lv_iconst (v := (-1)) hx hb dX5_nextOfWalk_0 (by decide) ?_
  refine lv_istore_n (lv' := [(1, .int (-1)), (0, .ref (ad T))]) hx hb dX5_nextOfWalk_1 rfl hl (by decide) rfl (fun ls hl => ?_)
  refine lv_iconst (v := 0) hx hb dX5_nextOfWalk_2 (by decide) ?_
  refine lv_istore_n (lv' := [(2, .int 0), (1, .int (-1)), (0, .ref (ad T))]) hx hb dX5_nextOfWalk_3 rfl hl (by decide) rfl (fun ls hl => ?_)
  have kx1 : ∀ (b : Int32), b = nwk A L T n 0 (-1) → ∀ (H : Heap) (locs : List Loc), va_P D vwCl (VW K ad I G A L) H → va_S (vF ad s.heap.size) s.heap H locs → ∀ (ls : Array Slot), lv_has ls 4 [(1, .int b), (0, .ref (ad T))] → W p l e ({ frames := 0, cells := 0, slots := 0, locals := 0 }) s m ([.ref (ad T)] : List Value).toArray below meth c H locs 0 0 (MQ below (va_Qi (fun (r : Int32) (u : Mem) => r = nwk A L T n 0 (-1) ∧ u = (I, G, A, L)) (vB D K ad) (vF ad s.heap.size)) ([.ref (ad T)] : List Value).toArray s 0 0 (vF ad s.heap.size)) (F0 m 79 ls []) := by
    intro b hinv1 H locs hP hS ls hl
    refine lv_iload_n hx hb dX5_nextOfWalk_79 rfl (lv_at hl 0 rfl) ?_
    exact W.iret (v := b) hx hb hr (fun t ht hW => ⟨⟨b, (I, G, A, L), rfl, ⟨hinv1, rfl⟩, by rw [ht]; exact hP, va_K.moved hW.alike hK⟩, hS.F ht⟩) hS.2.2 dX5_nextOfWalk_80
  have lp1 : ∀ (k1 i : Nat) (b : Int32), i + k1 = n → nwk A L T k1 i b = nwk A L T n 0 (-1) ∧ (b = -1 ∨ vp_in b (ln (T + 1))) → ∀ (H : Heap) (locs : List Loc), va_P D vwCl (VW K ad I G A L) H → va_S (vF ad s.heap.size) s.heap H locs → ∀ (ls : Array Slot), lv_has ls 4 [(2, .int (nI i)), (1, .int b), (0, .ref (ad T))] → W p l e ({ frames := 0, cells := 0, slots := 0, locals := 0 }) s m ([.ref (ad T)] : List Value).toArray below meth c H locs 0 0 (MQ below (va_Qi (fun (r : Int32) (u : Mem) => r = nwk A L T n 0 (-1) ∧ u = (I, G, A, L)) (vB D K ad) (vF ad s.heap.size)) ([.ref (ad T)] : List Value).toArray s 0 0 (vF ad s.heap.size)) (F0 m 4 ls []) := by
    intro k1
    induction k1 with
    | zero =>
      intro i b hk1 hinv1 H locs hP hS ls hl
      obtain rfl : n = i := by omega
      refine lv_iload_n hx hb dX5_nextOfWalk_4 rfl (lv_at hl 0 rfl) ?_
      refine lv_aload_n hx hb dX5_nextOfWalk_5 rfl (lv_at hl 2 rfl) ?_
      refine vgI hx hb hts hi5 hown hK hP (T) (by have := (tr_o hT).1; show _ < 378; omega) (tr_o hT).2.1 (C := RX5) (T := TX5) (N := 16) rfl 9 (by decide) (by decide) (by decide) (by decide) (hts (.fieldLink RX5 15 "CrateHelpers$Tree" "known" "I") (by decide +kernel)) (fun _ h9 => h9) dX5_nextOfWalk_6 ?_
      rw [hkn]
      refine lv_icmp_ge (tgt := 79) hx hb dX5_nextOfWalk_9 (by decide) (fun _ => ?_) (fun c_2 => absurd (nI_le (Nat.le_refl _) (by omega)) c_2)
      exact kx1 b (hinv1.1) H locs hP hS ls (lv_sub hl [1, 2] rfl)
    | succ k1 ih1 =>
      intro i b hk1 hinv1 H locs hP hS ls hl
      have hlt1 : i < n := by omega
      have hi1i : vp_in (nI i) (ln (T + 1)) := by rw [(tr_l hT).1]; exact vp_in_nI (by omega) (by omega)
      have hi2i : vp_in (nI i) (ln (T + 2)) := by rw [(tr_l hT).2.1]; exact vp_in_nI (by omega) (by omega)
      have hi3i : vp_in (nI i) (ln (T + 3)) := by rw [(tr_l hT).2.2.1]; exact vp_in_nI (by omega) (by omega)
      have hi4i : vp_in (nI i) (ln (T + 4)) := by rw [(tr_l hT).2.2.2.1]; exact vp_in_nI (by omega) (by omega)
      have hi5i : vp_in (nI i) (ln (T + 5)) := by rw [(tr_l hT).2.2.2.2.1]; exact vp_in_nI (by omega) (by omega)
      have hi6i : vp_in (nI i) (ln (T + 6)) := by rw [(tr_l hT).2.2.2.2.2.1]; exact vp_in_nI (by omega) (by omega)
      have hi7i : vp_in (nI i) (ln (T + 7)) := by rw [(tr_l hT).2.2.2.2.2.2.1]; exact vp_in_nI (by omega) (by omega)
      have hi8i : vp_in (nI i) (ln (T + 8)) := by rw [(tr_l hT).2.2.2.2.2.2.2.1]; exact vp_in_nI (by omega) (by omega)
      refine lv_iload_n hx hb dX5_nextOfWalk_4 rfl (lv_at hl 0 rfl) ?_
      refine lv_aload_n hx hb dX5_nextOfWalk_5 rfl (lv_at hl 2 rfl) ?_
      refine vgI hx hb hts hi5 hown hK hP (T) (by have := (tr_o hT).1; show _ < 378; omega) (tr_o hT).2.1 (C := RX5) (T := TX5) (N := 16) rfl 9 (by decide) (by decide) (by decide) (by decide) (hts (.fieldLink RX5 15 "CrateHelpers$Tree" "known" "I") (by decide +kernel)) (fun _ h9 => h9) dX5_nextOfWalk_6 ?_
      rw [hkn]
      refine lv_icmp_ge (tgt := 79) hx hb dX5_nextOfWalk_9 (by decide) (fun c_3 => absurd c_3 (nI_ge (by omega) (by omega))) (fun _ => ?_)
      refine lv_aload_n hx hb dX5_nextOfWalk_12 rfl (lv_at hl 2 rfl) ?_
      refine vgS hx hb hts hi5 hown hK hP (T) (by have := (tr_o hT).1; show _ < 378; omega) (tr_o hT).2.1 (C := RX5) (T := TX5) (N := 16) rfl 7 (by decide) (by decide) (by decide) (by decide) (T + 8) rfl (hts (.fieldLink RX5 73 "CrateHelpers$Tree" "isReached" "[Z") (by decide +kernel)) (fun _ h9 => h9) dX5_nextOfWalk_13 ?_
      refine lv_iload_n hx hb dX5_nextOfWalk_16 rfl (lv_at hl 0 rfl) ?_
      refine xzald hx hb hK hP (T + 8) (by have := (tr_o hT).1; show _ < 378; omega) (tr_o hT).2.2.2.2.2.2.2.2.2.1 hi8i dX5_nextOfWalk_17 ?_
      rw [nI_clamp (n := i) (by omega)]
      refine lv_if_eq (tgt := 44) hx hb dX5_nextOfWalk_18 (by decide) (fun c_4 => ?_) (fun c_4 => ?_)
      · refine lv_iconst (v := 0) hx hb dX5_nextOfWalk_44 (by decide) ?_
        refine lv_istore_n (lv' := [(3, .int 0), (2, .int (nI i)), (1, .int b), (0, .ref (ad T))]) hx hb dX5_nextOfWalk_45 rfl hl (by decide) rfl (fun ls hl => ?_)
        refine lv_iload_n hx hb dX5_nextOfWalk_46 rfl (lv_at hl 0 rfl) ?_
        refine lv_if_eq (tgt := 73) hx hb dX5_nextOfWalk_47 (by decide) (fun _ => ?_) (fun c_5 => absurd c_5 (by decide))
        refine lv_iinc (v := (nI (i + 1))) (lv' := [(2, .int (nI (i + 1))), (3, .int 0), (1, .int b), (0, .ref (ad T))]) hx hb dX5_nextOfWalk_73 hl (k := 1) rfl (nI_1 i) (by decide) rfl (fun ls hl => ?_)
        refine lv_goto (tgt := 4) hx hb dX5_nextOfWalk_76 (by decide) ?_
        exact ih1 (i + 1) b (by omega) (⟨by rw [← hinv1.1]; simp [nwk, c_4], hinv1.2⟩) H locs hP hS ls (lv_sub hl [0, 2, 3] rfl)
      · refine lv_aload_n hx hb dX5_nextOfWalk_21 rfl (lv_at hl 2 rfl) ?_
        refine vgS hx hb hts hi5 hown hK hP (T) (by have := (tr_o hT).1; show _ < 378; omega) (tr_o hT).2.1 (C := RX5) (T := TX5) (N := 16) rfl 2 (by decide) (by decide) (by decide) (by decide) (T + 3) rfl (hts (.fieldLink RX5 57 "CrateHelpers$Tree" "what" "[B") (by decide +kernel)) (fun _ h9 => h9) dX5_nextOfWalk_22 ?_
        refine lv_iload_n hx hb dX5_nextOfWalk_25 rfl (lv_at hl 0 rfl) ?_
        refine xbald hx hb hK hP (T + 3) (by have := (tr_o hT).1; show _ < 378; omega) (tr_o hT).2.2.2.2.1 hi3i dX5_nextOfWalk_26 ?_
        rw [nI_clamp (n := i) (by omega)]
        refine lv_if_ne (tgt := 44) hx hb dX5_nextOfWalk_27 (by decide) (fun c_6 => ?_) (fun c_6 => ?_)
        · refine lv_iconst (v := 0) hx hb dX5_nextOfWalk_44 (by decide) ?_
          refine lv_istore_n (lv' := [(3, .int 0), (2, .int (nI i)), (1, .int b), (0, .ref (ad T))]) hx hb dX5_nextOfWalk_45 rfl hl (by decide) rfl (fun ls hl => ?_)
          refine lv_iload_n hx hb dX5_nextOfWalk_46 rfl (lv_at hl 0 rfl) ?_
          refine lv_if_eq (tgt := 73) hx hb dX5_nextOfWalk_47 (by decide) (fun _ => ?_) (fun c_7 => absurd c_7 (by decide))
          refine lv_iinc (v := (nI (i + 1))) (lv' := [(2, .int (nI (i + 1))), (3, .int 0), (1, .int b), (0, .ref (ad T))]) hx hb dX5_nextOfWalk_73 hl (k := 1) rfl (nI_1 i) (by decide) rfl (fun ls hl => ?_)
          refine lv_goto (tgt := 4) hx hb dX5_nextOfWalk_76 (by decide) ?_
          exact ih1 (i + 1) b (by omega) (⟨by rw [← hinv1.1]; simp [nwk, c_4, c_6], hinv1.2⟩) H locs hP hS ls (lv_sub hl [0, 2, 3] rfl)
        · refine lv_aload_n hx hb dX5_nextOfWalk_30 rfl (lv_at hl 2 rfl) ?_
          refine vgS hx hb hts hi5 hown hK hP (T) (by have := (tr_o hT).1; show _ < 378; omega) (tr_o hT).2.1 (C := RX5) (T := TX5) (N := 16) rfl 4 (by decide) (by decide) (by decide) (by decide) (T + 5) rfl (hts (.fieldLink RX5 63 "CrateHelpers$Tree" "stage" "[B") (by decide +kernel)) (fun _ h9 => h9) dX5_nextOfWalk_31 ?_
          refine lv_iload_n hx hb dX5_nextOfWalk_34 rfl (lv_at hl 0 rfl) ?_
          refine xbald hx hb hK hP (T + 5) (by have := (tr_o hT).1; show _ < 378; omega) (tr_o hT).2.2.2.2.2.2.1 hi5i dX5_nextOfWalk_35 ?_
          rw [nI_clamp (n := i) (by omega)]
          refine lv_iconst (v := 3) hx hb dX5_nextOfWalk_36 (by decide) ?_
          refine lv_icmp_eq (tgt := 44) hx hb dX5_nextOfWalk_37 (by decide) (fun c_8 => ?_) (fun c_8 => ?_)
          · refine lv_iconst (v := 0) hx hb dX5_nextOfWalk_44 (by decide) ?_
            refine lv_istore_n (lv' := [(3, .int 0), (2, .int (nI i)), (1, .int b), (0, .ref (ad T))]) hx hb dX5_nextOfWalk_45 rfl hl (by decide) rfl (fun ls hl => ?_)
            refine lv_iload_n hx hb dX5_nextOfWalk_46 rfl (lv_at hl 0 rfl) ?_
            refine lv_if_eq (tgt := 73) hx hb dX5_nextOfWalk_47 (by decide) (fun _ => ?_) (fun c_9 => absurd c_9 (by decide))
            refine lv_iinc (v := (nI (i + 1))) (lv' := [(2, .int (nI (i + 1))), (3, .int 0), (1, .int b), (0, .ref (ad T))]) hx hb dX5_nextOfWalk_73 hl (k := 1) rfl (nI_1 i) (by decide) rfl (fun ls hl => ?_)
            refine lv_goto (tgt := 4) hx hb dX5_nextOfWalk_76 (by decide) ?_
            exact ih1 (i + 1) b (by omega) (⟨by rw [← hinv1.1]; simp [nwk, c_4, c_6, c_8], hinv1.2⟩) H locs hP hS ls (lv_sub hl [0, 2, 3] rfl)
          · refine lv_iconst (v := 1) hx hb dX5_nextOfWalk_40 (by decide) ?_
            refine lv_goto (tgt := 45) hx hb dX5_nextOfWalk_41 (by decide) ?_
            refine lv_istore_n (lv' := [(3, .int 1), (2, .int (nI i)), (1, .int b), (0, .ref (ad T))]) hx hb dX5_nextOfWalk_45 rfl hl (by decide) rfl (fun ls hl => ?_)
            refine lv_iload_n hx hb dX5_nextOfWalk_46 rfl (lv_at hl 0 rfl) ?_
            refine lv_if_eq (tgt := 73) hx hb dX5_nextOfWalk_47 (by decide) (fun c_10 => absurd c_10 (by decide)) (fun _ => ?_)
            refine lv_iload_n hx hb dX5_nextOfWalk_50 rfl (lv_at hl 2 rfl) ?_
            refine lv_iconst (v := (-1)) hx hb dX5_nextOfWalk_51 (by decide) ?_
            refine lv_icmp_eq (tgt := 71) hx hb dX5_nextOfWalk_52 (by decide) (fun c_11 => ?_) (fun c_11 => ?_)
            · refine lv_iload_n hx hb dX5_nextOfWalk_71 rfl (lv_at hl 1 rfl) ?_
              refine lv_istore_n (lv' := [(1, .int (nI i)), (3, .int 1), (2, .int (nI i)), (0, .ref (ad T))]) hx hb dX5_nextOfWalk_72 rfl hl (by decide) rfl (fun ls hl => ?_)
              refine lv_iinc (v := (nI (i + 1))) (lv' := [(2, .int (nI (i + 1))), (1, .int (nI i)), (3, .int 1), (0, .ref (ad T))]) hx hb dX5_nextOfWalk_73 hl (k := 2) rfl (nI_1 i) (by decide) rfl (fun ls hl => ?_)
              refine lv_goto (tgt := 4) hx hb dX5_nextOfWalk_76 (by decide) ?_
              exact ih1 (i + 1) (nI i) (by omega) (⟨by rw [← hinv1.1]; simp [nwk, c_4, c_6, c_8, c_11], Or.inr hi1i⟩) H locs hP hS ls (lv_sub hl [0, 1, 3] rfl)
            · have hbb : vp_in b (ln (T + 1)) := hinv1.2.resolve_left c_11
              refine lv_aload_n hx hb dX5_nextOfWalk_55 rfl (lv_at hl 3 rfl) ?_
              refine vgS hx hb hts hi5 hown hK hP (T) (by have := (tr_o hT).1; show _ < 378; omega) (tr_o hT).2.1 (C := RX5) (T := TX5) (N := 16) rfl 0 (by decide) (by decide) (by decide) (by decide) (T + 1) rfl (hts (.fieldLink RX5 49 "CrateHelpers$Tree" "place" "[J") (by decide +kernel)) (fun _ h9 => h9) dX5_nextOfWalk_56 ?_
              refine lv_iload_n hx hb dX5_nextOfWalk_59 rfl (lv_at hl 1 rfl) ?_
              refine xlald hx hb hK hP (T + 1) (by have := (tr_o hT).1; show _ < 378; omega) (tr_o hT).2.2.1 hi1i dX5_nextOfWalk_60 ?_
              rw [nI_clamp (n := i) (by omega)]
              refine lv_aload_n hx hb dX5_nextOfWalk_61 rfl (lv_at hl 3 rfl) ?_
              refine vgS hx hb hts hi5 hown hK hP (T) (by have := (tr_o hT).1; show _ < 378; omega) (tr_o hT).2.1 (C := RX5) (T := TX5) (N := 16) rfl 0 (by decide) (by decide) (by decide) (by decide) (T + 1) rfl (hts (.fieldLink RX5 49 "CrateHelpers$Tree" "place" "[J") (by decide +kernel)) (fun _ h9 => h9) dX5_nextOfWalk_62 ?_
              refine lv_iload_n hx hb dX5_nextOfWalk_65 rfl (lv_at hl 2 rfl) ?_
              refine xlald hx hb hK hP (T + 1) (by have := (tr_o hT).1; show _ < 378; omega) (tr_o hT).2.2.1 hbb dX5_nextOfWalk_66 ?_
              refine W.lcmp hx hb dX5_nextOfWalk_67 ?_
              refine lv_if_ge (tgt := 73) hx hb dX5_nextOfWalk_68 (by decide) (fun c_12 => ?_) (fun c_12 => ?_)
              · refine lv_iinc (v := (nI (i + 1))) (lv' := [(2, .int (nI (i + 1))), (3, .int 1), (1, .int b), (0, .ref (ad T))]) hx hb dX5_nextOfWalk_73 hl (k := 1) rfl (nI_1 i) (by decide) rfl (fun ls hl => ?_)
                refine lv_goto (tgt := 4) hx hb dX5_nextOfWalk_76 (by decide) ?_
                exact ih1 (i + 1) b (by omega) (⟨by rw [← hinv1.1]; simp [nwk, c_4, c_6, c_8, c_11, (lg_lt.mp c_12)], hinv1.2⟩) H locs hP hS ls (lv_sub hl [0, 2, 3] rfl)
              · refine lv_iload_n hx hb dX5_nextOfWalk_71 rfl (lv_at hl 1 rfl) ?_
                refine lv_istore_n (lv' := [(1, .int (nI i)), (3, .int 1), (2, .int (nI i)), (0, .ref (ad T))]) hx hb dX5_nextOfWalk_72 rfl hl (by decide) rfl (fun ls hl => ?_)
                refine lv_iinc (v := (nI (i + 1))) (lv' := [(2, .int (nI (i + 1))), (1, .int (nI i)), (3, .int 1), (0, .ref (ad T))]) hx hb dX5_nextOfWalk_73 hl (k := 2) rfl (nI_1 i) (by decide) rfl (fun ls hl => ?_)
                refine lv_goto (tgt := 4) hx hb dX5_nextOfWalk_76 (by decide) ?_
                exact ih1 (i + 1) (nI i) (by omega) (⟨by rw [← hinv1.1]; simp [nwk, c_4, c_6, c_8, c_11, (Decidable.not_not.mp (fun h9 => c_12 (lg_lt.mpr h9)))], Or.inr hi1i⟩) H locs hP hS ls (lv_sub hl [0, 1, 3] rfl)
  exact lp1 (n) 0 (-1) (by omega) (⟨rfl, Or.inl rfl⟩) _ _ hP hS ls (lv_sub hl [0, 1, 2] rfl)
