/-! TEAMS. A team lies in 6 slots from E on: object, failAt, schedule, done, idle, replaced -/
def TeAt (E : Nat) : Prop := E = 2 ∨ E = 8
theorem te_o {E : Nat} (h : TeAt E) : E + 5 < 14 ∧ kd E = 4 ∧ kd (E + 1) = 8 ∧ kd (E + 2) = 8 ∧ kd (E + 3) = 8 ∧ kd (E + 4) = 8 ∧ kd (E + 5) = 8 ∧ ln (E + 1) = 5 ∧ ln (E + 2) = 200 ∧ ln (E + 3) = 5 ∧ ln (E + 4) = 5 ∧ ln (E + 5) = 5 := by
  rcases h with rfl | rfl <;> decide +kernel
theorem ia_f {E : Nat} (h : TeAt E) : IA (E + 1) 5 := ⟨by have := (te_o h).1; show _ < 378; omega, (te_o h).2.2.1, (te_o h).2.2.2.2.2.2.2.1⟩
theorem xor_pos {a b : Nat} (ha : a < 2 ^ 31) (hb : b < 2 ^ 31) : 0 ≤ nI a ^^^ nI b := by
  have e : nI a ^^^ nI b = nI (a ^^^ b) := by
    apply Int32.toBitVec_inj.mp
    apply BitVec.eq_of_toNat_eq
    simp [nI, Int32.toBitVec_ofNat']
  rw [e]
  exact nI_pos' (Nat.xor_lt_two_pow ha hb)

set_option maxHeartbeats 4000000 in
set_option maxRecDepth 100000 in
theorem c_floorMod (l : Launch) (D : va_G) (K : Nat → ClassId) (ad : Nat → Nat) (hap0 : apart ad (fun _ => True)) (a b : Nat) (ha : a < 2 ^ 31) (hb0 : 0 < b) (hb2 : b < 2 ^ 31) (I : Nat → Nat → Int32) (G : Nat → Nat → Nat) (A : Nat → Nat → Int32) (L : Nat → Nat → Int64)  : Ci l D K ad yJ9_floorMod_7cf53 wsJ9_floorMod_7cf53 0 0 [.int (nI a), .int (nI b)] (I, G, A, L) (fun (r : Int32) (u : Mem) => r = nI (a % b) ∧ u = (I, G, A, L)) := by
  intro sz
  refine va_MetF (cc := cJ9_floorMod_7cf53) (maxL := 3) (ret := (some .int)) (by decide +kernel) rfl ?_
  intro p e s m args below meth c s₁ Bd hml hv0
  obtain ⟨rfl, hsz, hP, hK⟩ := hv0
  have hx := Bd.exec
  have hb := Bd.bytes
  have hr := Bd.returns
  have hts := atoms_spec (ws := wsJ9_floorMod_7cf53) Bd.pre
  have hown : s.vm.findClass RJ9 = some m.cls := findClass_of_methodNamed Bd.named
  have hlocks := Bd.notSynchronized
  subst hsz
  have hap := vF_ap hap0 s.heap.size
  have hS : va_S (vF ad s.heap.size) s.heap s.heap [] := va_S.rf
  have hP : va_P D vwCl (VW K ad I G A L) s.heap := hP
  have hl := lv_entry ([.int (nI a), .int (nI b)]) (n := 3) (Nat.le_of_ble_eq_true rfl)
  rw [lg_entry_eq]
  generalize (lg_sl ([.int (nI a), .int (nI b)]) ++ List.replicate (3 - (lg_sl ([.int (nI a), .int (nI b)])).length) Slot.unset).toArray = ls at hl ⊢
  have hl : lv_has ls 3 [(0, .int (nI a)), (1, .int (nI b))] := hl
  refine lv_iload_n hx hb dJ9_floorMod_7cf53_0 rfl (lv_at hl 0 rfl) ?_
  refine lv_iload_n hx hb dJ9_floorMod_7cf53_1 rfl (lv_at hl 1 rfl) ?_
  refine lv_irem hx hb dJ9_floorMod_7cf53_2 (nI_ne0 hb0 hb2) ?_
  rw [pk_rem ha hb0 hb2]
  refine lv_istore_n (lv' := [(2, .int (nI (a % b))), (0, .int (nI a)), (1, .int (nI b))]) hx hb dJ9_floorMod_7cf53_3 rfl hl (by decide) rfl (fun ls hl => ?_)
  refine lv_iload_n hx hb dJ9_floorMod_7cf53_4 rfl (lv_at hl 1 rfl) ?_
  refine lv_iload_n hx hb dJ9_floorMod_7cf53_5 rfl (lv_at hl 2 rfl) ?_
  refine lv_ixor hx hb dJ9_floorMod_7cf53_6 ?_
  refine lv_if_ge (tgt := 18) hx hb dJ9_floorMod_7cf53_7 (by decide) (fun _ => ?_) (fun c9 => absurd (xor_pos ha hb2) c9)
  refine lv_iload_n hx hb dJ9_floorMod_7cf53_18 rfl (lv_at hl 0 rfl) ?_
  exact W.iret (v := (nI (a % b))) hx hb hr (fun t9 ht9 hW9 => ⟨⟨(nI (a % b)), (I, G, A, L), rfl, ⟨rfl, rfl⟩, by rw [ht9]; exact hP, va_K.moved hW9.alike hK⟩, hS.F ht9⟩) hS.2.2 dJ9_floorMod_7cf53_19

set_option maxHeartbeats 4000000 in
set_option maxRecDepth 100000 in
theorem c_X4_become (l : Launch) (D : va_G) (K : Nat → ClassId) (ad : Nat → Nat) (hap0 : apart ad (fun _ => True)) (E : Nat) (hE : TeAt E) (w : Int32) (I : Nat → Nat → Int32) (G : Nat → Nat → Nat) (A : Nat → Nat → Int32) (L : Nat → Nat → Int64)  : Cv l D K ad yX4_become wsX4_become 1 40 [.ref (ad E), .int w] (I, G, A, L) (fun (u : Mem) => u = (up2 I E 0 w, G, fil A (E + 1) 5 0, L)) := by
  intro sz
  refine Met.ofW (cc := cX4_become) (maxL := 2) (ret := none) (by decide) rfl ?_
  intro p e s m args below meth c s₁ Bd hml hv0
  obtain ⟨rfl, hsz, hP, hK⟩ := hv0
  have hx := Bd.exec
  have hb := Bd.bytes
  have hr := Bd.returns
  have hts := atoms_spec (ws := wsX4_become) Bd.pre
  have hown : s.vm.findClass RX4 = some m.cls := findClass_of_methodNamed Bd.named
  have hlocks := Bd.notSynchronized
  have hi4 : ∀ w ∈ u_ws RX4 TX4 7, w ∈ wsX4_become := fun w h => List.mem_cons_of_mem _ (List.mem_append_right _ h)
  subst hsz
  have hap := vF_ap hap0 s.heap.size
  have hS : va_S (vF ad s.heap.size) s.heap s.heap [] := va_S.rf
  have hP : va_P D vwCl (VW K ad I G A L) s.heap := hP
  have hl := lv_entry ([.ref (ad E), .int w]) (n := 2) (Nat.le_of_ble_eq_true rfl)
  rw [lg_entry_eq]
  generalize (lg_sl ([.ref (ad E), .int w]) ++ List.replicate (2 - (lg_sl ([.ref (ad E), .int w])).length) Slot.unset).toArray = ls at hl ⊢
  have hl : lv_has ls 2 [(0, .ref (ad E)), (1, .int w)] := hl
  refine lv_aload_n hx hb dX4_become_0 rfl (lv_at hl 0 rfl) ?_
  refine lv_iload_n hx hb dX4_become_1 rfl (lv_at hl 1 rfl) ?_
  refine vpI (v := w) (ty := .int) hx hb hts hi4 tyX4 tyX4_ok nmX4 hown hK hP hap hS (E) (by have := (te_o hE).1; show _ < 378; omega) (te_o hE).2.1 (C := RX4) (T := TX4) (N := 7) rfl 0 (by decide) (by decide) (by decide) (by decide) (hts (.fieldLink RX4 9 "CrateHelpers$Team" "size" "I") (by decide +kernel)) (fun _ h9 => h9) rfl (by decide +kernel) rfl rfl dX4_become_2 (fun H locs hP hS => ?_)
  obtain ⟨I1, eI1⟩ : ∃ z, z = up2 I E 0 w := ⟨_, rfl⟩
  rw [← eI1] at hP
  have hP : va_P D vwCl (VW K ad I1 G A L) H := hP
  refine lv_aload_n hx hb dX4_become_5 rfl (lv_at hl 0 rfl) ?_
  refine vgS hx hb hts hi4 hown hK hP (E) (by have := (te_o hE).1; show _ < 378; omega) (te_o hE).2.1 (C := RX4) (T := TX4) (N := 7) rfl 2 (by decide) (by decide) (by decide) (by decide) (E + 1) rfl (hts (.fieldLink RX4 18 "CrateHelpers$Team" "failAt" "[I") (by decide +kernel)) (fun _ h9 => h9) dX4_become_6 ?_
  refine lv_iconst (v := 0) hx hb dX4_become_9 (by decide) ?_
  refine vcSv (As := [.ref (ad (E + 1)), .int 0]) (rest := []) ⟨hx, hb, hml, hown, hts⟩ (c_fill l D K ad hap0 (E + 1) 5 0 (ia_f hE) (by decide) I1 G A L) (va_cwS 2 hts gX4_become_J7_fill_53178 rfl rfl rfl (by decide +kernel) ⟨Nat.le_of_ble_eq_true rfl, Nat.le_of_ble_eq_true rfl⟩) hK hP hS rfl hl.1 (Nat.le_of_ble_eq_true rfl) (Nat.le_of_ble_eq_true rfl) (Nat.le_of_ble_eq_true rfl) dX4_become_10 (fun u3 H locs hw hP hS => ?_) rfl
  obtain ⟨I4, G5, A6, L7⟩ := u3
  have hP : va_P D vwCl (VW K ad I4 G5 A6 L7) H := hP
  exact W.vret hx hb hr (fun t9 ht9 hW9 => ⟨⟨(I4, G5, A6, L7), rfl, by rw [hw, eI1], by rw [ht9]; exact hP, va_K.moved hW9.alike hK⟩, hS.F ht9⟩) hS.2.2 dX4_become_13

set_option maxHeartbeats 4000000 in
set_option maxRecDepth 100000 in
theorem c_X4_whoHasTurn (l : Launch) (D : va_G) (K : Nat → ClassId) (ad : Nat → Nat) (hap0 : apart ad (fun _ => True)) (E : Nat) (hE : TeAt E) (t k z : Nat) (ht : t < 2 ^ 30) (hk : k ≤ 200) (hz1 : 1 ≤ z) (hz5 : z ≤ 5) (I : Nat → Nat → Int32) (G : Nat → Nat → Nat) (A : Nat → Nat → Int32) (L : Nat → Nat → Int64) (hz0 : I E 0 = nI z) (hk0 : I E 1 = nI k) : Ci l D K ad yX4_whoHasTurn wsX4_whoHasTurn 1 40 [.ref (ad E), .int (nI t)] (I, G, A, L) (fun (r : Int32) (u : Mem) => r = (if t < k then (if A (E + 2) t < nI z then A (E + 2) t else 0) else nI ((t - k) % z)) ∧ u = (I, G, A, L)) := by
  intro sz
  refine Met.ofW (cc := cX4_whoHasTurn) (maxL := 2) (ret := (some .int)) (by decide) rfl ?_
  intro p e s m args below meth c s₁ Bd hml hv0
  obtain ⟨rfl, hsz, hP, hK⟩ := hv0
  have hx := Bd.exec
  have hb := Bd.bytes
  have hr := Bd.returns
  have hts := atoms_spec (ws := wsX4_whoHasTurn) Bd.pre
  have hown : s.vm.findClass RX4 = some m.cls := findClass_of_methodNamed Bd.named
  have hlocks := Bd.notSynchronized
  have hi4 : ∀ w ∈ u_ws RX4 TX4 7, w ∈ wsX4_whoHasTurn := fun w h => List.mem_cons_of_mem _ (List.mem_append_right _ h)
  subst hsz
  have hap := vF_ap hap0 s.heap.size
  have hS : va_S (vF ad s.heap.size) s.heap s.heap [] := va_S.rf
  have hP : va_P D vwCl (VW K ad I G A L) s.heap := hP
  have hl := lv_entry ([.ref (ad E), .int (nI t)]) (n := 2) (Nat.le_of_ble_eq_true rfl)
  rw [lg_entry_eq]
  generalize (lg_sl ([.ref (ad E), .int (nI t)]) ++ List.replicate (2 - (lg_sl ([.ref (ad E), .int (nI t)])).length) Slot.unset).toArray = ls at hl ⊢
  have hl : lv_has ls 2 [(0, .ref (ad E)), (1, .int (nI t))] := hl
  refine lv_iload_n hx hb dX4_whoHasTurn_0 rfl (lv_at hl 1 rfl) ?_
  refine lv_if_lt (tgt := 36) hx hb dX4_whoHasTurn_1 (by decide) (fun c9 => absurd c9 (nI_pos (by omega))) (fun _ => ?_)
  refine lv_iload_n hx hb dX4_whoHasTurn_4 rfl (lv_at hl 1 rfl) ?_
  refine lv_aload_n hx hb dX4_whoHasTurn_5 rfl (lv_at hl 0 rfl) ?_
  refine vgI hx hb hts hi4 hown hK hP (E) (by have := (te_o hE).1; show _ < 378; omega) (te_o hE).2.1 (C := RX4) (T := TX4) (N := 7) rfl 1 (by decide) (by decide) (by decide) (by decide) (hts (.fieldLink RX4 15 "CrateHelpers$Team" "scheduled" "I") (by decide +kernel)) (fun _ h9 => h9) dX4_whoHasTurn_6 ?_
  rw [hk0]
  refine lv_icmp_ge (tgt := 36) hx hb dX4_whoHasTurn_9 (by decide) (fun c_1 => ?_) (fun c_1 => ?_)
  · have hkt : k ≤ t := (nI_leI (by omega) (by omega)).mp c_1
    refine lv_aload_n hx hb dX4_whoHasTurn_36 rfl (lv_at hl 0 rfl) ?_
    refine vgI hx hb hts hi4 hown hK hP (E) (by have := (te_o hE).1; show _ < 378; omega) (te_o hE).2.1 (C := RX4) (T := TX4) (N := 7) rfl 0 (by decide) (by decide) (by decide) (by decide) (hts (.fieldLink RX4 9 "CrateHelpers$Team" "size" "I") (by decide +kernel)) (fun _ h9 => h9) dX4_whoHasTurn_37 ?_
    rw [hz0]
    refine lv_iconst (v := 1) hx hb dX4_whoHasTurn_40 (by decide) ?_
    refine lv_icmp_le (tgt := 60) hx hb dX4_whoHasTurn_41 (by decide) (fun c_2 => ?_) (fun c_2 => ?_)
    · have hz9 : z ≤ 1 := (nI_leI (b := 1) (by omega) (by omega)).mp c_2
      refine lv_iconst (v := 0) hx hb dX4_whoHasTurn_60 (by decide) ?_
      exact W.iret (v := 0) hx hb hr (fun t9 ht9 hW9 => ⟨⟨0, (I, G, A, L), rfl, ⟨by rw [if_neg (by omega), show z = 1 by omega, Nat.mod_one]; rfl, rfl⟩, by rw [ht9]; exact hP, va_K.moved hW9.alike hK⟩, hS.F ht9⟩) hS.2.2 dX4_whoHasTurn_61
    · refine lv_iload_n hx hb dX4_whoHasTurn_44 rfl (lv_at hl 1 rfl) ?_
      refine lv_aload_n hx hb dX4_whoHasTurn_45 rfl (lv_at hl 0 rfl) ?_
      refine vgI hx hb hts hi4 hown hK hP (E) (by have := (te_o hE).1; show _ < 378; omega) (te_o hE).2.1 (C := RX4) (T := TX4) (N := 7) rfl 1 (by decide) (by decide) (by decide) (by decide) (hts (.fieldLink RX4 15 "CrateHelpers$Team" "scheduled" "I") (by decide +kernel)) (fun _ h9 => h9) dX4_whoHasTurn_46 ?_
      rw [hk0]
      refine lv_isub hx hb dX4_whoHasTurn_49 ?_
      rw [pk_sub hkt]
      refine lv_aload_n hx hb dX4_whoHasTurn_50 rfl (lv_at hl 0 rfl) ?_
      refine vgI hx hb hts hi4 hown hK hP (E) (by have := (te_o hE).1; show _ < 378; omega) (te_o hE).2.1 (C := RX4) (T := TX4) (N := 7) rfl 0 (by decide) (by decide) (by decide) (by decide) (hts (.fieldLink RX4 9 "CrateHelpers$Team" "size" "I") (by decide +kernel)) (fun _ h9 => h9) dX4_whoHasTurn_51 ?_
      rw [hz0]
      refine vcS (As := [.int (nI (t - k)), .int (nI z)]) (rest := []) ⟨hx, hb, hml, hown, hts⟩ (c_floorMod l D K ad hap0 (t - k) z (by omega) (by omega) (by omega) I G A L) (va_cwS 2 hts gX4_whoHasTurn_J9_floorMod_7cf53 rfl rfl rfl (by decide +kernel) ⟨Nat.le_of_ble_eq_true rfl, Nat.le_of_ble_eq_true rfl⟩) hK hP hS rfl hl.1 (Nat.le_of_ble_eq_true rfl) (Nat.le_of_ble_eq_true rfl) (Nat.le_of_ble_eq_true rfl) dX4_whoHasTurn_54 (fun r3 u4 H locs hw hP hS => ?_) rfl
      obtain ⟨hr3, rfl⟩ := hw
      have hP : va_P D vwCl (VW K ad I G A L) H := hP
      subst hr3
      refine lv_goto (tgt := 61) hx hb dX4_whoHasTurn_57 (by decide) ?_
      exact W.iret (v := (nI ((t - k) % z))) hx hb hr (fun t9 ht9 hW9 => ⟨⟨(nI ((t - k) % z)), (I, G, A, L), rfl, ⟨by rw [if_neg (by omega)], rfl⟩, by rw [ht9]; exact hP, va_K.moved hW9.alike hK⟩, hS.F ht9⟩) hS.2.2 dX4_whoHasTurn_61
  · have hkt : t < k := by { rcases Nat.lt_or_ge t k with h | h; exact h; exact absurd (nI_le h (by omega)) c_1 }
    have hit : vp_in (nI t) (ln (E + 2)) := by rw [(te_o hE).2.2.2.2.2.2.2.2.1]; exact vp_in_nI (by omega) (by omega)
    refine lv_aload_n hx hb dX4_whoHasTurn_12 rfl (lv_at hl 0 rfl) ?_
    refine vgS hx hb hts hi4 hown hK hP (E) (by have := (te_o hE).1; show _ < 378; omega) (te_o hE).2.1 (C := RX4) (T := TX4) (N := 7) rfl 3 (by decide) (by decide) (by decide) (by decide) (E + 2) rfl (hts (.fieldLink RX4 22 "CrateHelpers$Team" "schedule" "[I") (by decide +kernel)) (fun _ h9 => h9) dX4_whoHasTurn_13 ?_
    refine lv_iload_n hx hb dX4_whoHasTurn_16 rfl (lv_at hl 1 rfl) ?_
    refine xiald hx hb hK hP (E + 2) (by have := (te_o hE).1; show _ < 378; omega) (te_o hE).2.2.2.1 hit dX4_whoHasTurn_17 ?_
    rw [nI_clamp (n := t) (by omega)]
    refine lv_aload_n hx hb dX4_whoHasTurn_18 rfl (lv_at hl 0 rfl) ?_
    refine vgI hx hb hts hi4 hown hK hP (E) (by have := (te_o hE).1; show _ < 378; omega) (te_o hE).2.1 (C := RX4) (T := TX4) (N := 7) rfl 0 (by decide) (by decide) (by decide) (by decide) (hts (.fieldLink RX4 9 "CrateHelpers$Team" "size" "I") (by decide +kernel)) (fun _ h9 => h9) dX4_whoHasTurn_19 ?_
    rw [hz0]
    refine lv_icmp_ge (tgt := 34) hx hb dX4_whoHasTurn_22 (by decide) (fun c_5 => ?_) (fun c_5 => ?_)
    · refine lv_iconst (v := 0) hx hb dX4_whoHasTurn_34 (by decide) ?_
      exact W.iret (v := 0) hx hb hr (fun t9 ht9 hW9 => ⟨⟨0, (I, G, A, L), rfl, ⟨by rw [if_pos hkt, if_neg (Int32.not_lt.mpr c_5)], rfl⟩, by rw [ht9]; exact hP, va_K.moved hW9.alike hK⟩, hS.F ht9⟩) hS.2.2 dX4_whoHasTurn_35
    · refine lv_aload_n hx hb dX4_whoHasTurn_25 rfl (lv_at hl 0 rfl) ?_
      refine vgS hx hb hts hi4 hown hK hP (E) (by have := (te_o hE).1; show _ < 378; omega) (te_o hE).2.1 (C := RX4) (T := TX4) (N := 7) rfl 3 (by decide) (by decide) (by decide) (by decide) (E + 2) rfl (hts (.fieldLink RX4 22 "CrateHelpers$Team" "schedule" "[I") (by decide +kernel)) (fun _ h9 => h9) dX4_whoHasTurn_26 ?_
      refine lv_iload_n hx hb dX4_whoHasTurn_29 rfl (lv_at hl 1 rfl) ?_
      refine xiald hx hb hK hP (E + 2) (by have := (te_o hE).1; show _ < 378; omega) (te_o hE).2.2.2.1 hit dX4_whoHasTurn_30 ?_
      rw [nI_clamp (n := t) (by omega)]
      refine lv_goto (tgt := 35) hx hb dX4_whoHasTurn_31 (by decide) ?_
      exact W.iret (v := (A (E + 2) t)) hx hb hr (fun t9 ht9 hW9 => ⟨⟨(A (E + 2) t), (I, G, A, L), rfl, ⟨by rw [if_pos hkt, if_pos (Int32.not_le.mp c_5)], rfl⟩, by rw [ht9]; exact hP, va_K.moved hW9.alike hK⟩, hS.F ht9⟩) hS.2.2 dX4_whoHasTurn_35
