/-- is the rule broken? (1: it is) -/
def brk (I A : Nat → Nat → Int32) (q v z n : Nat) : Int32 := if I q 0 = 0 then ex1 (pov I A q v n) 6 0 else if I q 0 = 1 then (if I q 1 < sm (tl A q v z) n 0 0 then 1 else 0) else if I q 0 = 2 then (if sm (tg A q v z) n 0 0 < I q 1 then 1 else 0) else if I q 0 = 3 then (if I q 1 < sm (tl A q v z) n 0 0 then 1 else if sm (tg A q v z) n 0 0 < I q 1 then 1 else 0) else if I q 0 = 4 then ex1 (pna A q v n 1) n 0 else if I q 0 = 5 then ex1 (pna A q v n (if 1 < I q 1 then I q 1 else 1)) n 0 else if I q 0 = 6 then ex1 (pst I A q v) (n - 1) 0 else if I q 0 = 7 then (if sm (tw A q v) n 0 0 < I q 1 then 1 else 0) else 0
theorem sw_ne7 {x : Int32} (h : x.toInt < 0 ∨ 7 < x.toInt) : x ≠ 0 ∧ x ≠ 1 ∧ x ≠ 2 ∧ x ≠ 3 ∧ x ≠ 4 ∧ x ≠ 5 ∧ x ≠ 6 ∧ x ≠ 7 := by
  refine ⟨?_, ?_, ?_, ?_, ?_, ?_, ?_, ?_⟩ <;> (rintro rfl; revert h; decide)

set_option maxHeartbeats 4000000 in
set_option maxRecDepth 100000 in
/-- is the rule broken? -/
theorem c_X2_isBroken (l : Launch) (D : va_G) (K : Nat → ClassId) (ad : Nat → Nat) (hap0 : apart ad (fun _ => True)) (q v z n : Nat) (hq : RuAt q) (hv : IA v 6) (hz : IA z 6) (I : Nat → Nat → Int32) (G : Nat → Nat → Nat) (A : Nat → Nat → Int32) (L : Nat → Nat → Int64) (hw : RuW I A q n) : Ci l D K ad yX2_isBroken wsX2_isBroken 2 80 [.ref (ad q), .ref (ad v), .ref (ad z)] (I, G, A, L) (fun (r : Int32) (u : Mem) => r = brk I A q v z n ∧ u = (I, G, A, L)) := by
  intro sz
  refine Met.ofW (cc := cX2_isBroken) (maxL := 3) (ret := (some .boolean)) (by decide) rfl ?_
  intro p e s m args below meth c s₁ Bd hml hv0
  obtain ⟨rfl, hsz, hP, hK⟩ := hv0
  have hx := Bd.exec
  have hb := Bd.bytes
  have hr := Bd.returns
  have hts := atoms_spec (ws := wsX2_isBroken) Bd.pre
  have hown : s.vm.findClass RX2 = some m.cls := findClass_of_methodNamed Bd.named
  have hlocks := Bd.notSynchronized
  have hi2 : ∀ w ∈ u_ws RX2 TX2 7, w ∈ wsX2_isBroken := fun w h => List.mem_cons_of_mem _ (List.mem_append_right _ h)
  subst hsz
  have hap := vF_ap hap0 s.heap.size
  have hS : va_S (vF ad s.heap.size) s.heap s.heap [] := va_S.rf
  have hP : va_P D vwCl (VW K ad I G A L) s.heap := hP
  have hl := lv_entry ([.ref (ad q), .ref (ad v), .ref (ad z)]) (n := 3) (Nat.le_of_ble_eq_true rfl)
  rw [lg_entry_eq]
  generalize (lg_sl ([.ref (ad q), .ref (ad v), .ref (ad z)]) ++ List.replicate (3 - (lg_sl ([.ref (ad q), .ref (ad v), .ref (ad z)])).length) Slot.unset).toArray = ls at hl ⊢
  have hl : lv_has ls 3 [(0, .ref (ad q)), (1, .ref (ad v)), (2, .ref (ad z))] := hl
  have hn6 : n ≤ 6 := hw.1
  have hpn : I q 2 = nI n := hw.2.1
  refine lv_aload_n hx hb dX2_isBroken_0 rfl (lv_at hl 0 rfl) ?_
  refine vgI hx hb hts hi2 hown hK hP (q) (by have := hq.1; omega) hq.2.1 (C := RX2) (T := TX2) (N := 7) rfl 0 (by decide) (by decide) (by decide) (by decide) (hts (.fieldLink RX2 9 "CrateHelpers$Rule" "kind" "I") (by decide +kernel)) (fun _ h9 => h9) dX2_isBroken_1 ?_
  rcases sw_7 (I q 0) with hs1 | hs1 | hs1 | hs1 | hs1 | hs1 | hs1 | hs1 | hs1
  · rw [hs1]
    refine lv_tableIn (off := 48) (tgt := 52) hx hb dX2_isBroken_4 (by decide) (by decide) (by decide) (by decide) ?_
    refine lv_aload_n hx hb dX2_isBroken_52 rfl (lv_at hl 0 rfl) ?_
    refine lv_aload_n hx hb dX2_isBroken_53 rfl (lv_at hl 1 rfl) ?_
    refine vcV (As := [.ref (ad v)]) (rest := []) ⟨hx, hb, hml, hown, hts⟩ (c_X2_isOverloaded l D K ad hap0 q v z n hq hv hz I G A L hw) (cwV 1 hts gX2_isBroken_X2_isOverloaded rfl rfl rfl (by decide +kernel) ⟨Nat.le_of_ble_eq_true rfl, Nat.le_of_ble_eq_true rfl⟩) hK hP hS (by have := hq.1; omega) hq.2.1 (by decide) rfl rfl rfl hl.1 (Nat.le_of_ble_eq_true rfl) (Nat.le_of_ble_eq_true rfl) (Nat.le_of_ble_eq_true rfl) dX2_isBroken_54 (fun r2 u3 H locs hw hP hS => ?_) rfl
    obtain ⟨hr2, rfl⟩ := hw
    have hP : va_P D vwCl (VW K ad I G A L) H := hP
    subst hr2
    exact W.zret (v := (ex1 (pov I A q v n) 6 0)) hx hb hr (nar01 (ex1_01 _ _ _)) (fun t ht hW => ⟨⟨(ex1 (pov I A q v n) 6 0), (I, G, A, L), rfl, ⟨by simp [brk, hs1], rfl⟩, by rw [ht]; exact hP, va_K.moved hW.alike hK⟩, hS.F ht⟩) hS.2.2 dX2_isBroken_57
  · rw [hs1]
    refine lv_tableIn (off := 54) (tgt := 58) hx hb dX2_isBroken_4 (by decide) (by decide) (by decide) (by decide) ?_
    refine lv_aload_n hx hb dX2_isBroken_58 rfl (lv_at hl 0 rfl) ?_
    refine lv_aload_n hx hb dX2_isBroken_59 rfl (lv_at hl 1 rfl) ?_
    refine lv_aload_n hx hb dX2_isBroken_60 rfl (lv_at hl 2 rfl) ?_
    refine vcV (As := [.ref (ad v), .ref (ad z)]) (rest := []) ⟨hx, hb, hml, hown, hts⟩ (c_X2_leastSum l D K ad hap0 q v z n hq hv hz I G A L hw) (cwV 2 hts gX2_isBroken_X2_leastSum rfl rfl rfl (by decide +kernel) ⟨Nat.le_of_ble_eq_true rfl, Nat.le_of_ble_eq_true rfl⟩) hK hP hS (by have := hq.1; omega) hq.2.1 (by decide) rfl rfl rfl hl.1 (Nat.le_of_ble_eq_true rfl) (Nat.le_of_ble_eq_true rfl) (Nat.le_of_ble_eq_true rfl) dX2_isBroken_61 (fun r4 u5 H locs hw hP hS => ?_) rfl
    obtain ⟨hr4, rfl⟩ := hw
    have hP : va_P D vwCl (VW K ad I G A L) H := hP
    subst hr4
    refine lv_aload_n hx hb dX2_isBroken_64 rfl (lv_at hl 0 rfl) ?_
    refine vgI hx hb hts hi2 hown hK hP (q) (by have := hq.1; omega) hq.2.1 (C := RX2) (T := TX2) (N := 7) rfl 1 (by decide) (by decide) (by decide) (by decide) (hts (.fieldLink RX2 15 "CrateHelpers$Rule" "c" "I") (by decide +kernel)) (fun _ h9 => h9) dX2_isBroken_65 ?_
    refine lv_icmp_le (tgt := 75) hx hb dX2_isBroken_68 (by decide) (fun c_6 => ?_) (fun c_6 => ?_)
    · refine lv_iconst (v := 0) hx hb dX2_isBroken_75 (by decide) ?_
      exact W.zret (v := 0) hx hb hr (by decide) (fun t ht hW => ⟨⟨0, (I, G, A, L), rfl, ⟨by simp [brk, hs1, (Int32.not_lt.mpr c_6)], rfl⟩, by rw [ht]; exact hP, va_K.moved hW.alike hK⟩, hS.F ht⟩) hS.2.2 dX2_isBroken_76
    · refine lv_iconst (v := 1) hx hb dX2_isBroken_71 (by decide) ?_
      refine lv_goto (tgt := 76) hx hb dX2_isBroken_72 (by decide) ?_
      exact W.zret (v := 1) hx hb hr (by decide) (fun t ht hW => ⟨⟨1, (I, G, A, L), rfl, ⟨by simp [brk, hs1, (Int32.not_le.mp c_6)], rfl⟩, by rw [ht]; exact hP, va_K.moved hW.alike hK⟩, hS.F ht⟩) hS.2.2 dX2_isBroken_76
  · rw [hs1]
    refine lv_tableIn (off := 73) (tgt := 77) hx hb dX2_isBroken_4 (by decide) (by decide) (by decide) (by decide) ?_
    refine lv_aload_n hx hb dX2_isBroken_77 rfl (lv_at hl 0 rfl) ?_
    refine lv_aload_n hx hb dX2_isBroken_78 rfl (lv_at hl 1 rfl) ?_
    refine lv_aload_n hx hb dX2_isBroken_79 rfl (lv_at hl 2 rfl) ?_
    refine vcV (As := [.ref (ad v), .ref (ad z)]) (rest := []) ⟨hx, hb, hml, hown, hts⟩ (c_X2_greatestSum l D K ad hap0 q v z n hq hv hz I G A L hw) (cwV 2 hts gX2_isBroken_X2_greatestSum rfl rfl rfl (by decide +kernel) ⟨Nat.le_of_ble_eq_true rfl, Nat.le_of_ble_eq_true rfl⟩) hK hP hS (by have := hq.1; omega) hq.2.1 (by decide) rfl rfl rfl hl.1 (Nat.le_of_ble_eq_true rfl) (Nat.le_of_ble_eq_true rfl) (Nat.le_of_ble_eq_true rfl) dX2_isBroken_80 (fun r7 u8 H locs hw hP hS => ?_) rfl
    obtain ⟨hr7, rfl⟩ := hw
    have hP : va_P D vwCl (VW K ad I G A L) H := hP
    subst hr7
    refine lv_aload_n hx hb dX2_isBroken_83 rfl (lv_at hl 0 rfl) ?_
    refine vgI hx hb hts hi2 hown hK hP (q) (by have := hq.1; omega) hq.2.1 (C := RX2) (T := TX2) (N := 7) rfl 1 (by decide) (by decide) (by decide) (by decide) (hts (.fieldLink RX2 15 "CrateHelpers$Rule" "c" "I") (by decide +kernel)) (fun _ h9 => h9) dX2_isBroken_84 ?_
    refine lv_icmp_ge (tgt := 94) hx hb dX2_isBroken_87 (by decide) (fun c_9 => ?_) (fun c_9 => ?_)
    · refine lv_iconst (v := 0) hx hb dX2_isBroken_94 (by decide) ?_
      exact W.zret (v := 0) hx hb hr (by decide) (fun t ht hW => ⟨⟨0, (I, G, A, L), rfl, ⟨by simp [brk, hs1, (Int32.not_lt.mpr c_9)], rfl⟩, by rw [ht]; exact hP, va_K.moved hW.alike hK⟩, hS.F ht⟩) hS.2.2 dX2_isBroken_95
    · refine lv_iconst (v := 1) hx hb dX2_isBroken_90 (by decide) ?_
      refine lv_goto (tgt := 95) hx hb dX2_isBroken_91 (by decide) ?_
      exact W.zret (v := 1) hx hb hr (by decide) (fun t ht hW => ⟨⟨1, (I, G, A, L), rfl, ⟨by simp [brk, hs1, (Int32.not_le.mp c_9)], rfl⟩, by rw [ht]; exact hP, va_K.moved hW.alike hK⟩, hS.F ht⟩) hS.2.2 dX2_isBroken_95
  · rw [hs1]
    refine lv_tableIn (off := 92) (tgt := 96) hx hb dX2_isBroken_4 (by decide) (by decide) (by decide) (by decide) ?_
    refine lv_aload_n hx hb dX2_isBroken_96 rfl (lv_at hl 0 rfl) ?_
    refine lv_aload_n hx hb dX2_isBroken_97 rfl (lv_at hl 1 rfl) ?_
    refine lv_aload_n hx hb dX2_isBroken_98 rfl (lv_at hl 2 rfl) ?_
    refine vcV (As := [.ref (ad v), .ref (ad z)]) (rest := []) ⟨hx, hb, hml, hown, hts⟩ (c_X2_leastSum l D K ad hap0 q v z n hq hv hz I G A L hw) (cwV 2 hts gX2_isBroken_X2_leastSum rfl rfl rfl (by decide +kernel) ⟨Nat.le_of_ble_eq_true rfl, Nat.le_of_ble_eq_true rfl⟩) hK hP hS (by have := hq.1; omega) hq.2.1 (by decide) rfl rfl rfl hl.1 (Nat.le_of_ble_eq_true rfl) (Nat.le_of_ble_eq_true rfl) (Nat.le_of_ble_eq_true rfl) dX2_isBroken_99 (fun r10 u11 H locs hw hP hS => ?_) rfl
    obtain ⟨hr10, rfl⟩ := hw
    have hP : va_P D vwCl (VW K ad I G A L) H := hP
    subst hr10
    refine lv_aload_n hx hb dX2_isBroken_102 rfl (lv_at hl 0 rfl) ?_
    refine vgI hx hb hts hi2 hown hK hP (q) (by have := hq.1; omega) hq.2.1 (C := RX2) (T := TX2) (N := 7) rfl 1 (by decide) (by decide) (by decide) (by decide) (hts (.fieldLink RX2 15 "CrateHelpers$Rule" "c" "I") (by decide +kernel)) (fun _ h9 => h9) dX2_isBroken_103 ?_
    refine lv_icmp_gt (tgt := 122) hx hb dX2_isBroken_106 (by decide) (fun c_12 => ?_) (fun c_12 => ?_)
    · refine lv_iconst (v := 1) hx hb dX2_isBroken_122 (by decide) ?_
      refine lv_goto (tgt := 127) hx hb dX2_isBroken_123 (by decide) ?_
      exact W.zret (v := 1) hx hb hr (by decide) (fun t ht hW => ⟨⟨1, (I, G, A, L), rfl, ⟨by simp [brk, hs1, c_12], rfl⟩, by rw [ht]; exact hP, va_K.moved hW.alike hK⟩, hS.F ht⟩) hS.2.2 dX2_isBroken_127
    · refine lv_aload_n hx hb dX2_isBroken_109 rfl (lv_at hl 0 rfl) ?_
      refine lv_aload_n hx hb dX2_isBroken_110 rfl (lv_at hl 1 rfl) ?_
      refine lv_aload_n hx hb dX2_isBroken_111 rfl (lv_at hl 2 rfl) ?_
      refine vcV (As := [.ref (ad v), .ref (ad z)]) (rest := []) ⟨hx, hb, hml, hown, hts⟩ (c_X2_greatestSum l D K ad hap0 q v z n hq hv hz I G A L hw) (cwV 2 hts gX2_isBroken_X2_greatestSum rfl rfl rfl (by decide +kernel) ⟨Nat.le_of_ble_eq_true rfl, Nat.le_of_ble_eq_true rfl⟩) hK hP hS (by have := hq.1; omega) hq.2.1 (by decide) rfl rfl rfl hl.1 (Nat.le_of_ble_eq_true rfl) (Nat.le_of_ble_eq_true rfl) (Nat.le_of_ble_eq_true rfl) dX2_isBroken_112 (fun r13 u14 H locs hw hP hS => ?_) rfl
      obtain ⟨hr13, rfl⟩ := hw
      have hP : va_P D vwCl (VW K ad I G A L) H := hP
      subst hr13
      refine lv_aload_n hx hb dX2_isBroken_115 rfl (lv_at hl 0 rfl) ?_
      refine vgI hx hb hts hi2 hown hK hP (q) (by have := hq.1; omega) hq.2.1 (C := RX2) (T := TX2) (N := 7) rfl 1 (by decide) (by decide) (by decide) (by decide) (hts (.fieldLink RX2 15 "CrateHelpers$Rule" "c" "I") (by decide +kernel)) (fun _ h9 => h9) dX2_isBroken_116 ?_
      refine lv_icmp_ge (tgt := 126) hx hb dX2_isBroken_119 (by decide) (fun c_15 => ?_) (fun c_15 => ?_)
      · refine lv_iconst (v := 0) hx hb dX2_isBroken_126 (by decide) ?_
        exact W.zret (v := 0) hx hb hr (by decide) (fun t ht hW => ⟨⟨0, (I, G, A, L), rfl, ⟨by simp [brk, hs1, c_12, (Int32.not_lt.mpr c_15)], rfl⟩, by rw [ht]; exact hP, va_K.moved hW.alike hK⟩, hS.F ht⟩) hS.2.2 dX2_isBroken_127
      · refine lv_iconst (v := 1) hx hb dX2_isBroken_122 (by decide) ?_
        refine lv_goto (tgt := 127) hx hb dX2_isBroken_123 (by decide) ?_
        exact W.zret (v := 1) hx hb hr (by decide) (fun t ht hW => ⟨⟨1, (I, G, A, L), rfl, ⟨by simp [brk, hs1, c_12, (Int32.not_le.mp c_15)], rfl⟩, by rw [ht]; exact hP, va_K.moved hW.alike hK⟩, hS.F ht⟩) hS.2.2 dX2_isBroken_127
  · rw [hs1]
    refine lv_tableIn (off := 124) (tgt := 128) hx hb dX2_isBroken_4 (by decide) (by decide) (by decide) (by decide) ?_
    refine lv_aload_n hx hb dX2_isBroken_128 rfl (lv_at hl 0 rfl) ?_
    refine lv_aload_n hx hb dX2_isBroken_129 rfl (lv_at hl 1 rfl) ?_
    refine lv_iconst (v := 1) hx hb dX2_isBroken_130 (by decide) ?_
    refine vcV (As := [.ref (ad v), .int 1]) (rest := []) ⟨hx, hb, hml, hown, hts⟩ (c_X2_hasNear l D K ad hap0 q v z n hq hv hz 1 I G A L hw) (cwV 2 hts gX2_isBroken_X2_hasNear rfl rfl rfl (by decide +kernel) ⟨Nat.le_of_ble_eq_true rfl, Nat.le_of_ble_eq_true rfl⟩) hK hP hS (by have := hq.1; omega) hq.2.1 (by decide) rfl rfl rfl hl.1 (Nat.le_of_ble_eq_true rfl) (Nat.le_of_ble_eq_true rfl) (Nat.le_of_ble_eq_true rfl) dX2_isBroken_131 (fun r16 u17 H locs hw hP hS => ?_) rfl
    obtain ⟨hr16, rfl⟩ := hw
    have hP : va_P D vwCl (VW K ad I G A L) H := hP
    subst hr16
    exact W.zret (v := (ex1 (pna A q v n 1) n 0)) hx hb hr (nar01 (ex1_01 _ _ _)) (fun t ht hW => ⟨⟨(ex1 (pna A q v n 1) n 0), (I, G, A, L), rfl, ⟨by simp [brk, hs1], rfl⟩, by rw [ht]; exact hP, va_K.moved hW.alike hK⟩, hS.F ht⟩) hS.2.2 dX2_isBroken_134
  · rw [hs1]
    refine lv_tableIn (off := 131) (tgt := 135) hx hb dX2_isBroken_4 (by decide) (by decide) (by decide) (by decide) ?_
    refine lv_aload_n hx hb dX2_isBroken_135 rfl (lv_at hl 0 rfl) ?_
    refine lv_aload_n hx hb dX2_isBroken_136 rfl (lv_at hl 1 rfl) ?_
    refine lv_iconst (v := 1) hx hb dX2_isBroken_137 (by decide) ?_
    refine lv_aload_n hx hb dX2_isBroken_138 rfl (lv_at hl 0 rfl) ?_
    refine vgI hx hb hts hi2 hown hK hP (q) (by have := hq.1; omega) hq.2.1 (C := RX2) (T := TX2) (N := 7) rfl 1 (by decide) (by decide) (by decide) (by decide) (hts (.fieldLink RX2 15 "CrateHelpers$Rule" "c" "I") (by decide +kernel)) (fun _ h9 => h9) dX2_isBroken_139 ?_
    refine va_mmax hx hb (by rw [hml]; exact hl.1.symm) hown (hts (.methodLink RX2 50 Lib.Math.max.name) (by decide +kernel)) (hts (.static Lib.Math.max.name) (by decide +kernel)) (hts (.initialized "java/lang/Math") (by decide +kernel)) (hts (.code Lib.Math.max.name Lib.Math.max.code 2 (some .int)) (List.mem_of_getElem? (i := 6) rfl)) (Nat.le_of_ble_eq_true rfl) (Nat.le_of_ble_eq_true rfl) (Nat.le_of_ble_eq_true rfl) (Nat.le_of_ble_eq_true rfl) dX2_isBroken_142 ?_
    refine vcV (As := [.ref (ad v), .int (if 1 < (I q 1) then (I q 1) else 1)]) (rest := []) ⟨hx, hb, hml, hown, hts⟩ (c_X2_hasNear l D K ad hap0 q v z n hq hv hz (if 1 < (I q 1) then (I q 1) else 1) I G A L hw) (cwV 2 hts gX2_isBroken_X2_hasNear rfl rfl rfl (by decide +kernel) ⟨Nat.le_of_ble_eq_true rfl, Nat.le_of_ble_eq_true rfl⟩) hK hP hS (by have := hq.1; omega) hq.2.1 (by decide) rfl rfl rfl hl.1 (Nat.le_of_ble_eq_true rfl) (Nat.le_of_ble_eq_true rfl) (Nat.le_of_ble_eq_true rfl) dX2_isBroken_145 (fun r18 u19 H locs hw hP hS => ?_) rfl
    obtain ⟨hr18, rfl⟩ := hw
    have hP : va_P D vwCl (VW K ad I G A L) H := hP
    subst hr18
    exact W.zret (v := (ex1 (pna A q v n (if 1 < (I q 1) then (I q 1) else 1)) n 0)) hx hb hr (nar01 (ex1_01 _ _ _)) (fun t ht hW => ⟨⟨(ex1 (pna A q v n (if 1 < (I q 1) then (I q 1) else 1)) n 0), (I, G, A, L), rfl, ⟨by simp [brk, hs1], rfl⟩, by rw [ht]; exact hP, va_K.moved hW.alike hK⟩, hS.F ht⟩) hS.2.2 dX2_isBroken_148
  · rw [hs1]
    refine lv_tableIn (off := 145) (tgt := 149) hx hb dX2_isBroken_4 (by decide) (by decide) (by decide) (by decide) ?_
    refine lv_aload_n hx hb dX2_isBroken_149 rfl (lv_at hl 0 rfl) ?_
    refine lv_aload_n hx hb dX2_isBroken_150 rfl (lv_at hl 1 rfl) ?_
    refine vcV (As := [.ref (ad v)]) (rest := []) ⟨hx, hb, hml, hown, hts⟩ (c_X2_hasStepBelow l D K ad hap0 q v z n hq hv hz I G A L hw) (cwV 1 hts gX2_isBroken_X2_hasStepBelow rfl rfl rfl (by decide +kernel) ⟨Nat.le_of_ble_eq_true rfl, Nat.le_of_ble_eq_true rfl⟩) hK hP hS (by have := hq.1; omega) hq.2.1 (by decide) rfl rfl rfl hl.1 (Nat.le_of_ble_eq_true rfl) (Nat.le_of_ble_eq_true rfl) (Nat.le_of_ble_eq_true rfl) dX2_isBroken_151 (fun r20 u21 H locs hw hP hS => ?_) rfl
    obtain ⟨hr20, rfl⟩ := hw
    have hP : va_P D vwCl (VW K ad I G A L) H := hP
    subst hr20
    exact W.zret (v := (ex1 (pst I A q v) (n - 1) 0)) hx hb hr (nar01 (ex1_01 _ _ _)) (fun t ht hW => ⟨⟨(ex1 (pst I A q v) (n - 1) 0), (I, G, A, L), rfl, ⟨by simp [brk, hs1], rfl⟩, by rw [ht]; exact hP, va_K.moved hW.alike hK⟩, hS.F ht⟩) hS.2.2 dX2_isBroken_154
  · rw [hs1]
    refine lv_tableIn (off := 151) (tgt := 155) hx hb dX2_isBroken_4 (by decide) (by decide) (by decide) (by decide) ?_
    refine lv_aload_n hx hb dX2_isBroken_155 rfl (lv_at hl 0 rfl) ?_
    refine lv_aload_n hx hb dX2_isBroken_156 rfl (lv_at hl 1 rfl) ?_
    refine vcV (As := [.ref (ad v)]) (rest := []) ⟨hx, hb, hml, hown, hts⟩ (c_X2_willing l D K ad hap0 q v z n hq hv hz I G A L hw) (cwV 1 hts gX2_isBroken_X2_willing rfl rfl rfl (by decide +kernel) ⟨Nat.le_of_ble_eq_true rfl, Nat.le_of_ble_eq_true rfl⟩) hK hP hS (by have := hq.1; omega) hq.2.1 (by decide) rfl rfl rfl hl.1 (Nat.le_of_ble_eq_true rfl) (Nat.le_of_ble_eq_true rfl) (Nat.le_of_ble_eq_true rfl) dX2_isBroken_157 (fun r22 u23 H locs hw hP hS => ?_) rfl
    obtain ⟨hr22, rfl⟩ := hw
    have hP : va_P D vwCl (VW K ad I G A L) H := hP
    subst hr22
    refine lv_aload_n hx hb dX2_isBroken_160 rfl (lv_at hl 0 rfl) ?_
    refine vgI hx hb hts hi2 hown hK hP (q) (by have := hq.1; omega) hq.2.1 (C := RX2) (T := TX2) (N := 7) rfl 1 (by decide) (by decide) (by decide) (by decide) (hts (.fieldLink RX2 15 "CrateHelpers$Rule" "c" "I") (by decide +kernel)) (fun _ h9 => h9) dX2_isBroken_161 ?_
    refine lv_icmp_ge (tgt := 171) hx hb dX2_isBroken_164 (by decide) (fun c_24 => ?_) (fun c_24 => ?_)
    · refine lv_iconst (v := 0) hx hb dX2_isBroken_171 (by decide) ?_
      exact W.zret (v := 0) hx hb hr (by decide) (fun t ht hW => ⟨⟨0, (I, G, A, L), rfl, ⟨by simp [brk, hs1, (Int32.not_lt.mpr c_24)], rfl⟩, by rw [ht]; exact hP, va_K.moved hW.alike hK⟩, hS.F ht⟩) hS.2.2 dX2_isBroken_172
    · refine lv_iconst (v := 1) hx hb dX2_isBroken_167 (by decide) ?_
      refine lv_goto (tgt := 172) hx hb dX2_isBroken_168 (by decide) ?_
      exact W.zret (v := 1) hx hb hr (by decide) (fun t ht hW => ⟨⟨1, (I, G, A, L), rfl, ⟨by simp [brk, hs1, (Int32.not_le.mp c_24)], rfl⟩, by rw [ht]; exact hP, va_K.moved hW.alike hK⟩, hS.F ht⟩) hS.2.2 dX2_isBroken_172
  · refine lv_tableOut (tgt := 173) hx hb dX2_isBroken_4 hs1 (by decide) ?_
    refine lv_iconst (v := 0) hx hb dX2_isBroken_173 (by decide) ?_
    exact W.zret (v := 0) hx hb hr (by decide) (fun t ht hW => ⟨⟨0, (I, G, A, L), rfl, ⟨by have h9 := sw_ne7 hs1; simp [brk, h9], rfl⟩, by rw [ht]; exact hP, va_K.moved hW.alike hK⟩, hS.F ht⟩) hS.2.2 dX2_isBroken_174

set_option maxHeartbeats 4000000 in
set_option maxRecDepth 100000 in
/-- a part more -/
theorem c_X2_add (l : Launch) (D : va_G) (K : Nat → ClassId) (ad : Nat → Nat) (hap0 : apart ad (fun _ => True)) (q n x : Nat) (hq : RuAt q) (hn : n < 6) (hx6 : x < 6) (w : Int32) (I : Nat → Nat → Int32) (G : Nat → Nat → Nat) (A : Nat → Nat → Int32) (L : Nat → Nat → Int64) (hpn : I q 2 = nI n) : Cv l D K ad yX2_add wsX2_add 0 0 [.ref (ad q), .int (nI x), .int w] (I, G, A, L) (fun (u : Mem) => u = (up2 I q 2 (nI n + 1), G, up2 (up2 (up2 (up2 A (q + 1) n (nI x)) (q + 2) n w) (q + 3) x (vp_nar .boolean 1)) (q + 4) x w, L)) := by
  intro sz
  refine Met.ofW (cc := cX2_add) (maxL := 3) (ret := none) (by decide) rfl ?_
  intro p e s m args below meth c s₁ Bd hml hv0
  obtain ⟨rfl, hsz, hP, hK⟩ := hv0
  have hx := Bd.exec
  have hb := Bd.bytes
  have hr := Bd.returns
  have hts := atoms_spec (ws := wsX2_add) Bd.pre
  have hown : s.vm.findClass RX2 = some m.cls := findClass_of_methodNamed Bd.named
  have hlocks := Bd.notSynchronized
  have hi2 : ∀ w ∈ u_ws RX2 TX2 7, w ∈ wsX2_add := fun w h => List.mem_cons_of_mem _ (List.mem_append_right _ h)
  subst hsz
  have hap := vF_ap hap0 s.heap.size
  have hS : va_S (vF ad s.heap.size) s.heap s.heap [] := va_S.rf
  have hP : va_P D vwCl (VW K ad I G A L) s.heap := hP
  have hl := lv_entry ([.ref (ad q), .int (nI x), .int w]) (n := 3) (Nat.le_of_ble_eq_true rfl)
  rw [lg_entry_eq]
  generalize (lg_sl ([.ref (ad q), .int (nI x), .int w]) ++ List.replicate (3 - (lg_sl ([.ref (ad q), .int (nI x), .int w])).length) Slot.unset).toArray = ls at hl ⊢
  have hl : lv_has ls 3 [(0, .ref (ad q)), (1, .int (nI x)), (2, .int w)] := hl
  have hn1 : vp_in (nI n) (ln (q + 1)) := by rw [hq.2.2.2.2.2.2.1]; exact vp_in_nI hn (by omega)
  have hn2 : vp_in (nI n) (ln (q + 2)) := by rw [hq.2.2.2.2.2.2.2.1]; exact vp_in_nI hn (by omega)
  have hx3 : vp_in (nI x) (ln (q + 3)) := by rw [hq.2.2.2.2.2.2.2.2.1]; exact vp_in_nI hx6 (by omega)
  have hx4 : vp_in (nI x) (ln (q + 4)) := by rw [hq.2.2.2.2.2.2.2.2.2]; exact vp_in_nI hx6 (by omega)
  refine lv_aload_n hx hb dX2_add_0 rfl (lv_at hl 0 rfl) ?_
  refine vgS hx hb hts hi2 hown hK hP (q) (by have := hq.1; omega) hq.2.1 (C := RX2) (T := TX2) (N := 7) rfl 3 (by decide) (by decide) (by decide) (by decide) (q + 1) rfl (hts (.fieldLink RX2 21 "CrateHelpers$Rule" "variables" "[I") (by decide +kernel)) (fun _ h9 => h9) dX2_add_1 ?_
  refine lv_aload_n hx hb dX2_add_4 rfl (lv_at hl 0 rfl) ?_
  refine vgI hx hb hts hi2 hown hK hP (q) (by have := hq.1; omega) hq.2.1 (C := RX2) (T := TX2) (N := 7) rfl 2 (by decide) (by decide) (by decide) (by decide) (hts (.fieldLink RX2 18 "CrateHelpers$Rule" "parts" "I") (by decide +kernel)) (fun _ h9 => h9) dX2_add_5 ?_
  rw [hpn]
  refine lv_iload_n hx hb dX2_add_8 rfl (lv_at hl 1 rfl) ?_
  refine xiast hx hb hK hP hap hS (q + 1) (by have := hq.1; omega) hq.2.2.1 hn1 dX2_add_9 (fun H locs hP hS => ?_)
  rw [nI_clamp (n := n) (by omega)] at hP
  obtain ⟨A1, eA1⟩ : ∃ z, z = up2 A (q + 1) n ((nI x)) := ⟨_, rfl⟩
  rw [← eA1] at hP
  have hP : va_P D vwCl (VW K ad I G A1 L) H := hP
  refine lv_aload_n hx hb dX2_add_10 rfl (lv_at hl 0 rfl) ?_
  refine vgS hx hb hts hi2 hown hK hP (q) (by have := hq.1; omega) hq.2.1 (C := RX2) (T := TX2) (N := 7) rfl 4 (by decide) (by decide) (by decide) (by decide) (q + 2) rfl (hts (.fieldLink RX2 25 "CrateHelpers$Rule" "weights" "[I") (by decide +kernel)) (fun _ h9 => h9) dX2_add_11 ?_
  refine lv_aload_n hx hb dX2_add_14 rfl (lv_at hl 0 rfl) ?_
  refine vgI hx hb hts hi2 hown hK hP (q) (by have := hq.1; omega) hq.2.1 (C := RX2) (T := TX2) (N := 7) rfl 2 (by decide) (by decide) (by decide) (by decide) (hts (.fieldLink RX2 18 "CrateHelpers$Rule" "parts" "I") (by decide +kernel)) (fun _ h9 => h9) dX2_add_15 ?_
  rw [hpn]
  refine lv_iload_n hx hb dX2_add_18 rfl (lv_at hl 2 rfl) ?_
  refine xiast hx hb hK hP hap hS (q + 2) (by have := hq.1; omega) hq.2.2.2.1 hn2 dX2_add_19 (fun H locs hP hS => ?_)
  rw [nI_clamp (n := n) (by omega)] at hP
  obtain ⟨A2, eA2⟩ : ∃ z, z = up2 A1 (q + 2) n w := ⟨_, rfl⟩
  rw [← eA2] at hP
  have hP : va_P D vwCl (VW K ad I G A2 L) H := hP
  refine lv_aload_n hx hb dX2_add_20 rfl (lv_at hl 0 rfl) ?_
  refine vgS hx hb hts hi2 hown hK hP (q) (by have := hq.1; omega) hq.2.1 (C := RX2) (T := TX2) (N := 7) rfl 5 (by decide) (by decide) (by decide) (by decide) (q + 3) rfl (hts (.fieldLink RX2 28 "CrateHelpers$Rule" "isPart" "[Z") (by decide +kernel)) (fun _ h9 => h9) dX2_add_21 ?_
  refine lv_iload_n hx hb dX2_add_24 rfl (lv_at hl 1 rfl) ?_
  refine lv_iconst (v := 1) hx hb dX2_add_25 (by decide) ?_
  refine xzast hx hb hK hP hap hS (q + 3) (by have := hq.1; omega) hq.2.2.2.2.1 hx3 dX2_add_26 (fun H locs hP hS => ?_)
  rw [nI_clamp (n := x) (by omega)] at hP
  obtain ⟨A3, eA3⟩ : ∃ z, z = up2 A2 (q + 3) x (vp_nar .boolean 1) := ⟨_, rfl⟩
  rw [← eA3] at hP
  have hP : va_P D vwCl (VW K ad I G A3 L) H := hP
  refine lv_aload_n hx hb dX2_add_27 rfl (lv_at hl 0 rfl) ?_
  refine vgS hx hb hts hi2 hown hK hP (q) (by have := hq.1; omega) hq.2.1 (C := RX2) (T := TX2) (N := 7) rfl 6 (by decide) (by decide) (by decide) (by decide) (q + 4) rfl (hts (.fieldLink RX2 32 "CrateHelpers$Rule" "weightOf" "[I") (by decide +kernel)) (fun _ h9 => h9) dX2_add_28 ?_
  refine lv_iload_n hx hb dX2_add_31 rfl (lv_at hl 1 rfl) ?_
  refine lv_iload_n hx hb dX2_add_32 rfl (lv_at hl 2 rfl) ?_
  refine xiast hx hb hK hP hap hS (q + 4) (by have := hq.1; omega) hq.2.2.2.2.2.1 hx4 dX2_add_33 (fun H locs hP hS => ?_)
  rw [nI_clamp (n := x) (by omega)] at hP
  obtain ⟨A4, eA4⟩ : ∃ z, z = up2 A3 (q + 4) x w := ⟨_, rfl⟩
  rw [← eA4] at hP
  have hP : va_P D vwCl (VW K ad I G A4 L) H := hP
  refine lv_aload_n hx hb dX2_add_34 rfl (lv_at hl 0 rfl) ?_
  refine lv_dup hx hb dX2_add_35 rfl ?_
  refine vgI hx hb hts hi2 hown hK hP (q) (by have := hq.1; omega) hq.2.1 (C := RX2) (T := TX2) (N := 7) rfl 2 (by decide) (by decide) (by decide) (by decide) (hts (.fieldLink RX2 18 "CrateHelpers$Rule" "parts" "I") (by decide +kernel)) (fun _ h9 => h9) dX2_add_36 ?_
  rw [hpn]
  refine lv_iconst (v := 1) hx hb dX2_add_39 (by decide) ?_
  refine lv_iadd hx hb dX2_add_40 ?_
  refine vpI (v := ((nI n) + 1)) (ty := .int) hx hb hts hi2 tyX2 tyX2_ok nmX2 hown hK hP hap hS (q) (by have := hq.1; omega) hq.2.1 (C := RX2) (T := TX2) (N := 7) rfl 2 (by decide) (by decide) (by decide) (by decide) (hts (.fieldLink RX2 18 "CrateHelpers$Rule" "parts" "I") (by decide +kernel)) (fun _ h9 => h9) rfl (by decide +kernel) rfl rfl dX2_add_41 (fun H locs hP hS => ?_)
  obtain ⟨I5, eI5⟩ : ∃ z, z = up2 I q 2 ((nI n) + 1) := ⟨_, rfl⟩
  rw [← eI5] at hP
  have hP : va_P D vwCl (VW K ad I5 G A4 L) H := hP
  exact W.vret hx hb hr (fun t ht hW => ⟨⟨(I5, G, A4, L), rfl, by rw [eI5, eA4, eA3, eA2, eA1], by rw [ht]; exact hP, va_K.moved hW.alike hK⟩, hS.F ht⟩) hS.2.2 dX2_add_44
