set_option maxHeartbeats 4000000 in
set_option maxRecDepth 100000 in
/-- two that are near -/
theorem c_X2_hasNear (l : Launch) (D : va_G) (K : Nat → ClassId) (ad : Nat → Nat) (hap0 : apart ad (fun _ => True)) (q v z n : Nat) (hq : RuAt q) (hv : IA v 6) (hz : IA z 6) (d : Int32) (I : Nat → Nat → Int32) (G : Nat → Nat → Nat) (A : Nat → Nat → Int32) (L : Nat → Nat → Int64) (hw : RuW I A q n) : Ci l D K ad yX2_hasNear wsX2_hasNear 1 40 [.ref (ad q), .ref (ad v), .int d] (I, G, A, L) (fun (r : Int32) (u : Mem) => r = ex1 (pna A q v n d) n 0 ∧ u = (I, G, A, L)) := by
  intro sz
  refine Met.ofW (cc := cX2_hasNear) (maxL := 7) (ret := (some .boolean)) (by decide) rfl ?_
  intro p e s m args below meth c s₁ Bd hml hv0
  obtain ⟨rfl, hsz, hP, hK⟩ := hv0
  have hx := Bd.exec
  have hb := Bd.bytes
  have hr := Bd.returns
  have hts := atoms_spec (ws := wsX2_hasNear) Bd.pre
  have hown : s.vm.findClass RX2 = some m.cls := findClass_of_methodNamed Bd.named
  have hlocks := Bd.notSynchronized
  have hi2 : ∀ w ∈ u_ws RX2 TX2 7, w ∈ wsX2_hasNear := fun w h => List.mem_cons_of_mem _ (List.mem_append_right _ h)
  subst hsz
  have hap := vF_ap hap0 s.heap.size
  have hS : va_S (vF ad s.heap.size) s.heap s.heap [] := va_S.rf
  have hP : va_P D vwCl (VW K ad I G A L) s.heap := hP
  have hl := lv_entry ([.ref (ad q), .ref (ad v), .int d]) (n := 7) (Nat.le_of_ble_eq_true rfl)
  rw [lg_entry_eq]
  generalize (lg_sl ([.ref (ad q), .ref (ad v), .int d]) ++ List.replicate (7 - (lg_sl ([.ref (ad q), .ref (ad v), .int d])).length) Slot.unset).toArray = ls at hl ⊢
  have hl : lv_has ls 7 [(0, .ref (ad q)), (1, .ref (ad v)), (2, .int d)] := hl
  have hn6 : n ≤ 6 := hw.1
  have hpn : I q 2 = nI n := hw.2.1
  refine lv_iconst (v := 0) hx hb dX2_hasNear_0 (by decide) ?_
  refine lv_istore_n (lv' := [(3, .int 0), (0, .ref (ad q)), (1, .ref (ad v)), (2, .int d)]) hx hb dX2_hasNear_1 rfl hl (by decide) rfl (fun ls hl => ?_)
  have kx1 : ∀ (_ : Unit), ex1 (pna A q v n d) 0 n = ex1 (pna A q v n d) n 0 → ∀ (H : Heap) (locs : List Loc), va_P D vwCl (VW K ad I G A L) H → va_S (vF ad s.heap.size) s.heap H locs → ∀ (ls : Array Slot), lv_has ls 7 [(3, .int (nI n)), (0, .ref (ad q)), (1, .ref (ad v)), (2, .int d)] → W p l e ({ frames := 1, cells := 0, slots := 0, locals := 40 }) s m ([.ref (ad q), .ref (ad v), .int d] : List Value).toArray below meth c H locs 0 0 (MQ below (va_Qi (fun (r : Int32) (u : Mem) => r = ex1 (pna A q v n d) n 0 ∧ u = (I, G, A, L)) (vB D K ad) (vF ad s.heap.size)) ([.ref (ad q), .ref (ad v), .int d] : List Value).toArray s 0 0 (vF ad s.heap.size)) (F0 m 83 ls []) := by
    intro _ hinv1 H locs hP hS ls hl
    refine lv_iconst (v := 0) hx hb dX2_hasNear_83 (by decide) ?_
    exact W.zret (v := 0) hx hb hr (by decide) (fun t ht hW => ⟨⟨0, (I, G, A, L), rfl, ⟨hinv1, rfl⟩, by rw [ht]; exact hP, va_K.moved hW.alike hK⟩, hS.F ht⟩) hS.2.2 dX2_hasNear_84
  have lp1 : ∀ (k1 i : Nat), i + k1 = n → ex1 (pna A q v n d) k1 i = ex1 (pna A q v n d) n 0 → ∀ (H : Heap) (locs : List Loc), va_P D vwCl (VW K ad I G A L) H → va_S (vF ad s.heap.size) s.heap H locs → ∀ (ls : Array Slot), lv_has ls 7 [(3, .int (nI i)), (0, .ref (ad q)), (1, .ref (ad v)), (2, .int d)] → W p l e ({ frames := 1, cells := 0, slots := 0, locals := 40 }) s m ([.ref (ad q), .ref (ad v), .int d] : List Value).toArray below meth c H locs 0 0 (MQ below (va_Qi (fun (r : Int32) (u : Mem) => r = ex1 (pna A q v n d) n 0 ∧ u = (I, G, A, L)) (vB D K ad) (vF ad s.heap.size)) ([.ref (ad q), .ref (ad v), .int d] : List Value).toArray s 0 0 (vF ad s.heap.size)) (F0 m 2 ls []) := by
    intro k1
    induction k1 with
    | zero =>
      intro i  hk1 hinv1 H locs hP hS ls hl
      obtain rfl : n = i := by omega
      refine lv_iload_n hx hb dX2_hasNear_2 rfl (lv_at hl 0 rfl) ?_
      refine lv_aload_n hx hb dX2_hasNear_3 rfl (lv_at hl 1 rfl) ?_
      refine vgI hx hb hts hi2 hown hK hP (q) (by have := hq.1; omega) hq.2.1 (C := RX2) (T := TX2) (N := 7) rfl 2 (by decide) (by decide) (by decide) (by decide) (hts (.fieldLink RX2 18 "CrateHelpers$Rule" "parts" "I") (by decide +kernel)) (fun _ h9 => h9) dX2_hasNear_4 ?_
      rw [hpn]
      refine lv_icmp_ge (tgt := 83) hx hb dX2_hasNear_7 (by decide) (fun _ => ?_) (fun c_2 => absurd (nI_le (Nat.le_refl _) (by omega)) c_2)
      exact kx1 () (hinv1) H locs hP hS ls (lv_sub hl [0, 1, 2, 3] rfl)
    | succ k1 ih1 =>
      intro i  hk1 hinv1 H locs hP hS ls hl
      have hlt1 : i < n := by omega
      have hi11 : vp_in (nI i) (ln (q + 1)) := by rw [hq.2.2.2.2.2.2.1]; exact vp_in_nI (by omega) (by omega)
      have hi21 : vp_in (nI i) (ln (q + 2)) := by rw [hq.2.2.2.2.2.2.2.1]; exact vp_in_nI (by omega) (by omega)
      have hv11 : vp_in (A (q + 1) i) (ln v) := by rw [hv.2.2]; exact hw.2.2 i (by omega)
      refine lv_iload_n hx hb dX2_hasNear_2 rfl (lv_at hl 0 rfl) ?_
      refine lv_aload_n hx hb dX2_hasNear_3 rfl (lv_at hl 1 rfl) ?_
      refine vgI hx hb hts hi2 hown hK hP (q) (by have := hq.1; omega) hq.2.1 (C := RX2) (T := TX2) (N := 7) rfl 2 (by decide) (by decide) (by decide) (by decide) (hts (.fieldLink RX2 18 "CrateHelpers$Rule" "parts" "I") (by decide +kernel)) (fun _ h9 => h9) dX2_hasNear_4 ?_
      rw [hpn]
      refine lv_icmp_ge (tgt := 83) hx hb dX2_hasNear_7 (by decide) (fun c_3 => absurd c_3 (nI_ge (by omega) (by omega))) (fun _ => ?_)
      refine lv_aload_n hx hb dX2_hasNear_10 rfl (lv_at hl 2 rfl) ?_
      refine lv_aload_n hx hb dX2_hasNear_11 rfl (lv_at hl 1 rfl) ?_
      refine vgS hx hb hts hi2 hown hK hP (q) (by have := hq.1; omega) hq.2.1 (C := RX2) (T := TX2) (N := 7) rfl 3 (by decide) (by decide) (by decide) (by decide) (q + 1) rfl (hts (.fieldLink RX2 21 "CrateHelpers$Rule" "variables" "[I") (by decide +kernel)) (fun _ h9 => h9) dX2_hasNear_12 ?_
      refine lv_iload_n hx hb dX2_hasNear_15 rfl (lv_at hl 0 rfl) ?_
      refine xiald hx hb hK hP (q + 1) (by have := hq.1; omega) hq.2.2.1 hi11 dX2_hasNear_16 ?_
      rw [nI_clamp (n := i) (by omega)]
      refine xiald hx hb hK hP (v) hv.1 hv.2.1 hv11 dX2_hasNear_17 ?_
      refine lv_istore (lv' := [(4, .int (A v ((A (q + 1) i).toNatClampNeg))), (3, .int (nI i)), (0, .ref (ad q)), (1, .ref (ad v)), (2, .int d)]) hx hb dX2_hasNear_18 hl (by decide) rfl (fun ls hl => ?_)
      refine lv_iload_n hx hb dX2_hasNear_20 rfl (lv_at hl 1 rfl) ?_
      refine lv_iconst (v := 1) hx hb dX2_hasNear_21 (by decide) ?_
      refine lv_iadd hx hb dX2_hasNear_22 ?_
      rw [nI_1]
      refine lv_istore (lv' := [(5, .int (nI (i + 1))), (4, .int (A v ((A (q + 1) i).toNatClampNeg))), (3, .int (nI i)), (0, .ref (ad q)), (1, .ref (ad v)), (2, .int d)]) hx hb dX2_hasNear_23 hl (by decide) rfl (fun ls hl => ?_)
      by_cases hone : (A v ((A (q + 1) i).toNatClampNeg)) = -1
      · refine lv_iload hx hb dX2_hasNear_25 (lv_at hl 0 rfl) ?_
        refine lv_aload_n hx hb dX2_hasNear_27 rfl (lv_at hl 3 rfl) ?_
        refine vgI hx hb hts hi2 hown hK hP (q) (by have := hq.1; omega) hq.2.1 (C := RX2) (T := TX2) (N := 7) rfl 2 (by decide) (by decide) (by decide) (by decide) (hts (.fieldLink RX2 18 "CrateHelpers$Rule" "parts" "I") (by decide +kernel)) (fun _ h9 => h9) dX2_hasNear_28 ?_
        refine lv_icmp_ge (tgt := 77) hx hb dX2_hasNear_31 (by decide) (fun c_4 => ?_) (fun c_4 => ?_)
        · refine lv_iinc (v := (nI (i + 1))) (lv' := [(3, .int (nI (i + 1))), (5, .int (nI (i + 1))), (4, .int (A v ((A (q + 1) i).toNatClampNeg))), (0, .ref (ad q)), (1, .ref (ad v)), (2, .int d)]) hx hb dX2_hasNear_77 hl (k := 2) rfl (nI_1 i) (by decide) rfl (fun ls hl => ?_)
          refine lv_goto (tgt := 2) hx hb dX2_hasNear_80 (by decide) ?_
          exact ih1 (i + 1)  (by omega) (by rw [← hinv1]; simp [ex1, pna, pv, hone]) H locs hP hS ls (lv_sub hl [0, 3, 4, 5] rfl)
        · refine lv_iload hx hb dX2_hasNear_34 (lv_at hl 1 rfl) ?_
          refine lv_iconst (v := (-1)) hx hb dX2_hasNear_36 (by decide) ?_
          refine lv_icmp_eq (tgt := 77) hx hb dX2_hasNear_37 (by decide) (fun _ => ?_) (fun c9 => absurd hone c9)
          refine lv_iinc (v := (nI (i + 1))) (lv' := [(3, .int (nI (i + 1))), (5, .int (nI (i + 1))), (4, .int (A v ((A (q + 1) i).toNatClampNeg))), (0, .ref (ad q)), (1, .ref (ad v)), (2, .int d)]) hx hb dX2_hasNear_77 hl (k := 2) rfl (nI_1 i) (by decide) rfl (fun ls hl => ?_)
          refine lv_goto (tgt := 2) hx hb dX2_hasNear_80 (by decide) ?_
          exact ih1 (i + 1)  (by omega) (by rw [← hinv1]; simp [ex1, pna, pv, hone]) H locs hP hS ls (lv_sub hl [0, 3, 4, 5] rfl)
      · have kx5 : ∀ (_ : Unit), ex1 (pnr A q v d i) 0 n = ex1 (pnr A q v d i) (n - (i + 1)) (i + 1) → ∀ (H : Heap) (locs : List Loc), va_P D vwCl (VW K ad I G A L) H → va_S (vF ad s.heap.size) s.heap H locs → ∀ (ls : Array Slot), lv_has ls 7 [(5, .int (nI n)), (4, .int (A v ((A (q + 1) i).toNatClampNeg))), (3, .int (nI i)), (0, .ref (ad q)), (1, .ref (ad v)), (2, .int d)] → W p l e ({ frames := 1, cells := 0, slots := 0, locals := 40 }) s m ([.ref (ad q), .ref (ad v), .int d] : List Value).toArray below meth c H locs 0 0 (MQ below (va_Qi (fun (r : Int32) (u : Mem) => r = ex1 (pna A q v n d) n 0 ∧ u = (I, G, A, L)) (vB D K ad) (vF ad s.heap.size)) ([.ref (ad q), .ref (ad v), .int d] : List Value).toArray s 0 0 (vF ad s.heap.size)) (F0 m 77 ls []) := by
          intro _ hinv5 H locs hP hS ls hl
          have hinv5 : ex1 (pnr A q v d i) (n - (i + 1)) (i + 1) = 0 := hinv5.symm
          refine lv_iinc (v := (nI (i + 1))) (lv' := [(3, .int (nI (i + 1))), (5, .int (nI n)), (4, .int (A v ((A (q + 1) i).toNatClampNeg))), (0, .ref (ad q)), (1, .ref (ad v)), (2, .int d)]) hx hb dX2_hasNear_77 hl (k := 2) rfl (nI_1 i) (by decide) rfl (fun ls hl => ?_)
          refine lv_goto (tgt := 2) hx hb dX2_hasNear_80 (by decide) ?_
          exact ih1 (i + 1)  (by omega) (by rw [← hinv1]; simp [ex1, pna, pv, hone, hinv5]) H locs hP hS ls (lv_sub hl [0, 3, 4, 5] rfl)
        have lp5 : ∀ (k5 j : Nat), j + k5 = n → ex1 (pnr A q v d i) k5 j = ex1 (pnr A q v d i) (n - (i + 1)) (i + 1) → ∀ (H : Heap) (locs : List Loc), va_P D vwCl (VW K ad I G A L) H → va_S (vF ad s.heap.size) s.heap H locs → ∀ (ls : Array Slot), lv_has ls 7 [(5, .int (nI j)), (4, .int (A v ((A (q + 1) i).toNatClampNeg))), (3, .int (nI i)), (0, .ref (ad q)), (1, .ref (ad v)), (2, .int d)] → W p l e ({ frames := 1, cells := 0, slots := 0, locals := 40 }) s m ([.ref (ad q), .ref (ad v), .int d] : List Value).toArray below meth c H locs 0 0 (MQ below (va_Qi (fun (r : Int32) (u : Mem) => r = ex1 (pna A q v n d) n 0 ∧ u = (I, G, A, L)) (vB D K ad) (vF ad s.heap.size)) ([.ref (ad q), .ref (ad v), .int d] : List Value).toArray s 0 0 (vF ad s.heap.size)) (F0 m 25 ls []) := by
          intro k5
          induction k5 with
          | zero =>
            intro j  hk5 hinv5 H locs hP hS ls hl
            obtain rfl : n = j := by omega
            refine lv_iload hx hb dX2_hasNear_25 (lv_at hl 0 rfl) ?_
            refine lv_aload_n hx hb dX2_hasNear_27 rfl (lv_at hl 3 rfl) ?_
            refine vgI hx hb hts hi2 hown hK hP (q) (by have := hq.1; omega) hq.2.1 (C := RX2) (T := TX2) (N := 7) rfl 2 (by decide) (by decide) (by decide) (by decide) (hts (.fieldLink RX2 18 "CrateHelpers$Rule" "parts" "I") (by decide +kernel)) (fun _ h9 => h9) dX2_hasNear_28 ?_
            rw [hpn]
            refine lv_icmp_ge (tgt := 77) hx hb dX2_hasNear_31 (by decide) (fun _ => ?_) (fun c_6 => absurd (nI_le (Nat.le_refl _) (by omega)) c_6)
            exact kx5 () (hinv5) H locs hP hS ls (lv_sub hl [0, 1, 2, 3, 4, 5] rfl)
          | succ k5 ih5 =>
            intro j  hk5 hinv5 H locs hP hS ls hl
            have hlt5 : j < n := by omega
            have hi15 : vp_in (nI j) (ln (q + 1)) := by rw [hq.2.2.2.2.2.2.1]; exact vp_in_nI (by omega) (by omega)
            have hi25 : vp_in (nI j) (ln (q + 2)) := by rw [hq.2.2.2.2.2.2.2.1]; exact vp_in_nI (by omega) (by omega)
            have hv15 : vp_in (A (q + 1) j) (ln v) := by rw [hv.2.2]; exact hw.2.2 j (by omega)
            refine lv_iload hx hb dX2_hasNear_25 (lv_at hl 0 rfl) ?_
            refine lv_aload_n hx hb dX2_hasNear_27 rfl (lv_at hl 3 rfl) ?_
            refine vgI hx hb hts hi2 hown hK hP (q) (by have := hq.1; omega) hq.2.1 (C := RX2) (T := TX2) (N := 7) rfl 2 (by decide) (by decide) (by decide) (by decide) (hts (.fieldLink RX2 18 "CrateHelpers$Rule" "parts" "I") (by decide +kernel)) (fun _ h9 => h9) dX2_hasNear_28 ?_
            rw [hpn]
            refine lv_icmp_ge (tgt := 77) hx hb dX2_hasNear_31 (by decide) (fun c_7 => absurd c_7 (nI_ge (by omega) (by omega))) (fun _ => ?_)
            refine lv_iload hx hb dX2_hasNear_34 (lv_at hl 1 rfl) ?_
            refine lv_iconst (v := (-1)) hx hb dX2_hasNear_36 (by decide) ?_
            refine lv_icmp_eq (tgt := 77) hx hb dX2_hasNear_37 (by decide) (fun c9 => absurd c9 hone) (fun _ => ?_)
            refine lv_aload_n hx hb dX2_hasNear_40 rfl (lv_at hl 4 rfl) ?_
            refine lv_aload_n hx hb dX2_hasNear_41 rfl (lv_at hl 3 rfl) ?_
            refine vgS hx hb hts hi2 hown hK hP (q) (by have := hq.1; omega) hq.2.1 (C := RX2) (T := TX2) (N := 7) rfl 3 (by decide) (by decide) (by decide) (by decide) (q + 1) rfl (hts (.fieldLink RX2 21 "CrateHelpers$Rule" "variables" "[I") (by decide +kernel)) (fun _ h9 => h9) dX2_hasNear_42 ?_
            refine lv_iload hx hb dX2_hasNear_45 (lv_at hl 0 rfl) ?_
            refine xiald hx hb hK hP (q + 1) (by have := hq.1; omega) hq.2.2.1 hi15 dX2_hasNear_47 ?_
            rw [nI_clamp (n := j) (by omega)]
            refine xiald hx hb hK hP (v) hv.1 hv.2.1 hv15 dX2_hasNear_48 ?_
            refine lv_istore (lv' := [(6, .int (A v ((A (q + 1) j).toNatClampNeg))), (5, .int (nI j)), (4, .int (A v ((A (q + 1) i).toNatClampNeg))), (3, .int (nI i)), (0, .ref (ad q)), (1, .ref (ad v)), (2, .int d)]) hx hb dX2_hasNear_49 hl (by decide) rfl (fun ls hl => ?_)
            refine lv_iload hx hb dX2_hasNear_51 (lv_at hl 0 rfl) ?_
            refine lv_iconst (v := (-1)) hx hb dX2_hasNear_53 (by decide) ?_
            refine lv_icmp_eq (tgt := 71) hx hb dX2_hasNear_54 (by decide) (fun c_8 => ?_) (fun c_8 => ?_)
            · refine lv_iinc (v := (nI (j + 1))) (lv' := [(5, .int (nI (j + 1))), (6, .int (A v ((A (q + 1) j).toNatClampNeg))), (4, .int (A v ((A (q + 1) i).toNatClampNeg))), (3, .int (nI i)), (0, .ref (ad q)), (1, .ref (ad v)), (2, .int d)]) hx hb dX2_hasNear_71 hl (k := 1) rfl (nI_1 j) (by decide) rfl (fun ls hl => ?_)
              refine lv_goto (tgt := 25) hx hb dX2_hasNear_74 (by decide) ?_
              exact ih5 (j + 1)  (by omega) (by rw [← hinv5]; simp [ex1, pnr, (show pv A q v j = -1 from c_8)]) H locs hP hS ls (lv_sub hl [0, 2, 3, 4, 5, 6] rfl)
            · refine lv_iload hx hb dX2_hasNear_57 (lv_at hl 2 rfl) ?_
              refine lv_iload hx hb dX2_hasNear_59 (lv_at hl 0 rfl) ?_
              refine lv_isub hx hb dX2_hasNear_61 ?_
              refine va_mabs hx hb (by rw [hml]; exact hl.1.symm) hown (hts (.methodLink RX2 66 Lib.Math.abs.name) (by decide +kernel)) (hts (.static Lib.Math.abs.name) (by decide +kernel)) (hts (.initialized "java/lang/Math") (by decide +kernel)) (hts (.code Lib.Math.abs.name Lib.Math.abs.code 1 (some .int)) (List.mem_of_getElem? (i := 6) rfl)) (Nat.le_of_ble_eq_true rfl) (Nat.le_of_ble_eq_true rfl) (Nat.le_of_ble_eq_true rfl) (Nat.le_of_ble_eq_true rfl) dX2_hasNear_62 ?_
              refine lv_iload_n hx hb dX2_hasNear_65 rfl (lv_at hl 6 rfl) ?_
              refine lv_icmp_ge (tgt := 71) hx hb dX2_hasNear_66 (by decide) (fun c_9 => ?_) (fun c_9 => ?_)
              · refine lv_iinc (v := (nI (j + 1))) (lv' := [(5, .int (nI (j + 1))), (6, .int (A v ((A (q + 1) j).toNatClampNeg))), (4, .int (A v ((A (q + 1) i).toNatClampNeg))), (3, .int (nI i)), (0, .ref (ad q)), (1, .ref (ad v)), (2, .int d)]) hx hb dX2_hasNear_71 hl (k := 1) rfl (nI_1 j) (by decide) rfl (fun ls hl => ?_)
                refine lv_goto (tgt := 25) hx hb dX2_hasNear_74 (by decide) ?_
                exact ih5 (j + 1)  (by omega) (by rw [← hinv5]; simp [ex1, pnr, (show ¬ pv A q v j = -1 from c_8), (show ¬ ab (pv A q v i - pv A q v j) < d from Int32.not_lt.mpr c_9)]) H locs hP hS ls (lv_sub hl [0, 2, 3, 4, 5, 6] rfl)
              · refine lv_iconst (v := 1) hx hb dX2_hasNear_69 (by decide) ?_
                exact W.zret (v := 1) hx hb hr (by decide) (fun t ht hW => ⟨⟨1, (I, G, A, L), rfl, ⟨by have h9 : ex1 (pnr A q v d i) (n - (i + 1)) (i + 1) = 1 := by { rw [← hinv5]; simp [ex1, pnr, (show ¬ pv A q v j = -1 from c_8), (show ab (pv A q v i - pv A q v j) < d from Int32.not_le.mp c_9)] }; rw [← hinv1]; simp [ex1, pna, (show ¬ pv A q v i = -1 from hone), h9], rfl⟩, by rw [ht]; exact hP, va_K.moved hW.alike hK⟩, hS.F ht⟩) hS.2.2 dX2_hasNear_70
        exact lp5 (n - (i + 1)) (i + 1)  (by omega) (rfl) _ _ hP hS ls (lv_sub hl [0, 1, 2, 3, 4, 5] rfl)
  exact lp1 (n) 0  (by omega) (rfl) _ _ hP hS ls (lv_sub hl [0, 1, 2, 3] rfl)

set_option maxHeartbeats 4000000 in
set_option maxRecDepth 100000 in
/-- a value that is loaded too much -/
theorem c_X2_isOverloaded (l : Launch) (D : va_G) (K : Nat → ClassId) (ad : Nat → Nat) (hap0 : apart ad (fun _ => True)) (q v z n : Nat) (hq : RuAt q) (hv : IA v 6) (hz : IA z 6) (I : Nat → Nat → Int32) (G : Nat → Nat → Nat) (A : Nat → Nat → Int32) (L : Nat → Nat → Int64) (hw : RuW I A q n) : Ci l D K ad yX2_isOverloaded wsX2_isOverloaded 1 40 [.ref (ad q), .ref (ad v)] (I, G, A, L) (fun (r : Int32) (u : Mem) => r = ex1 (pov I A q v n) 6 0 ∧ u = (I, G, A, L)) := by
  intro sz
  refine Met.ofW (cc := cX2_isOverloaded) (maxL := 6) (ret := (some .boolean)) (by decide) rfl ?_
  intro p e s m args below meth c s₁ Bd hml hv0
  obtain ⟨rfl, hsz, hP, hK⟩ := hv0
  have hx := Bd.exec
  have hb := Bd.bytes
  have hr := Bd.returns
  have hts := atoms_spec (ws := wsX2_isOverloaded) Bd.pre
  have hown : s.vm.findClass RX2 = some m.cls := findClass_of_methodNamed Bd.named
  have hlocks := Bd.notSynchronized
  have hi2 : ∀ w ∈ u_ws RX2 TX2 7, w ∈ wsX2_isOverloaded := fun w h => List.mem_cons_of_mem _ (List.mem_append_right _ h)
  subst hsz
  have hap := vF_ap hap0 s.heap.size
  have hS : va_S (vF ad s.heap.size) s.heap s.heap [] := va_S.rf
  have hP : va_P D vwCl (VW K ad I G A L) s.heap := hP
  have hl := lv_entry ([.ref (ad q), .ref (ad v)]) (n := 6) (Nat.le_of_ble_eq_true rfl)
  rw [lg_entry_eq]
  generalize (lg_sl ([.ref (ad q), .ref (ad v)]) ++ List.replicate (6 - (lg_sl ([.ref (ad q), .ref (ad v)])).length) Slot.unset).toArray = ls at hl ⊢
  have hl : lv_has ls 6 [(0, .ref (ad q)), (1, .ref (ad v))] := hl
  have hn6 : n ≤ 6 := hw.1
  have hpn : I q 2 = nI n := hw.2.1
  refine lv_iconst (v := 0) hx hb dX2_isOverloaded_0 (by decide) ?_
  refine lv_istore_n (lv' := [(2, .int 0), (0, .ref (ad q)), (1, .ref (ad v))]) hx hb dX2_isOverloaded_1 rfl hl (by decide) rfl (fun ls hl => ?_)
  refine lv_iconst (v := 0) hx hb dX2_isOverloaded_2 (by decide) ?_
  refine lv_istore_n (lv' := [(3, .int 0), (2, .int 0), (0, .ref (ad q)), (1, .ref (ad v))]) hx hb dX2_isOverloaded_3 rfl hl (by decide) rfl (fun ls hl => ?_)
  have kx1 : ∀ (a : Int32), sm (to A q v) 0 n a = sm (to A q v) n 0 0 → ∀ (H : Heap) (locs : List Loc), va_P D vwCl (VW K ad I G A L) H → va_S (vF ad s.heap.size) s.heap H locs → ∀ (ls : Array Slot), lv_has ls 6 [(3, .int (nI n)), (2, .int a), (0, .ref (ad q)), (1, .ref (ad v))] → W p l e ({ frames := 1, cells := 0, slots := 0, locals := 40 }) s m ([.ref (ad q), .ref (ad v)] : List Value).toArray below meth c H locs 0 0 (MQ below (va_Qi (fun (r : Int32) (u : Mem) => r = ex1 (pov I A q v n) 6 0 ∧ u = (I, G, A, L)) (vB D K ad) (vF ad s.heap.size)) ([.ref (ad q), .ref (ad v)] : List Value).toArray s 0 0 (vF ad s.heap.size)) (F0 m 43 ls []) := by
    intro a hinv1 H locs hP hS ls hl
    obtain rfl : a = sm (to A q v) n 0 0 := hinv1
    refine lv_iconst (v := 0) hx hb dX2_isOverloaded_43 (by decide) ?_
    refine lv_istore_n (lv' := [(3, .int 0), (2, .int (sm (to A q v) n 0 0)), (0, .ref (ad q)), (1, .ref (ad v))]) hx hb dX2_isOverloaded_44 rfl hl (by decide) rfl (fun ls hl => ?_)
    have kx2 : ∀ (_ : Unit), ex1 (pov I A q v n) 0 6 = ex1 (pov I A q v n) 6 0 → ∀ (H : Heap) (locs : List Loc), va_P D vwCl (VW K ad I G A L) H → va_S (vF ad s.heap.size) s.heap H locs → ∀ (ls : Array Slot), lv_has ls 6 [(3, .int (nI 6)), (2, .int (sm (to A q v) n 0 0)), (0, .ref (ad q)), (1, .ref (ad v))] → W p l e ({ frames := 1, cells := 0, slots := 0, locals := 40 }) s m ([.ref (ad q), .ref (ad v)] : List Value).toArray below meth c H locs 0 0 (MQ below (va_Qi (fun (r : Int32) (u : Mem) => r = ex1 (pov I A q v n) 6 0 ∧ u = (I, G, A, L)) (vB D K ad) (vF ad s.heap.size)) ([.ref (ad q), .ref (ad v)] : List Value).toArray s 0 0 (vF ad s.heap.size)) (F0 m 114 ls []) := by
      intro _ hinv2 H locs hP hS ls hl
      refine lv_iconst (v := 0) hx hb dX2_isOverloaded_114 (by decide) ?_
      exact W.zret (v := 0) hx hb hr (by decide) (fun t ht hW => ⟨⟨0, (I, G, A, L), rfl, ⟨hinv2, rfl⟩, by rw [ht]; exact hP, va_K.moved hW.alike hK⟩, hS.F ht⟩) hS.2.2 dX2_isOverloaded_115
    have lp2 : ∀ (k2 x : Nat), x + k2 = 6 → ex1 (pov I A q v n) k2 x = ex1 (pov I A q v n) 6 0 → ∀ (H : Heap) (locs : List Loc), va_P D vwCl (VW K ad I G A L) H → va_S (vF ad s.heap.size) s.heap H locs → ∀ (ls : Array Slot), lv_has ls 6 [(3, .int (nI x)), (2, .int (sm (to A q v) n 0 0)), (0, .ref (ad q)), (1, .ref (ad v))] → W p l e ({ frames := 1, cells := 0, slots := 0, locals := 40 }) s m ([.ref (ad q), .ref (ad v)] : List Value).toArray below meth c H locs 0 0 (MQ below (va_Qi (fun (r : Int32) (u : Mem) => r = ex1 (pov I A q v n) 6 0 ∧ u = (I, G, A, L)) (vB D K ad) (vF ad s.heap.size)) ([.ref (ad q), .ref (ad v)] : List Value).toArray s 0 0 (vF ad s.heap.size)) (F0 m 45 ls []) := by
      intro k2
      induction k2 with
      | zero =>
        intro x  hk2 hinv2 H locs hP hS ls hl
        obtain rfl : 6 = x := by omega
        refine lv_iload_n hx hb dX2_isOverloaded_45 rfl (lv_at hl 0 rfl) ?_
        refine lv_bipush (v := 6) hx hb dX2_isOverloaded_46 (by decide) ?_
        refine lv_icmp_ge (tgt := 114) hx hb dX2_isOverloaded_48 (by decide) (fun _ => ?_) (fun c_3 => absurd (by decide) c_3)
        exact kx2 () (hinv2) H locs hP hS ls (lv_sub hl [0, 1, 2, 3] rfl)
      | succ k2 ih2 =>
        intro x  hk2 hinv2 H locs hP hS ls hl
        have hlt2 : x < 6 := by omega
        refine lv_iload_n hx hb dX2_isOverloaded_45 rfl (lv_at hl 0 rfl) ?_
        refine lv_bipush (v := 6) hx hb dX2_isOverloaded_46 (by decide) ?_
        refine lv_icmp_ge (tgt := 114) hx hb dX2_isOverloaded_48 (by decide) (fun c_4 => absurd c_4 (show ¬ (6 : Int32) ≤ nI x from nI_ge (a := x) (b := 6) (by omega) (by omega))) (fun _ => ?_)
        refine lv_iload_n hx hb dX2_isOverloaded_51 rfl (lv_at hl 1 rfl) ?_
        refine lv_istore (lv' := [(4, .int (sm (to A q v) n 0 0)), (3, .int (nI x)), (2, .int (sm (to A q v) n 0 0)), (0, .ref (ad q)), (1, .ref (ad v))]) hx hb dX2_isOverloaded_52 hl (by decide) rfl (fun ls hl => ?_)
        refine lv_iconst (v := 0) hx hb dX2_isOverloaded_54 (by decide) ?_
        refine lv_istore (lv' := [(5, .int 0), (4, .int (sm (to A q v) n 0 0)), (3, .int (nI x)), (2, .int (sm (to A q v) n 0 0)), (0, .ref (ad q)), (1, .ref (ad v))]) hx hb dX2_isOverloaded_55 hl (by decide) rfl (fun ls hl => ?_)
        have kx5 : ∀ (b : Int32), sm (tv A q v (nI x)) 0 n b = sm (tv A q v (nI x)) n 0 (sm (to A q v) n 0 0) → ∀ (H : Heap) (locs : List Loc), va_P D vwCl (VW K ad I G A L) H → va_S (vF ad s.heap.size) s.heap H locs → ∀ (ls : Array Slot), lv_has ls 6 [(5, .int (nI n)), (4, .int b), (3, .int (nI x)), (2, .int (sm (to A q v) n 0 0)), (0, .ref (ad q)), (1, .ref (ad v))] → W p l e ({ frames := 1, cells := 0, slots := 0, locals := 40 }) s m ([.ref (ad q), .ref (ad v)] : List Value).toArray below meth c H locs 0 0 (MQ below (va_Qi (fun (r : Int32) (u : Mem) => r = ex1 (pov I A q v n) 6 0 ∧ u = (I, G, A, L)) (vB D K ad) (vF ad s.heap.size)) ([.ref (ad q), .ref (ad v)] : List Value).toArray s 0 0 (vF ad s.heap.size)) (F0 m 97 ls []) := by
          intro b hinv5 H locs hP hS ls hl
          have hb5 : b = sm (tv A q v (nI x)) n 0 (sm (to A q v) n 0 0) := hinv5
          refine lv_iload hx hb dX2_isOverloaded_97 (lv_at hl 1 rfl) ?_
          refine lv_aload_n hx hb dX2_isOverloaded_99 rfl (lv_at hl 4 rfl) ?_
          refine vgI hx hb hts hi2 hown hK hP (q) (by have := hq.1; omega) hq.2.1 (C := RX2) (T := TX2) (N := 7) rfl 1 (by decide) (by decide) (by decide) (by decide) (hts (.fieldLink RX2 15 "CrateHelpers$Rule" "c" "I") (by decide +kernel)) (fun _ h9 => h9) dX2_isOverloaded_100 ?_
          refine lv_icmp_le (tgt := 108) hx hb dX2_isOverloaded_103 (by decide) (fun c_6 => ?_) (fun c_6 => ?_)
          · rw [hb5] at c_6
            refine lv_iinc (v := (nI (x + 1))) (lv' := [(3, .int (nI (x + 1))), (5, .int (nI n)), (4, .int b), (2, .int (sm (to A q v) n 0 0)), (0, .ref (ad q)), (1, .ref (ad v))]) hx hb dX2_isOverloaded_108 hl (k := 2) rfl (nI_1 x) (by decide) rfl (fun ls hl => ?_)
            refine lv_goto (tgt := 45) hx hb dX2_isOverloaded_111 (by decide) ?_
            exact ih2 (x + 1)  (by omega) (by rw [← hinv2]; simp [ex1, pov, (Int32.not_lt.mpr c_6)]) H locs hP hS ls (lv_sub hl [0, 3, 4, 5] rfl)
          · rw [hb5] at c_6
            refine lv_iconst (v := 1) hx hb dX2_isOverloaded_106 (by decide) ?_
            exact W.zret (v := 1) hx hb hr (by decide) (fun t ht hW => ⟨⟨1, (I, G, A, L), rfl, ⟨by rw [← hinv2]; simp [ex1, pov, (Int32.not_le.mp c_6)], rfl⟩, by rw [ht]; exact hP, va_K.moved hW.alike hK⟩, hS.F ht⟩) hS.2.2 dX2_isOverloaded_107
        have lp5 : ∀ (k5 i : Nat) (b : Int32), i + k5 = n → sm (tv A q v (nI x)) k5 i b = sm (tv A q v (nI x)) n 0 (sm (to A q v) n 0 0) → ∀ (H : Heap) (locs : List Loc), va_P D vwCl (VW K ad I G A L) H → va_S (vF ad s.heap.size) s.heap H locs → ∀ (ls : Array Slot), lv_has ls 6 [(5, .int (nI i)), (4, .int b), (3, .int (nI x)), (2, .int (sm (to A q v) n 0 0)), (0, .ref (ad q)), (1, .ref (ad v))] → W p l e ({ frames := 1, cells := 0, slots := 0, locals := 40 }) s m ([.ref (ad q), .ref (ad v)] : List Value).toArray below meth c H locs 0 0 (MQ below (va_Qi (fun (r : Int32) (u : Mem) => r = ex1 (pov I A q v n) 6 0 ∧ u = (I, G, A, L)) (vB D K ad) (vF ad s.heap.size)) ([.ref (ad q), .ref (ad v)] : List Value).toArray s 0 0 (vF ad s.heap.size)) (F0 m 57 ls []) := by
          intro k5
          induction k5 with
          | zero =>
            intro i b hk5 hinv5 H locs hP hS ls hl
            obtain rfl : n = i := by omega
            refine lv_iload hx hb dX2_isOverloaded_57 (lv_at hl 0 rfl) ?_
            refine lv_aload_n hx hb dX2_isOverloaded_59 rfl (lv_at hl 4 rfl) ?_
            refine vgI hx hb hts hi2 hown hK hP (q) (by have := hq.1; omega) hq.2.1 (C := RX2) (T := TX2) (N := 7) rfl 2 (by decide) (by decide) (by decide) (by decide) (hts (.fieldLink RX2 18 "CrateHelpers$Rule" "parts" "I") (by decide +kernel)) (fun _ h9 => h9) dX2_isOverloaded_60 ?_
            rw [hpn]
            refine lv_icmp_ge (tgt := 97) hx hb dX2_isOverloaded_63 (by decide) (fun _ => ?_) (fun c_7 => absurd (nI_le (Nat.le_refl _) (by omega)) c_7)
            exact kx5 b (hinv5) H locs hP hS ls (lv_sub hl [0, 1, 2, 3, 4, 5] rfl)
          | succ k5 ih5 =>
            intro i b hk5 hinv5 H locs hP hS ls hl
            have hlt5 : i < n := by omega
            have hi15 : vp_in (nI i) (ln (q + 1)) := by rw [hq.2.2.2.2.2.2.1]; exact vp_in_nI (by omega) (by omega)
            have hi25 : vp_in (nI i) (ln (q + 2)) := by rw [hq.2.2.2.2.2.2.2.1]; exact vp_in_nI (by omega) (by omega)
            have hv15 : vp_in (A (q + 1) i) (ln v) := by rw [hv.2.2]; exact hw.2.2 i (by omega)
            refine lv_iload hx hb dX2_isOverloaded_57 (lv_at hl 0 rfl) ?_
            refine lv_aload_n hx hb dX2_isOverloaded_59 rfl (lv_at hl 4 rfl) ?_
            refine vgI hx hb hts hi2 hown hK hP (q) (by have := hq.1; omega) hq.2.1 (C := RX2) (T := TX2) (N := 7) rfl 2 (by decide) (by decide) (by decide) (by decide) (hts (.fieldLink RX2 18 "CrateHelpers$Rule" "parts" "I") (by decide +kernel)) (fun _ h9 => h9) dX2_isOverloaded_60 ?_
            rw [hpn]
            refine lv_icmp_ge (tgt := 97) hx hb dX2_isOverloaded_63 (by decide) (fun c_8 => absurd c_8 (nI_ge (by omega) (by omega))) (fun _ => ?_)
            refine lv_aload_n hx hb dX2_isOverloaded_66 rfl (lv_at hl 5 rfl) ?_
            refine lv_aload_n hx hb dX2_isOverloaded_67 rfl (lv_at hl 4 rfl) ?_
            refine vgS hx hb hts hi2 hown hK hP (q) (by have := hq.1; omega) hq.2.1 (C := RX2) (T := TX2) (N := 7) rfl 3 (by decide) (by decide) (by decide) (by decide) (q + 1) rfl (hts (.fieldLink RX2 21 "CrateHelpers$Rule" "variables" "[I") (by decide +kernel)) (fun _ h9 => h9) dX2_isOverloaded_68 ?_
            refine lv_iload hx hb dX2_isOverloaded_71 (lv_at hl 0 rfl) ?_
            refine xiald hx hb hK hP (q + 1) (by have := hq.1; omega) hq.2.2.1 hi15 dX2_isOverloaded_73 ?_
            rw [nI_clamp (n := i) (by omega)]
            refine xiald hx hb hK hP (v) hv.1 hv.2.1 hv15 dX2_isOverloaded_74 ?_
            refine lv_iload_n hx hb dX2_isOverloaded_75 rfl (lv_at hl 2 rfl) ?_
            refine lv_icmp_ne (tgt := 91) hx hb dX2_isOverloaded_76 (by decide) (fun c_9 => ?_) (fun c_9 => ?_)
            · refine lv_iinc (v := (nI (i + 1))) (lv' := [(5, .int (nI (i + 1))), (4, .int b), (3, .int (nI x)), (2, .int (sm (to A q v) n 0 0)), (0, .ref (ad q)), (1, .ref (ad v))]) hx hb dX2_isOverloaded_91 hl (k := 0) rfl (nI_1 i) (by decide) rfl (fun ls hl => ?_)
              refine lv_goto (tgt := 57) hx hb dX2_isOverloaded_94 (by decide) ?_
              exact ih5 (i + 1) b (by omega) (by rw [← hinv5]; simp [sm, tv, pv, c_9]) H locs hP hS ls (lv_sub hl [0, 1, 2, 3, 4, 5] rfl)
            · refine lv_iload hx hb dX2_isOverloaded_79 (lv_at hl 1 rfl) ?_
              refine lv_aload_n hx hb dX2_isOverloaded_81 rfl (lv_at hl 4 rfl) ?_
              refine vgS hx hb hts hi2 hown hK hP (q) (by have := hq.1; omega) hq.2.1 (C := RX2) (T := TX2) (N := 7) rfl 4 (by decide) (by decide) (by decide) (by decide) (q + 2) rfl (hts (.fieldLink RX2 25 "CrateHelpers$Rule" "weights" "[I") (by decide +kernel)) (fun _ h9 => h9) dX2_isOverloaded_82 ?_
              refine lv_iload hx hb dX2_isOverloaded_85 (lv_at hl 0 rfl) ?_
              refine xiald hx hb hK hP (q + 2) (by have := hq.1; omega) hq.2.2.2.1 hi25 dX2_isOverloaded_87 ?_
              rw [nI_clamp (n := i) (by omega)]
              refine lv_iadd hx hb dX2_isOverloaded_88 ?_
              refine lv_istore (lv' := [(4, .int (b + (A (q + 2) i))), (5, .int (nI i)), (3, .int (nI x)), (2, .int (sm (to A q v) n 0 0)), (0, .ref (ad q)), (1, .ref (ad v))]) hx hb dX2_isOverloaded_89 hl (by decide) rfl (fun ls hl => ?_)
              refine lv_iinc (v := (nI (i + 1))) (lv' := [(5, .int (nI (i + 1))), (4, .int (b + (A (q + 2) i))), (3, .int (nI x)), (2, .int (sm (to A q v) n 0 0)), (0, .ref (ad q)), (1, .ref (ad v))]) hx hb dX2_isOverloaded_91 hl (k := 1) rfl (nI_1 i) (by decide) rfl (fun ls hl => ?_)
              refine lv_goto (tgt := 57) hx hb dX2_isOverloaded_94 (by decide) ?_
              exact ih5 (i + 1) (b + (A (q + 2) i)) (by omega) (by rw [← hinv5]; simp [sm, tv, pv, c_9]) H locs hP hS ls (lv_sub hl [0, 1, 2, 3, 4, 5] rfl)
        exact lp5 (n) 0 (sm (to A q v) n 0 0) (by omega) (rfl) _ _ hP hS ls (lv_sub hl [0, 1, 2, 3, 4, 5] rfl)
    exact lp2 (6) 0  (by omega) (rfl) _ _ hP hS ls (lv_sub hl [0, 1, 2, 3] rfl)
  have lp1 : ∀ (k1 i : Nat) (a : Int32), i + k1 = n → sm (to A q v) k1 i a = sm (to A q v) n 0 0 → ∀ (H : Heap) (locs : List Loc), va_P D vwCl (VW K ad I G A L) H → va_S (vF ad s.heap.size) s.heap H locs → ∀ (ls : Array Slot), lv_has ls 6 [(3, .int (nI i)), (2, .int a), (0, .ref (ad q)), (1, .ref (ad v))] → W p l e ({ frames := 1, cells := 0, slots := 0, locals := 40 }) s m ([.ref (ad q), .ref (ad v)] : List Value).toArray below meth c H locs 0 0 (MQ below (va_Qi (fun (r : Int32) (u : Mem) => r = ex1 (pov I A q v n) 6 0 ∧ u = (I, G, A, L)) (vB D K ad) (vF ad s.heap.size)) ([.ref (ad q), .ref (ad v)] : List Value).toArray s 0 0 (vF ad s.heap.size)) (F0 m 4 ls []) := by
    intro k1
    induction k1 with
    | zero =>
      intro i a hk1 hinv1 H locs hP hS ls hl
      obtain rfl : n = i := by omega
      refine lv_iload_n hx hb dX2_isOverloaded_4 rfl (lv_at hl 0 rfl) ?_
      refine lv_aload_n hx hb dX2_isOverloaded_5 rfl (lv_at hl 2 rfl) ?_
      refine vgI hx hb hts hi2 hown hK hP (q) (by have := hq.1; omega) hq.2.1 (C := RX2) (T := TX2) (N := 7) rfl 2 (by decide) (by decide) (by decide) (by decide) (hts (.fieldLink RX2 18 "CrateHelpers$Rule" "parts" "I") (by decide +kernel)) (fun _ h9 => h9) dX2_isOverloaded_6 ?_
      rw [hpn]
      refine lv_icmp_ge (tgt := 43) hx hb dX2_isOverloaded_9 (by decide) (fun _ => ?_) (fun c_10 => absurd (nI_le (Nat.le_refl _) (by omega)) c_10)
      exact kx1 a (hinv1) H locs hP hS ls (lv_sub hl [0, 1, 2, 3] rfl)
    | succ k1 ih1 =>
      intro i a hk1 hinv1 H locs hP hS ls hl
      have hlt1 : i < n := by omega
      have hi11 : vp_in (nI i) (ln (q + 1)) := by rw [hq.2.2.2.2.2.2.1]; exact vp_in_nI (by omega) (by omega)
      have hi21 : vp_in (nI i) (ln (q + 2)) := by rw [hq.2.2.2.2.2.2.2.1]; exact vp_in_nI (by omega) (by omega)
      have hv11 : vp_in (A (q + 1) i) (ln v) := by rw [hv.2.2]; exact hw.2.2 i (by omega)
      have hz11 : vp_in (A (q + 1) i) (ln z) := by rw [hz.2.2]; exact hw.2.2 i (by omega)
      refine lv_iload_n hx hb dX2_isOverloaded_4 rfl (lv_at hl 0 rfl) ?_
      refine lv_aload_n hx hb dX2_isOverloaded_5 rfl (lv_at hl 2 rfl) ?_
      refine vgI hx hb hts hi2 hown hK hP (q) (by have := hq.1; omega) hq.2.1 (C := RX2) (T := TX2) (N := 7) rfl 2 (by decide) (by decide) (by decide) (by decide) (hts (.fieldLink RX2 18 "CrateHelpers$Rule" "parts" "I") (by decide +kernel)) (fun _ h9 => h9) dX2_isOverloaded_6 ?_
      rw [hpn]
      refine lv_icmp_ge (tgt := 43) hx hb dX2_isOverloaded_9 (by decide) (fun c_11 => absurd c_11 (nI_ge (by omega) (by omega))) (fun _ => ?_)
      refine lv_aload_n hx hb dX2_isOverloaded_12 rfl (lv_at hl 3 rfl) ?_
      refine lv_aload_n hx hb dX2_isOverloaded_13 rfl (lv_at hl 2 rfl) ?_
      refine vgS hx hb hts hi2 hown hK hP (q) (by have := hq.1; omega) hq.2.1 (C := RX2) (T := TX2) (N := 7) rfl 3 (by decide) (by decide) (by decide) (by decide) (q + 1) rfl (hts (.fieldLink RX2 21 "CrateHelpers$Rule" "variables" "[I") (by decide +kernel)) (fun _ h9 => h9) dX2_isOverloaded_14 ?_
      refine lv_iload_n hx hb dX2_isOverloaded_17 rfl (lv_at hl 0 rfl) ?_
      refine xiald hx hb hK hP (q + 1) (by have := hq.1; omega) hq.2.2.1 hi11 dX2_isOverloaded_18 ?_
      rw [nI_clamp (n := i) (by omega)]
      refine xiald hx hb hK hP (v) hv.1 hv.2.1 hv11 dX2_isOverloaded_19 ?_
      refine lv_iconst (v := (-1)) hx hb dX2_isOverloaded_20 (by decide) ?_
      refine lv_icmp_ne (tgt := 37) hx hb dX2_isOverloaded_21 (by decide) (fun c_12 => ?_) (fun c_12 => ?_)
      · refine lv_iinc (v := (nI (i + 1))) (lv' := [(3, .int (nI (i + 1))), (2, .int a), (0, .ref (ad q)), (1, .ref (ad v))]) hx hb dX2_isOverloaded_37 hl (k := 0) rfl (nI_1 i) (by decide) rfl (fun ls hl => ?_)
        refine lv_goto (tgt := 4) hx hb dX2_isOverloaded_40 (by decide) ?_
        exact ih1 (i + 1) a (by omega) (by rw [← hinv1]; simp [sm, to, pv, c_12]) H locs hP hS ls (lv_sub hl [0, 1, 2, 3] rfl)
      · refine lv_iload_n hx hb dX2_isOverloaded_24 rfl (lv_at hl 1 rfl) ?_
        refine lv_iconst (v := 0) hx hb dX2_isOverloaded_25 (by decide) ?_
        refine lv_aload_n hx hb dX2_isOverloaded_26 rfl (lv_at hl 2 rfl) ?_
        refine vgS hx hb hts hi2 hown hK hP (q) (by have := hq.1; omega) hq.2.1 (C := RX2) (T := TX2) (N := 7) rfl 4 (by decide) (by decide) (by decide) (by decide) (q + 2) rfl (hts (.fieldLink RX2 25 "CrateHelpers$Rule" "weights" "[I") (by decide +kernel)) (fun _ h9 => h9) dX2_isOverloaded_27 ?_
        refine lv_iload_n hx hb dX2_isOverloaded_30 rfl (lv_at hl 0 rfl) ?_
        refine xiald hx hb hK hP (q + 2) (by have := hq.1; omega) hq.2.2.2.1 hi21 dX2_isOverloaded_31 ?_
        rw [nI_clamp (n := i) (by omega)]
        refine va_mmin hx hb (by rw [hml]; exact hl.1.symm) hown (hts (.methodLink RX2 63 Lib.Math.min.name) (by decide +kernel)) (hts (.static Lib.Math.min.name) (by decide +kernel)) (hts (.initialized "java/lang/Math") (by decide +kernel)) (hts (.code Lib.Math.min.name Lib.Math.min.code 2 (some .int)) (List.mem_of_getElem? (i := 7) rfl)) (Nat.le_of_ble_eq_true rfl) (Nat.le_of_ble_eq_true rfl) (Nat.le_of_ble_eq_true rfl) (Nat.le_of_ble_eq_true rfl) dX2_isOverloaded_32 ?_
        refine lv_iadd hx hb dX2_isOverloaded_35 ?_
        refine lv_istore_n (lv' := [(2, .int (a + (if (A (q + 2) i) < 0 then (A (q + 2) i) else 0))), (3, .int (nI i)), (0, .ref (ad q)), (1, .ref (ad v))]) hx hb dX2_isOverloaded_36 rfl hl (by decide) rfl (fun ls hl => ?_)
        refine lv_iinc (v := (nI (i + 1))) (lv' := [(3, .int (nI (i + 1))), (2, .int (a + (if (A (q + 2) i) < 0 then (A (q + 2) i) else 0))), (0, .ref (ad q)), (1, .ref (ad v))]) hx hb dX2_isOverloaded_37 hl (k := 1) rfl (nI_1 i) (by decide) rfl (fun ls hl => ?_)
        refine lv_goto (tgt := 4) hx hb dX2_isOverloaded_40 (by decide) ?_
        exact ih1 (i + 1) (a + (if (A (q + 2) i) < 0 then (A (q + 2) i) else 0)) (by omega) (by rw [← hinv1]; simp [sm, to, pv, c_12]) H locs hP hS ls (lv_sub hl [0, 1, 2, 3] rfl)
  exact lp1 (n) 0 0 (by omega) (rfl) _ _ hP hS ls (lv_sub hl [0, 1, 2, 3] rfl)
