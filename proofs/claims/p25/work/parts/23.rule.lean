/-! RULES. A rule lies in five slots from q on; its memory is in order where its parts are, and their variables -/
def RuAt (q : Nat) : Prop := q + 4 < NS ∧ kd q = 2 ∧ kd (q + 1) = 8 ∧ kd (q + 2) = 8 ∧ kd (q + 3) = 11 ∧ kd (q + 4) = 8 ∧ ln (q + 1) = 6 ∧ ln (q + 2) = 6 ∧ ln (q + 3) = 6 ∧ ln (q + 4) = 6
def IA (v n : Nat) : Prop := v < NS ∧ kd v = 8 ∧ ln v = n
/-- n parts, of variables below 6 -/
def RuW (I A : Nat → Nat → Int32) (q n : Nat) : Prop := n ≤ 6 ∧ I q 2 = nI n ∧ ∀ i, i < n → vp_in (A (q + 1) i) 6
/-- the value of the i-th part's variable in the row at slot v -/
def pv (A : Nat → Nat → Int32) (q v i : Nat) : Int32 := A v (A (q + 1) i).toNatClampNeg
/-- what the i-th part adds to the least sum, and to the greatest -/
def tl (A : Nat → Nat → Int32) (q v z i : Nat) : Int32 := if pv A q v i = -1 then (if A (q + 2) i * (A z (A (q + 1) i).toNatClampNeg - 1) < 0 then A (q + 2) i * (A z (A (q + 1) i).toNatClampNeg - 1) else 0) else A (q + 2) i * pv A q v i
def tg (A : Nat → Nat → Int32) (q v z i : Nat) : Int32 := if pv A q v i = -1 then (if 0 < A (q + 2) i * (A z (A (q + 1) i).toNatClampNeg - 1) then A (q + 2) i * (A z (A (q + 1) i).toNatClampNeg - 1) else 0) else A (q + 2) i * pv A q v i
def tw (A : Nat → Nat → Int32) (q v i : Nat) : Int32 := if pv A q v i = -1 ∨ pv A q v i = A (q + 2) i then 1 else 0
def to (A : Nat → Nat → Int32) (q v i : Nat) : Int32 := if pv A q v i = -1 then (if A (q + 2) i < 0 then A (q + 2) i else 0) else 0
def tv (A : Nat → Nat → Int32) (q v : Nat) (x : Int32) (i : Nat) : Int32 := if pv A q v i = x then A (q + 2) i else 0
/-- a sum from i on, k steps -/
def sm (f : Nat → Int32) : Nat → Nat → Int32 → Int32
  | 0, _, a => a
  | k + 1, i, a => sm f k (i + 1) (a + f i)

set_option maxHeartbeats 4000000 in
set_option maxRecDepth 100000 in
/-- X2_leastSum: a sum over the parts -/
theorem c_X2_leastSum (l : Launch) (D : va_G) (K : Nat → ClassId) (ad : Nat → Nat) (hap0 : apart ad (fun _ => True)) (q v z n : Nat) (hq : RuAt q) (hv : IA v 6) (hz : IA z 6) (I : Nat → Nat → Int32) (G : Nat → Nat → Nat) (A : Nat → Nat → Int32) (L : Nat → Nat → Int64) (hw : RuW I A q n) : Ci l D K ad yX2_leastSum wsX2_leastSum 1 40 [.ref (ad q), .ref (ad v), .ref (ad z)] (I, G, A, L) (fun (r : Int32) (u : Mem) => r = sm (tl A q v z) n 0 0 ∧ u = (I, G, A, L)) := by
  intro sz
  refine Met.ofW (cc := cX2_leastSum) (maxL := 7) (ret := (some .int)) (by decide) rfl ?_
  intro p e s m args below meth c s₁ Bd hml hv0
  obtain ⟨rfl, hsz, hP, hK⟩ := hv0
  have hx := Bd.exec
  have hb := Bd.bytes
  have hr := Bd.returns
  have hts := atoms_spec (ws := wsX2_leastSum) Bd.pre
  have hown : s.vm.findClass RX2 = some m.cls := findClass_of_methodNamed Bd.named
  have hlocks := Bd.notSynchronized
  have hi2 : ∀ w ∈ u_ws RX2 TX2 7, w ∈ wsX2_leastSum := fun w h => List.mem_cons_of_mem _ (List.mem_append_right _ h)
  subst hsz
  have hap := vF_ap hap0 s.heap.size
  have hS : va_S (vF ad s.heap.size) s.heap s.heap [] := va_S.rf
  have hP : va_P D vwCl (VW K ad I G A L) s.heap := hP
  have hl := lv_entry ([.ref (ad q), .ref (ad v), .ref (ad z)]) (n := 7) (Nat.le_of_ble_eq_true rfl)
  rw [lg_entry_eq]
  generalize (lg_sl ([.ref (ad q), .ref (ad v), .ref (ad z)]) ++ List.replicate (7 - (lg_sl ([.ref (ad q), .ref (ad v), .ref (ad z)])).length) Slot.unset).toArray = ls at hl ⊢
  have hl : lv_has ls 7 [(0, .ref (ad q)), (1, .ref (ad v)), (2, .ref (ad z))] := hl
  have hn6 : n ≤ 6 := hw.1
  have hpn : I q 2 = nI n := hw.2.1
  refine lv_iconst (v := 0) hx hb dX2_leastSum_0 (by decide) ?_
  refine lv_istore_n (lv' := [(3, .int 0), (0, .ref (ad q)), (1, .ref (ad v)), (2, .ref (ad z))]) hx hb dX2_leastSum_1 rfl hl (by decide) rfl (fun ls hl => ?_)
  refine lv_iconst (v := 0) hx hb dX2_leastSum_2 (by decide) ?_
  refine lv_istore (lv' := [(4, .int 0), (3, .int 0), (0, .ref (ad q)), (1, .ref (ad v)), (2, .ref (ad z))]) hx hb dX2_leastSum_3 hl (by decide) rfl (fun ls hl => ?_)
  have kx1 : ∀ (a : Int32), sm (tl A q v z) 0 n a = sm (tl A q v z) n 0 0 → ∀ (H : Heap) (locs : List Loc), va_P D vwCl (VW K ad I G A L) H → va_S (vF ad s.heap.size) s.heap H locs → ∀ (ls : Array Slot), lv_has ls 7 [(4, .int (nI n)), (3, .int a), (0, .ref (ad q)), (1, .ref (ad v)), (2, .ref (ad z))] → W p l e ({ frames := 1, cells := 0, slots := 0, locals := 40 }) s m ([.ref (ad q), .ref (ad v), .ref (ad z)] : List Value).toArray below meth c H locs 0 0 (MQ below (va_Qi (fun (r : Int32) (u : Mem) => r = sm (tl A q v z) n 0 0 ∧ u = (I, G, A, L)) (vB D K ad) (vF ad s.heap.size)) ([.ref (ad q), .ref (ad v), .ref (ad z)] : List Value).toArray s 0 0 (vF ad s.heap.size)) (F0 m 80 ls []) := by
    intro a hinv1 H locs hP hS ls hl
    refine lv_iload_n hx hb dX2_leastSum_80 rfl (lv_at hl 1 rfl) ?_
    exact W.iret (v := a) hx hb hr (fun t ht hW => ⟨⟨a, (I, G, A, L), rfl, ⟨hinv1, rfl⟩, by rw [ht]; exact hP, va_K.moved hW.alike hK⟩, hS.F ht⟩) hS.2.2 dX2_leastSum_81
  have lp1 : ∀ (k1 i : Nat) (a : Int32), i + k1 = n → sm (tl A q v z) k1 i a = sm (tl A q v z) n 0 0 → ∀ (H : Heap) (locs : List Loc), va_P D vwCl (VW K ad I G A L) H → va_S (vF ad s.heap.size) s.heap H locs → ∀ (ls : Array Slot), lv_has ls 7 [(4, .int (nI i)), (3, .int a), (0, .ref (ad q)), (1, .ref (ad v)), (2, .ref (ad z))] → W p l e ({ frames := 1, cells := 0, slots := 0, locals := 40 }) s m ([.ref (ad q), .ref (ad v), .ref (ad z)] : List Value).toArray below meth c H locs 0 0 (MQ below (va_Qi (fun (r : Int32) (u : Mem) => r = sm (tl A q v z) n 0 0 ∧ u = (I, G, A, L)) (vB D K ad) (vF ad s.heap.size)) ([.ref (ad q), .ref (ad v), .ref (ad z)] : List Value).toArray s 0 0 (vF ad s.heap.size)) (F0 m 5 ls []) := by
    intro k1
    induction k1 with
    | zero =>
      intro i a hk1 hinv1 H locs hP hS ls hl
      obtain rfl : n = i := by omega
      refine lv_iload hx hb dX2_leastSum_5 (lv_at hl 0 rfl) ?_
      refine lv_aload_n hx hb dX2_leastSum_7 rfl (lv_at hl 2 rfl) ?_
      refine vgI hx hb hts hi2 hown hK hP (q) (by have := hq.1; omega) hq.2.1 (C := RX2) (T := TX2) (N := 7) rfl 2 (by decide) (by decide) (by decide) (by decide) (hts (.fieldLink RX2 18 "CrateHelpers$Rule" "parts" "I") (by decide +kernel)) (fun _ h9 => h9) dX2_leastSum_8 ?_
      rw [hpn]
      refine lv_icmp_ge (tgt := 80) hx hb dX2_leastSum_11 (by decide) (fun _ => ?_) (fun c_2 => absurd (nI_le (Nat.le_refl _) (by omega)) c_2)
      exact kx1 a (hinv1) H locs hP hS ls (lv_sub hl [0, 1, 2, 3, 4] rfl)
    | succ k1 ih1 =>
      intro i a hk1 hinv1 H locs hP hS ls hl
      have hlt1 : i < n := by omega
      have hi11 : vp_in (nI i) (ln (q + 1)) := by rw [hq.2.2.2.2.2.2.1]; exact vp_in_nI (by omega) (by omega)
      have hi21 : vp_in (nI i) (ln (q + 2)) := by rw [hq.2.2.2.2.2.2.2.1]; exact vp_in_nI (by omega) (by omega)
      have hv11 : vp_in (A (q + 1) i) (ln v) := by rw [hv.2.2]; exact hw.2.2 i (by omega)
      have hz11 : vp_in (A (q + 1) i) (ln z) := by rw [hz.2.2]; exact hw.2.2 i (by omega)
      refine lv_iload hx hb dX2_leastSum_5 (lv_at hl 0 rfl) ?_
      refine lv_aload_n hx hb dX2_leastSum_7 rfl (lv_at hl 2 rfl) ?_
      refine vgI hx hb hts hi2 hown hK hP (q) (by have := hq.1; omega) hq.2.1 (C := RX2) (T := TX2) (N := 7) rfl 2 (by decide) (by decide) (by decide) (by decide) (hts (.fieldLink RX2 18 "CrateHelpers$Rule" "parts" "I") (by decide +kernel)) (fun _ h9 => h9) dX2_leastSum_8 ?_
      rw [hpn]
      refine lv_icmp_ge (tgt := 80) hx hb dX2_leastSum_11 (by decide) (fun c_3 => absurd c_3 (nI_ge (by omega) (by omega))) (fun _ => ?_)
      refine lv_aload_n hx hb dX2_leastSum_14 rfl (lv_at hl 3 rfl) ?_
      refine lv_aload_n hx hb dX2_leastSum_15 rfl (lv_at hl 2 rfl) ?_
      refine vgS hx hb hts hi2 hown hK hP (q) (by have := hq.1; omega) hq.2.1 (C := RX2) (T := TX2) (N := 7) rfl 3 (by decide) (by decide) (by decide) (by decide) (q + 1) rfl (hts (.fieldLink RX2 21 "CrateHelpers$Rule" "variables" "[I") (by decide +kernel)) (fun _ h9 => h9) dX2_leastSum_16 ?_
      refine lv_iload hx hb dX2_leastSum_19 (lv_at hl 0 rfl) ?_
      refine xiald hx hb hK hP (q + 1) (by have := hq.1; omega) hq.2.2.1 hi11 dX2_leastSum_21 ?_
      rw [nI_clamp (n := i) (by omega)]
      refine xiald hx hb hK hP (v) hv.1 hv.2.1 hv11 dX2_leastSum_22 ?_
      refine lv_istore (lv' := [(5, .int (A v ((A (q + 1) i).toNatClampNeg))), (4, .int (nI i)), (3, .int a), (0, .ref (ad q)), (1, .ref (ad v)), (2, .ref (ad z))]) hx hb dX2_leastSum_23 hl (by decide) rfl (fun ls hl => ?_)
      refine lv_aload_n hx hb dX2_leastSum_25 rfl (lv_at hl 5 rfl) ?_
      refine lv_aload_n hx hb dX2_leastSum_26 rfl (lv_at hl 3 rfl) ?_
      refine vgS hx hb hts hi2 hown hK hP (q) (by have := hq.1; omega) hq.2.1 (C := RX2) (T := TX2) (N := 7) rfl 3 (by decide) (by decide) (by decide) (by decide) (q + 1) rfl (hts (.fieldLink RX2 21 "CrateHelpers$Rule" "variables" "[I") (by decide +kernel)) (fun _ h9 => h9) dX2_leastSum_27 ?_
      refine lv_iload hx hb dX2_leastSum_30 (lv_at hl 1 rfl) ?_
      refine xiald hx hb hK hP (q + 1) (by have := hq.1; omega) hq.2.2.1 hi11 dX2_leastSum_32 ?_
      rw [nI_clamp (n := i) (by omega)]
      refine xiald hx hb hK hP (z) hz.1 hz.2.1 hz11 dX2_leastSum_33 ?_
      refine lv_iconst (v := 1) hx hb dX2_leastSum_34 (by decide) ?_
      refine lv_isub hx hb dX2_leastSum_35 ?_
      refine lv_istore (lv' := [(6, .int ((A z ((A (q + 1) i).toNatClampNeg)) - 1)), (5, .int (A v ((A (q + 1) i).toNatClampNeg))), (4, .int (nI i)), (3, .int a), (0, .ref (ad q)), (1, .ref (ad v)), (2, .ref (ad z))]) hx hb dX2_leastSum_36 hl (by decide) rfl (fun ls hl => ?_)
      refine lv_iload_n hx hb dX2_leastSum_38 rfl (lv_at hl 3 rfl) ?_
      refine lv_iload hx hb dX2_leastSum_39 (lv_at hl 1 rfl) ?_
      refine lv_iconst (v := (-1)) hx hb dX2_leastSum_41 (by decide) ?_
      refine lv_icmp_ne (tgt := 62) hx hb dX2_leastSum_42 (by decide) (fun c_4 => ?_) (fun c_4 => ?_)
      · refine lv_aload_n hx hb dX2_leastSum_62 rfl (lv_at hl 4 rfl) ?_
        refine vgS hx hb hts hi2 hown hK hP (q) (by have := hq.1; omega) hq.2.1 (C := RX2) (T := TX2) (N := 7) rfl 4 (by decide) (by decide) (by decide) (by decide) (q + 2) rfl (hts (.fieldLink RX2 25 "CrateHelpers$Rule" "weights" "[I") (by decide +kernel)) (fun _ h9 => h9) dX2_leastSum_63 ?_
        refine lv_iload hx hb dX2_leastSum_66 (lv_at hl 2 rfl) ?_
        refine xiald hx hb hK hP (q + 2) (by have := hq.1; omega) hq.2.2.2.1 hi21 dX2_leastSum_68 ?_
        rw [nI_clamp (n := i) (by omega)]
        refine lv_iload hx hb dX2_leastSum_69 (lv_at hl 1 rfl) ?_
        refine lv_imul hx hb dX2_leastSum_71 ?_
        refine lv_iadd hx hb dX2_leastSum_72 ?_
        refine lv_istore_n (lv' := [(3, .int (a + ((A (q + 2) i) * (A v ((A (q + 1) i).toNatClampNeg))))), (6, .int ((A z ((A (q + 1) i).toNatClampNeg)) - 1)), (5, .int (A v ((A (q + 1) i).toNatClampNeg))), (4, .int (nI i)), (0, .ref (ad q)), (1, .ref (ad v)), (2, .ref (ad z))]) hx hb dX2_leastSum_73 rfl hl (by decide) rfl (fun ls hl => ?_)
        refine lv_iinc (v := (nI (i + 1))) (lv' := [(4, .int (nI (i + 1))), (3, .int (a + ((A (q + 2) i) * (A v ((A (q + 1) i).toNatClampNeg))))), (6, .int ((A z ((A (q + 1) i).toNatClampNeg)) - 1)), (5, .int (A v ((A (q + 1) i).toNatClampNeg))), (0, .ref (ad q)), (1, .ref (ad v)), (2, .ref (ad z))]) hx hb dX2_leastSum_74 hl (k := 3) rfl (nI_1 i) (by decide) rfl (fun ls hl => ?_)
        refine lv_goto (tgt := 5) hx hb dX2_leastSum_77 (by decide) ?_
        exact ih1 (i + 1) (a + ((A (q + 2) i) * (A v ((A (q + 1) i).toNatClampNeg)))) (by omega) (by rw [← hinv1]; simp [sm, tl, pv, c_4]) H locs hP hS ls (lv_sub hl [0, 1, 4, 5, 6] rfl)
      · refine lv_iconst (v := 0) hx hb dX2_leastSum_45 (by decide) ?_
        refine lv_aload_n hx hb dX2_leastSum_46 rfl (lv_at hl 4 rfl) ?_
        refine vgS hx hb hts hi2 hown hK hP (q) (by have := hq.1; omega) hq.2.1 (C := RX2) (T := TX2) (N := 7) rfl 4 (by decide) (by decide) (by decide) (by decide) (q + 2) rfl (hts (.fieldLink RX2 25 "CrateHelpers$Rule" "weights" "[I") (by decide +kernel)) (fun _ h9 => h9) dX2_leastSum_47 ?_
        refine lv_iload hx hb dX2_leastSum_50 (lv_at hl 2 rfl) ?_
        refine xiald hx hb hK hP (q + 2) (by have := hq.1; omega) hq.2.2.2.1 hi21 dX2_leastSum_52 ?_
        rw [nI_clamp (n := i) (by omega)]
        refine lv_iload hx hb dX2_leastSum_53 (lv_at hl 0 rfl) ?_
        refine lv_imul hx hb dX2_leastSum_55 ?_
        refine va_mmin hx hb (by rw [hml]; exact hl.1.symm) hown (hts (.methodLink RX2 63 Lib.Math.min.name) (by decide +kernel)) (hts (.static Lib.Math.min.name) (by decide +kernel)) (hts (.initialized "java/lang/Math") (by decide +kernel)) (hts (.code Lib.Math.min.name Lib.Math.min.code 2 (some .int)) (List.mem_of_getElem? (i := 7) rfl)) (Nat.le_of_ble_eq_true rfl) (Nat.le_of_ble_eq_true rfl) (Nat.le_of_ble_eq_true rfl) (Nat.le_of_ble_eq_true rfl) dX2_leastSum_56 ?_
        refine lv_goto (tgt := 72) hx hb dX2_leastSum_59 (by decide) ?_
        refine lv_iadd hx hb dX2_leastSum_72 ?_
        refine lv_istore_n (lv' := [(3, .int (a + (if ((A (q + 2) i) * ((A z ((A (q + 1) i).toNatClampNeg)) - 1)) < 0 then ((A (q + 2) i) * ((A z ((A (q + 1) i).toNatClampNeg)) - 1)) else 0))), (6, .int ((A z ((A (q + 1) i).toNatClampNeg)) - 1)), (5, .int (A v ((A (q + 1) i).toNatClampNeg))), (4, .int (nI i)), (0, .ref (ad q)), (1, .ref (ad v)), (2, .ref (ad z))]) hx hb dX2_leastSum_73 rfl hl (by decide) rfl (fun ls hl => ?_)
        refine lv_iinc (v := (nI (i + 1))) (lv' := [(4, .int (nI (i + 1))), (3, .int (a + (if ((A (q + 2) i) * ((A z ((A (q + 1) i).toNatClampNeg)) - 1)) < 0 then ((A (q + 2) i) * ((A z ((A (q + 1) i).toNatClampNeg)) - 1)) else 0))), (6, .int ((A z ((A (q + 1) i).toNatClampNeg)) - 1)), (5, .int (A v ((A (q + 1) i).toNatClampNeg))), (0, .ref (ad q)), (1, .ref (ad v)), (2, .ref (ad z))]) hx hb dX2_leastSum_74 hl (k := 3) rfl (nI_1 i) (by decide) rfl (fun ls hl => ?_)
        refine lv_goto (tgt := 5) hx hb dX2_leastSum_77 (by decide) ?_
        exact ih1 (i + 1) (a + (if ((A (q + 2) i) * ((A z ((A (q + 1) i).toNatClampNeg)) - 1)) < 0 then ((A (q + 2) i) * ((A z ((A (q + 1) i).toNatClampNeg)) - 1)) else 0)) (by omega) (by rw [← hinv1]; simp [sm, tl, pv, c_4]) H locs hP hS ls (lv_sub hl [0, 1, 4, 5, 6] rfl)
  exact lp1 (n) 0 0 (by omega) (rfl) _ _ hP hS ls (lv_sub hl [0, 1, 2, 3, 4] rfl)

set_option maxHeartbeats 4000000 in
set_option maxRecDepth 100000 in
/-- X2_greatestSum: a sum over the parts -/
theorem c_X2_greatestSum (l : Launch) (D : va_G) (K : Nat → ClassId) (ad : Nat → Nat) (hap0 : apart ad (fun _ => True)) (q v z n : Nat) (hq : RuAt q) (hv : IA v 6) (hz : IA z 6) (I : Nat → Nat → Int32) (G : Nat → Nat → Nat) (A : Nat → Nat → Int32) (L : Nat → Nat → Int64) (hw : RuW I A q n) : Ci l D K ad yX2_greatestSum wsX2_greatestSum 1 40 [.ref (ad q), .ref (ad v), .ref (ad z)] (I, G, A, L) (fun (r : Int32) (u : Mem) => r = sm (tg A q v z) n 0 0 ∧ u = (I, G, A, L)) := by
  intro sz
  refine Met.ofW (cc := cX2_greatestSum) (maxL := 7) (ret := (some .int)) (by decide) rfl ?_
  intro p e s m args below meth c s₁ Bd hml hv0
  obtain ⟨rfl, hsz, hP, hK⟩ := hv0
  have hx := Bd.exec
  have hb := Bd.bytes
  have hr := Bd.returns
  have hts := atoms_spec (ws := wsX2_greatestSum) Bd.pre
  have hown : s.vm.findClass RX2 = some m.cls := findClass_of_methodNamed Bd.named
  have hlocks := Bd.notSynchronized
  have hi2 : ∀ w ∈ u_ws RX2 TX2 7, w ∈ wsX2_greatestSum := fun w h => List.mem_cons_of_mem _ (List.mem_append_right _ h)
  subst hsz
  have hap := vF_ap hap0 s.heap.size
  have hS : va_S (vF ad s.heap.size) s.heap s.heap [] := va_S.rf
  have hP : va_P D vwCl (VW K ad I G A L) s.heap := hP
  have hl := lv_entry ([.ref (ad q), .ref (ad v), .ref (ad z)]) (n := 7) (Nat.le_of_ble_eq_true rfl)
  rw [lg_entry_eq]
  generalize (lg_sl ([.ref (ad q), .ref (ad v), .ref (ad z)]) ++ List.replicate (7 - (lg_sl ([.ref (ad q), .ref (ad v), .ref (ad z)])).length) Slot.unset).toArray = ls at hl ⊢
  have hl : lv_has ls 7 [(0, .ref (ad q)), (1, .ref (ad v)), (2, .ref (ad z))] := hl
  have hn6 : n ≤ 6 := hw.1
  have hpn : I q 2 = nI n := hw.2.1
  refine lv_iconst (v := 0) hx hb dX2_greatestSum_0 (by decide) ?_
  refine lv_istore_n (lv' := [(3, .int 0), (0, .ref (ad q)), (1, .ref (ad v)), (2, .ref (ad z))]) hx hb dX2_greatestSum_1 rfl hl (by decide) rfl (fun ls hl => ?_)
  refine lv_iconst (v := 0) hx hb dX2_greatestSum_2 (by decide) ?_
  refine lv_istore (lv' := [(4, .int 0), (3, .int 0), (0, .ref (ad q)), (1, .ref (ad v)), (2, .ref (ad z))]) hx hb dX2_greatestSum_3 hl (by decide) rfl (fun ls hl => ?_)
  have kx1 : ∀ (a : Int32), sm (tg A q v z) 0 n a = sm (tg A q v z) n 0 0 → ∀ (H : Heap) (locs : List Loc), va_P D vwCl (VW K ad I G A L) H → va_S (vF ad s.heap.size) s.heap H locs → ∀ (ls : Array Slot), lv_has ls 7 [(4, .int (nI n)), (3, .int a), (0, .ref (ad q)), (1, .ref (ad v)), (2, .ref (ad z))] → W p l e ({ frames := 1, cells := 0, slots := 0, locals := 40 }) s m ([.ref (ad q), .ref (ad v), .ref (ad z)] : List Value).toArray below meth c H locs 0 0 (MQ below (va_Qi (fun (r : Int32) (u : Mem) => r = sm (tg A q v z) n 0 0 ∧ u = (I, G, A, L)) (vB D K ad) (vF ad s.heap.size)) ([.ref (ad q), .ref (ad v), .ref (ad z)] : List Value).toArray s 0 0 (vF ad s.heap.size)) (F0 m 80 ls []) := by
    intro a hinv1 H locs hP hS ls hl
    refine lv_iload_n hx hb dX2_greatestSum_80 rfl (lv_at hl 1 rfl) ?_
    exact W.iret (v := a) hx hb hr (fun t ht hW => ⟨⟨a, (I, G, A, L), rfl, ⟨hinv1, rfl⟩, by rw [ht]; exact hP, va_K.moved hW.alike hK⟩, hS.F ht⟩) hS.2.2 dX2_greatestSum_81
  have lp1 : ∀ (k1 i : Nat) (a : Int32), i + k1 = n → sm (tg A q v z) k1 i a = sm (tg A q v z) n 0 0 → ∀ (H : Heap) (locs : List Loc), va_P D vwCl (VW K ad I G A L) H → va_S (vF ad s.heap.size) s.heap H locs → ∀ (ls : Array Slot), lv_has ls 7 [(4, .int (nI i)), (3, .int a), (0, .ref (ad q)), (1, .ref (ad v)), (2, .ref (ad z))] → W p l e ({ frames := 1, cells := 0, slots := 0, locals := 40 }) s m ([.ref (ad q), .ref (ad v), .ref (ad z)] : List Value).toArray below meth c H locs 0 0 (MQ below (va_Qi (fun (r : Int32) (u : Mem) => r = sm (tg A q v z) n 0 0 ∧ u = (I, G, A, L)) (vB D K ad) (vF ad s.heap.size)) ([.ref (ad q), .ref (ad v), .ref (ad z)] : List Value).toArray s 0 0 (vF ad s.heap.size)) (F0 m 5 ls []) := by
    intro k1
    induction k1 with
    | zero =>
      intro i a hk1 hinv1 H locs hP hS ls hl
      obtain rfl : n = i := by omega
      refine lv_iload hx hb dX2_greatestSum_5 (lv_at hl 0 rfl) ?_
      refine lv_aload_n hx hb dX2_greatestSum_7 rfl (lv_at hl 2 rfl) ?_
      refine vgI hx hb hts hi2 hown hK hP (q) (by have := hq.1; omega) hq.2.1 (C := RX2) (T := TX2) (N := 7) rfl 2 (by decide) (by decide) (by decide) (by decide) (hts (.fieldLink RX2 18 "CrateHelpers$Rule" "parts" "I") (by decide +kernel)) (fun _ h9 => h9) dX2_greatestSum_8 ?_
      rw [hpn]
      refine lv_icmp_ge (tgt := 80) hx hb dX2_greatestSum_11 (by decide) (fun _ => ?_) (fun c_2 => absurd (nI_le (Nat.le_refl _) (by omega)) c_2)
      exact kx1 a (hinv1) H locs hP hS ls (lv_sub hl [0, 1, 2, 3, 4] rfl)
    | succ k1 ih1 =>
      intro i a hk1 hinv1 H locs hP hS ls hl
      have hlt1 : i < n := by omega
      have hi11 : vp_in (nI i) (ln (q + 1)) := by rw [hq.2.2.2.2.2.2.1]; exact vp_in_nI (by omega) (by omega)
      have hi21 : vp_in (nI i) (ln (q + 2)) := by rw [hq.2.2.2.2.2.2.2.1]; exact vp_in_nI (by omega) (by omega)
      have hv11 : vp_in (A (q + 1) i) (ln v) := by rw [hv.2.2]; exact hw.2.2 i (by omega)
      have hz11 : vp_in (A (q + 1) i) (ln z) := by rw [hz.2.2]; exact hw.2.2 i (by omega)
      refine lv_iload hx hb dX2_greatestSum_5 (lv_at hl 0 rfl) ?_
      refine lv_aload_n hx hb dX2_greatestSum_7 rfl (lv_at hl 2 rfl) ?_
      refine vgI hx hb hts hi2 hown hK hP (q) (by have := hq.1; omega) hq.2.1 (C := RX2) (T := TX2) (N := 7) rfl 2 (by decide) (by decide) (by decide) (by decide) (hts (.fieldLink RX2 18 "CrateHelpers$Rule" "parts" "I") (by decide +kernel)) (fun _ h9 => h9) dX2_greatestSum_8 ?_
      rw [hpn]
      refine lv_icmp_ge (tgt := 80) hx hb dX2_greatestSum_11 (by decide) (fun c_3 => absurd c_3 (nI_ge (by omega) (by omega))) (fun _ => ?_)
      refine lv_aload_n hx hb dX2_greatestSum_14 rfl (lv_at hl 3 rfl) ?_
      refine lv_aload_n hx hb dX2_greatestSum_15 rfl (lv_at hl 2 rfl) ?_
      refine vgS hx hb hts hi2 hown hK hP (q) (by have := hq.1; omega) hq.2.1 (C := RX2) (T := TX2) (N := 7) rfl 3 (by decide) (by decide) (by decide) (by decide) (q + 1) rfl (hts (.fieldLink RX2 21 "CrateHelpers$Rule" "variables" "[I") (by decide +kernel)) (fun _ h9 => h9) dX2_greatestSum_16 ?_
      refine lv_iload hx hb dX2_greatestSum_19 (lv_at hl 0 rfl) ?_
      refine xiald hx hb hK hP (q + 1) (by have := hq.1; omega) hq.2.2.1 hi11 dX2_greatestSum_21 ?_
      rw [nI_clamp (n := i) (by omega)]
      refine xiald hx hb hK hP (v) hv.1 hv.2.1 hv11 dX2_greatestSum_22 ?_
      refine lv_istore (lv' := [(5, .int (A v ((A (q + 1) i).toNatClampNeg))), (4, .int (nI i)), (3, .int a), (0, .ref (ad q)), (1, .ref (ad v)), (2, .ref (ad z))]) hx hb dX2_greatestSum_23 hl (by decide) rfl (fun ls hl => ?_)
      refine lv_aload_n hx hb dX2_greatestSum_25 rfl (lv_at hl 5 rfl) ?_
      refine lv_aload_n hx hb dX2_greatestSum_26 rfl (lv_at hl 3 rfl) ?_
      refine vgS hx hb hts hi2 hown hK hP (q) (by have := hq.1; omega) hq.2.1 (C := RX2) (T := TX2) (N := 7) rfl 3 (by decide) (by decide) (by decide) (by decide) (q + 1) rfl (hts (.fieldLink RX2 21 "CrateHelpers$Rule" "variables" "[I") (by decide +kernel)) (fun _ h9 => h9) dX2_greatestSum_27 ?_
      refine lv_iload hx hb dX2_greatestSum_30 (lv_at hl 1 rfl) ?_
      refine xiald hx hb hK hP (q + 1) (by have := hq.1; omega) hq.2.2.1 hi11 dX2_greatestSum_32 ?_
      rw [nI_clamp (n := i) (by omega)]
      refine xiald hx hb hK hP (z) hz.1 hz.2.1 hz11 dX2_greatestSum_33 ?_
      refine lv_iconst (v := 1) hx hb dX2_greatestSum_34 (by decide) ?_
      refine lv_isub hx hb dX2_greatestSum_35 ?_
      refine lv_istore (lv' := [(6, .int ((A z ((A (q + 1) i).toNatClampNeg)) - 1)), (5, .int (A v ((A (q + 1) i).toNatClampNeg))), (4, .int (nI i)), (3, .int a), (0, .ref (ad q)), (1, .ref (ad v)), (2, .ref (ad z))]) hx hb dX2_greatestSum_36 hl (by decide) rfl (fun ls hl => ?_)
      refine lv_iload_n hx hb dX2_greatestSum_38 rfl (lv_at hl 3 rfl) ?_
      refine lv_iload hx hb dX2_greatestSum_39 (lv_at hl 1 rfl) ?_
      refine lv_iconst (v := (-1)) hx hb dX2_greatestSum_41 (by decide) ?_
      refine lv_icmp_ne (tgt := 62) hx hb dX2_greatestSum_42 (by decide) (fun c_4 => ?_) (fun c_4 => ?_)
      · refine lv_aload_n hx hb dX2_greatestSum_62 rfl (lv_at hl 4 rfl) ?_
        refine vgS hx hb hts hi2 hown hK hP (q) (by have := hq.1; omega) hq.2.1 (C := RX2) (T := TX2) (N := 7) rfl 4 (by decide) (by decide) (by decide) (by decide) (q + 2) rfl (hts (.fieldLink RX2 25 "CrateHelpers$Rule" "weights" "[I") (by decide +kernel)) (fun _ h9 => h9) dX2_greatestSum_63 ?_
        refine lv_iload hx hb dX2_greatestSum_66 (lv_at hl 2 rfl) ?_
        refine xiald hx hb hK hP (q + 2) (by have := hq.1; omega) hq.2.2.2.1 hi21 dX2_greatestSum_68 ?_
        rw [nI_clamp (n := i) (by omega)]
        refine lv_iload hx hb dX2_greatestSum_69 (lv_at hl 1 rfl) ?_
        refine lv_imul hx hb dX2_greatestSum_71 ?_
        refine lv_iadd hx hb dX2_greatestSum_72 ?_
        refine lv_istore_n (lv' := [(3, .int (a + ((A (q + 2) i) * (A v ((A (q + 1) i).toNatClampNeg))))), (6, .int ((A z ((A (q + 1) i).toNatClampNeg)) - 1)), (5, .int (A v ((A (q + 1) i).toNatClampNeg))), (4, .int (nI i)), (0, .ref (ad q)), (1, .ref (ad v)), (2, .ref (ad z))]) hx hb dX2_greatestSum_73 rfl hl (by decide) rfl (fun ls hl => ?_)
        refine lv_iinc (v := (nI (i + 1))) (lv' := [(4, .int (nI (i + 1))), (3, .int (a + ((A (q + 2) i) * (A v ((A (q + 1) i).toNatClampNeg))))), (6, .int ((A z ((A (q + 1) i).toNatClampNeg)) - 1)), (5, .int (A v ((A (q + 1) i).toNatClampNeg))), (0, .ref (ad q)), (1, .ref (ad v)), (2, .ref (ad z))]) hx hb dX2_greatestSum_74 hl (k := 3) rfl (nI_1 i) (by decide) rfl (fun ls hl => ?_)
        refine lv_goto (tgt := 5) hx hb dX2_greatestSum_77 (by decide) ?_
        exact ih1 (i + 1) (a + ((A (q + 2) i) * (A v ((A (q + 1) i).toNatClampNeg)))) (by omega) (by rw [← hinv1]; simp [sm, tg, pv, c_4]) H locs hP hS ls (lv_sub hl [0, 1, 4, 5, 6] rfl)
      · refine lv_iconst (v := 0) hx hb dX2_greatestSum_45 (by decide) ?_
        refine lv_aload_n hx hb dX2_greatestSum_46 rfl (lv_at hl 4 rfl) ?_
        refine vgS hx hb hts hi2 hown hK hP (q) (by have := hq.1; omega) hq.2.1 (C := RX2) (T := TX2) (N := 7) rfl 4 (by decide) (by decide) (by decide) (by decide) (q + 2) rfl (hts (.fieldLink RX2 25 "CrateHelpers$Rule" "weights" "[I") (by decide +kernel)) (fun _ h9 => h9) dX2_greatestSum_47 ?_
        refine lv_iload hx hb dX2_greatestSum_50 (lv_at hl 2 rfl) ?_
        refine xiald hx hb hK hP (q + 2) (by have := hq.1; omega) hq.2.2.2.1 hi21 dX2_greatestSum_52 ?_
        rw [nI_clamp (n := i) (by omega)]
        refine lv_iload hx hb dX2_greatestSum_53 (lv_at hl 0 rfl) ?_
        refine lv_imul hx hb dX2_greatestSum_55 ?_
        refine va_mmax hx hb (by rw [hml]; exact hl.1.symm) hown (hts (.methodLink RX2 50 Lib.Math.max.name) (by decide +kernel)) (hts (.static Lib.Math.max.name) (by decide +kernel)) (hts (.initialized "java/lang/Math") (by decide +kernel)) (hts (.code Lib.Math.max.name Lib.Math.max.code 2 (some .int)) (List.mem_of_getElem? (i := 7) rfl)) (Nat.le_of_ble_eq_true rfl) (Nat.le_of_ble_eq_true rfl) (Nat.le_of_ble_eq_true rfl) (Nat.le_of_ble_eq_true rfl) dX2_greatestSum_56 ?_
        refine lv_goto (tgt := 72) hx hb dX2_greatestSum_59 (by decide) ?_
        refine lv_iadd hx hb dX2_greatestSum_72 ?_
        refine lv_istore_n (lv' := [(3, .int (a + (if 0 < ((A (q + 2) i) * ((A z ((A (q + 1) i).toNatClampNeg)) - 1)) then ((A (q + 2) i) * ((A z ((A (q + 1) i).toNatClampNeg)) - 1)) else 0))), (6, .int ((A z ((A (q + 1) i).toNatClampNeg)) - 1)), (5, .int (A v ((A (q + 1) i).toNatClampNeg))), (4, .int (nI i)), (0, .ref (ad q)), (1, .ref (ad v)), (2, .ref (ad z))]) hx hb dX2_greatestSum_73 rfl hl (by decide) rfl (fun ls hl => ?_)
        refine lv_iinc (v := (nI (i + 1))) (lv' := [(4, .int (nI (i + 1))), (3, .int (a + (if 0 < ((A (q + 2) i) * ((A z ((A (q + 1) i).toNatClampNeg)) - 1)) then ((A (q + 2) i) * ((A z ((A (q + 1) i).toNatClampNeg)) - 1)) else 0))), (6, .int ((A z ((A (q + 1) i).toNatClampNeg)) - 1)), (5, .int (A v ((A (q + 1) i).toNatClampNeg))), (0, .ref (ad q)), (1, .ref (ad v)), (2, .ref (ad z))]) hx hb dX2_greatestSum_74 hl (k := 3) rfl (nI_1 i) (by decide) rfl (fun ls hl => ?_)
        refine lv_goto (tgt := 5) hx hb dX2_greatestSum_77 (by decide) ?_
        exact ih1 (i + 1) (a + (if 0 < ((A (q + 2) i) * ((A z ((A (q + 1) i).toNatClampNeg)) - 1)) then ((A (q + 2) i) * ((A z ((A (q + 1) i).toNatClampNeg)) - 1)) else 0)) (by omega) (by rw [← hinv1]; simp [sm, tg, pv, c_4]) H locs hP hS ls (lv_sub hl [0, 1, 4, 5, 6] rfl)
  exact lp1 (n) 0 0 (by omega) (rfl) _ _ hP hS ls (lv_sub hl [0, 1, 2, 3, 4] rfl)
