/-- is there one from i on, within k steps? -/
def ex1 (p : Nat → Bool) : Nat → Nat → Int32
  | 0, _ => 0
  | k + 1, i => if p i = true then 1 else ex1 p k (i + 1)
/-- the i-th part's value is below the one's before it, by c -/
def pst (I A : Nat → Nat → Int32) (q v j : Nat) : Bool := decide (pv A q v j ≠ -1 ∧ pv A q v (j + 1) ≠ -1 ∧ pv A q v (j + 1) < pv A q v j + I q 1)
def ab (x : Int32) : Int32 := if 0 ≤ x then x else 0 - x
def pnr (A : Nat → Nat → Int32) (q v : Nat) (d : Int32) (i j : Nat) : Bool := decide (pv A q v j ≠ -1 ∧ ab (pv A q v i - pv A q v j) < d)
def pna (A : Nat → Nat → Int32) (q v n : Nat) (d : Int32) (i : Nat) : Bool := decide (pv A q v i ≠ -1 ∧ ex1 (pnr A q v d i) (n - (i + 1)) (i + 1) = 1)
def pov (I A : Nat → Nat → Int32) (q v n : Nat) (x : Nat) : Bool := decide (I q 1 < sm (tv A q v (nI x)) n 0 (sm (to A q v) n 0 0))
theorem nar01 {x : Int32} (h : x = 0 ∨ x = 1) : narrow .boolean (.int x) = .int x := by rcases h with rfl | rfl <;> rfl
theorem ex1_01 (p : Nat → Bool) : ∀ k i, ex1 p k i = 0 ∨ ex1 p k i = 1
  | 0, _ => Or.inl rfl
  | k + 1, i => by
    unfold ex1
    by_cases h : p i = true
    · rw [if_pos h]; exact Or.inr rfl
    · rw [if_neg h]; exact ex1_01 p k (i + 1)

set_option maxHeartbeats 4000000 in
set_option maxRecDepth 100000 in
/-- what a rule tells -/
theorem c_X2_tell (l : Launch) (D : va_G) (K : Nat → ClassId) (ad : Nat → Nat) (hap0 : apart ad (fun _ => True)) (q : Nat) (hq : RuAt q) (w : Int32) (I : Nat → Nat → Int32) (G : Nat → Nat → Nat) (A : Nat → Nat → Int32) (L : Nat → Nat → Int64)  : Ci l D K ad yX2_tell wsX2_tell 1 40 [.ref (ad q), .int w] (I, G, A, L) (fun (r : Int32) (u : Mem) => r = (if w = 2 then I q 0 else if w = 3 then I q 1 else I q 2) ∧ u = (I, G, A, L)) := by
  intro sz
  refine Met.ofW (cc := cX2_tell) (maxL := 2) (ret := (some .int)) (by decide) rfl ?_
  intro p e s m args below meth c s₁ Bd hml hv0
  obtain ⟨rfl, hsz, hP, hK⟩ := hv0
  have hx := Bd.exec
  have hb := Bd.bytes
  have hr := Bd.returns
  have hts := atoms_spec (ws := wsX2_tell) Bd.pre
  have hown : s.vm.findClass RX2 = some m.cls := findClass_of_methodNamed Bd.named
  have hlocks := Bd.notSynchronized
  have hi2 : ∀ w ∈ u_ws RX2 TX2 7, w ∈ wsX2_tell := fun w h => List.mem_cons_of_mem _ (List.mem_append_right _ h)
  subst hsz
  have hap := vF_ap hap0 s.heap.size
  have hS : va_S (vF ad s.heap.size) s.heap s.heap [] := va_S.rf
  have hP : va_P D vwCl (VW K ad I G A L) s.heap := hP
  have hl := lv_entry ([.ref (ad q), .int w]) (n := 2) (Nat.le_of_ble_eq_true rfl)
  rw [lg_entry_eq]
  generalize (lg_sl ([.ref (ad q), .int w]) ++ List.replicate (2 - (lg_sl ([.ref (ad q), .int w])).length) Slot.unset).toArray = ls at hl ⊢
  have hl : lv_has ls 2 [(0, .ref (ad q)), (1, .int w)] := hl
  refine lv_iload_n hx hb dX2_tell_0 rfl (lv_at hl 1 rfl) ?_
  refine lv_iconst (v := 2) hx hb dX2_tell_1 (by decide) ?_
  refine lv_icmp_ne (tgt := 10) hx hb dX2_tell_2 (by decide) (fun c_1 => ?_) (fun c_1 => ?_)
  · refine lv_iload_n hx hb dX2_tell_10 rfl (lv_at hl 1 rfl) ?_
    refine lv_iconst (v := 3) hx hb dX2_tell_11 (by decide) ?_
    refine lv_icmp_ne (tgt := 22) hx hb dX2_tell_12 (by decide) (fun c_2 => ?_) (fun c_2 => ?_)
    · refine lv_aload_n hx hb dX2_tell_22 rfl (lv_at hl 0 rfl) ?_
      refine vgI hx hb hts hi2 hown hK hP (q) (by have := hq.1; omega) hq.2.1 (C := RX2) (T := TX2) (N := 7) rfl 2 (by decide) (by decide) (by decide) (by decide) (hts (.fieldLink RX2 18 "CrateHelpers$Rule" "parts" "I") (by decide +kernel)) (fun _ h9 => h9) dX2_tell_23 ?_
      exact W.iret (v := (I q 2)) hx hb hr (fun t ht hW => ⟨⟨(I q 2), (I, G, A, L), rfl, ⟨by simp [c_1, c_2], rfl⟩, by rw [ht]; exact hP, va_K.moved hW.alike hK⟩, hS.F ht⟩) hS.2.2 dX2_tell_26
    · refine lv_aload_n hx hb dX2_tell_15 rfl (lv_at hl 0 rfl) ?_
      refine vgI hx hb hts hi2 hown hK hP (q) (by have := hq.1; omega) hq.2.1 (C := RX2) (T := TX2) (N := 7) rfl 1 (by decide) (by decide) (by decide) (by decide) (hts (.fieldLink RX2 15 "CrateHelpers$Rule" "c" "I") (by decide +kernel)) (fun _ h9 => h9) dX2_tell_16 ?_
      refine lv_goto (tgt := 26) hx hb dX2_tell_19 (by decide) ?_
      exact W.iret (v := (I q 1)) hx hb hr (fun t ht hW => ⟨⟨(I q 1), (I, G, A, L), rfl, ⟨by simp [c_1, c_2], rfl⟩, by rw [ht]; exact hP, va_K.moved hW.alike hK⟩, hS.F ht⟩) hS.2.2 dX2_tell_26
  · refine lv_aload_n hx hb dX2_tell_5 rfl (lv_at hl 0 rfl) ?_
    refine vgI hx hb hts hi2 hown hK hP (q) (by have := hq.1; omega) hq.2.1 (C := RX2) (T := TX2) (N := 7) rfl 0 (by decide) (by decide) (by decide) (by decide) (hts (.fieldLink RX2 9 "CrateHelpers$Rule" "kind" "I") (by decide +kernel)) (fun _ h9 => h9) dX2_tell_6 ?_
    exact W.iret (v := (I q 0)) hx hb hr (fun t ht hW => ⟨⟨(I q 0), (I, G, A, L), rfl, ⟨by simp [c_1], rfl⟩, by rw [ht]; exact hP, va_K.moved hW.alike hK⟩, hS.F ht⟩) hS.2.2 dX2_tell_9

set_option maxHeartbeats 4000000 in
set_option maxRecDepth 100000 in
/-- how many are willing -/
theorem c_X2_willing (l : Launch) (D : va_G) (K : Nat → ClassId) (ad : Nat → Nat) (hap0 : apart ad (fun _ => True)) (q v z n : Nat) (hq : RuAt q) (hv : IA v 6) (hz : IA z 6) (I : Nat → Nat → Int32) (G : Nat → Nat → Nat) (A : Nat → Nat → Int32) (L : Nat → Nat → Int64) (hw : RuW I A q n) : Ci l D K ad yX2_willing wsX2_willing 1 40 [.ref (ad q), .ref (ad v)] (I, G, A, L) (fun (r : Int32) (u : Mem) => r = sm (tw A q v) n 0 0 ∧ u = (I, G, A, L)) := by
  intro sz
  refine Met.ofW (cc := cX2_willing) (maxL := 5) (ret := (some .int)) (by decide) rfl ?_
  intro p e s m args below meth c s₁ Bd hml hv0
  obtain ⟨rfl, hsz, hP, hK⟩ := hv0
  have hx := Bd.exec
  have hb := Bd.bytes
  have hr := Bd.returns
  have hts := atoms_spec (ws := wsX2_willing) Bd.pre
  have hown : s.vm.findClass RX2 = some m.cls := findClass_of_methodNamed Bd.named
  have hlocks := Bd.notSynchronized
  have hi2 : ∀ w ∈ u_ws RX2 TX2 7, w ∈ wsX2_willing := fun w h => List.mem_cons_of_mem _ (List.mem_append_right _ h)
  subst hsz
  have hap := vF_ap hap0 s.heap.size
  have hS : va_S (vF ad s.heap.size) s.heap s.heap [] := va_S.rf
  have hP : va_P D vwCl (VW K ad I G A L) s.heap := hP
  have hl := lv_entry ([.ref (ad q), .ref (ad v)]) (n := 5) (Nat.le_of_ble_eq_true rfl)
  rw [lg_entry_eq]
  generalize (lg_sl ([.ref (ad q), .ref (ad v)]) ++ List.replicate (5 - (lg_sl ([.ref (ad q), .ref (ad v)])).length) Slot.unset).toArray = ls at hl ⊢
  have hl : lv_has ls 5 [(0, .ref (ad q)), (1, .ref (ad v))] := hl
  have hn6 : n ≤ 6 := hw.1
  have hpn : I q 2 = nI n := hw.2.1
  refine lv_iconst (v := 0) hx hb dX2_willing_0 (by decide) ?_
  refine lv_istore_n (lv' := [(2, .int 0), (0, .ref (ad q)), (1, .ref (ad v))]) hx hb dX2_willing_1 rfl hl (by decide) rfl (fun ls hl => ?_)
  refine lv_iconst (v := 0) hx hb dX2_willing_2 (by decide) ?_
  refine lv_istore_n (lv' := [(3, .int 0), (2, .int 0), (0, .ref (ad q)), (1, .ref (ad v))]) hx hb dX2_willing_3 rfl hl (by decide) rfl (fun ls hl => ?_)
  have kx1 : ∀ (a : Int32), sm (tw A q v) 0 n a = sm (tw A q v) n 0 0 → ∀ (H : Heap) (locs : List Loc), va_P D vwCl (VW K ad I G A L) H → va_S (vF ad s.heap.size) s.heap H locs → ∀ (ls : Array Slot), lv_has ls 5 [(3, .int (nI n)), (2, .int a), (0, .ref (ad q)), (1, .ref (ad v))] → W p l e ({ frames := 1, cells := 0, slots := 0, locals := 40 }) s m ([.ref (ad q), .ref (ad v)] : List Value).toArray below meth c H locs 0 0 (MQ below (va_Qi (fun (r : Int32) (u : Mem) => r = sm (tw A q v) n 0 0 ∧ u = (I, G, A, L)) (vB D K ad) (vF ad s.heap.size)) ([.ref (ad q), .ref (ad v)] : List Value).toArray s 0 0 (vF ad s.heap.size)) (F0 m 48 ls []) := by
    intro a hinv1 H locs hP hS ls hl
    refine lv_iload_n hx hb dX2_willing_48 rfl (lv_at hl 1 rfl) ?_
    exact W.iret (v := a) hx hb hr (fun t ht hW => ⟨⟨a, (I, G, A, L), rfl, ⟨hinv1, rfl⟩, by rw [ht]; exact hP, va_K.moved hW.alike hK⟩, hS.F ht⟩) hS.2.2 dX2_willing_49
  have lp1 : ∀ (k1 i : Nat) (a : Int32), i + k1 = n → sm (tw A q v) k1 i a = sm (tw A q v) n 0 0 → ∀ (H : Heap) (locs : List Loc), va_P D vwCl (VW K ad I G A L) H → va_S (vF ad s.heap.size) s.heap H locs → ∀ (ls : Array Slot), lv_has ls 5 [(3, .int (nI i)), (2, .int a), (0, .ref (ad q)), (1, .ref (ad v))] → W p l e ({ frames := 1, cells := 0, slots := 0, locals := 40 }) s m ([.ref (ad q), .ref (ad v)] : List Value).toArray below meth c H locs 0 0 (MQ below (va_Qi (fun (r : Int32) (u : Mem) => r = sm (tw A q v) n 0 0 ∧ u = (I, G, A, L)) (vB D K ad) (vF ad s.heap.size)) ([.ref (ad q), .ref (ad v)] : List Value).toArray s 0 0 (vF ad s.heap.size)) (F0 m 4 ls []) := by
    intro k1
    induction k1 with
    | zero =>
      intro i a hk1 hinv1 H locs hP hS ls hl
      obtain rfl : n = i := by omega
      refine lv_iload_n hx hb dX2_willing_4 rfl (lv_at hl 0 rfl) ?_
      refine lv_aload_n hx hb dX2_willing_5 rfl (lv_at hl 2 rfl) ?_
      refine vgI hx hb hts hi2 hown hK hP (q) (by have := hq.1; omega) hq.2.1 (C := RX2) (T := TX2) (N := 7) rfl 2 (by decide) (by decide) (by decide) (by decide) (hts (.fieldLink RX2 18 "CrateHelpers$Rule" "parts" "I") (by decide +kernel)) (fun _ h9 => h9) dX2_willing_6 ?_
      rw [hpn]
      refine lv_icmp_ge (tgt := 48) hx hb dX2_willing_9 (by decide) (fun _ => ?_) (fun c_2 => absurd (nI_le (Nat.le_refl _) (by omega)) c_2)
      exact kx1 a (hinv1) H locs hP hS ls (lv_sub hl [0, 1, 2, 3] rfl)
    | succ k1 ih1 =>
      intro i a hk1 hinv1 H locs hP hS ls hl
      have hlt1 : i < n := by omega
      have hi11 : vp_in (nI i) (ln (q + 1)) := by rw [hq.2.2.2.2.2.2.1]; exact vp_in_nI (by omega) (by omega)
      have hi21 : vp_in (nI i) (ln (q + 2)) := by rw [hq.2.2.2.2.2.2.2.1]; exact vp_in_nI (by omega) (by omega)
      have hv11 : vp_in (A (q + 1) i) (ln v) := by rw [hv.2.2]; exact hw.2.2 i (by omega)
      have hz11 : vp_in (A (q + 1) i) (ln z) := by rw [hz.2.2]; exact hw.2.2 i (by omega)
      refine lv_iload_n hx hb dX2_willing_4 rfl (lv_at hl 0 rfl) ?_
      refine lv_aload_n hx hb dX2_willing_5 rfl (lv_at hl 2 rfl) ?_
      refine vgI hx hb hts hi2 hown hK hP (q) (by have := hq.1; omega) hq.2.1 (C := RX2) (T := TX2) (N := 7) rfl 2 (by decide) (by decide) (by decide) (by decide) (hts (.fieldLink RX2 18 "CrateHelpers$Rule" "parts" "I") (by decide +kernel)) (fun _ h9 => h9) dX2_willing_6 ?_
      rw [hpn]
      refine lv_icmp_ge (tgt := 48) hx hb dX2_willing_9 (by decide) (fun c_3 => absurd c_3 (nI_ge (by omega) (by omega))) (fun _ => ?_)
      refine lv_aload_n hx hb dX2_willing_12 rfl (lv_at hl 3 rfl) ?_
      refine lv_aload_n hx hb dX2_willing_13 rfl (lv_at hl 2 rfl) ?_
      refine vgS hx hb hts hi2 hown hK hP (q) (by have := hq.1; omega) hq.2.1 (C := RX2) (T := TX2) (N := 7) rfl 3 (by decide) (by decide) (by decide) (by decide) (q + 1) rfl (hts (.fieldLink RX2 21 "CrateHelpers$Rule" "variables" "[I") (by decide +kernel)) (fun _ h9 => h9) dX2_willing_14 ?_
      refine lv_iload_n hx hb dX2_willing_17 rfl (lv_at hl 0 rfl) ?_
      refine xiald hx hb hK hP (q + 1) (by have := hq.1; omega) hq.2.2.1 hi11 dX2_willing_18 ?_
      rw [nI_clamp (n := i) (by omega)]
      refine xiald hx hb hK hP (v) hv.1 hv.2.1 hv11 dX2_willing_19 ?_
      refine lv_istore (lv' := [(4, .int (A v ((A (q + 1) i).toNatClampNeg))), (3, .int (nI i)), (2, .int a), (0, .ref (ad q)), (1, .ref (ad v))]) hx hb dX2_willing_20 hl (by decide) rfl (fun ls hl => ?_)
      refine lv_iload hx hb dX2_willing_22 (lv_at hl 0 rfl) ?_
      refine lv_iconst (v := (-1)) hx hb dX2_willing_24 (by decide) ?_
      refine lv_icmp_eq (tgt := 39) hx hb dX2_willing_25 (by decide) (fun c_4 => ?_) (fun c_4 => ?_)
      · refine lv_iinc (v := (a + 1)) (lv' := [(2, .int (a + 1)), (4, .int (A v ((A (q + 1) i).toNatClampNeg))), (3, .int (nI i)), (0, .ref (ad q)), (1, .ref (ad v))]) hx hb dX2_willing_39 hl (k := 2) rfl rfl (by decide) rfl (fun ls hl => ?_)
        refine lv_iinc (v := (nI (i + 1))) (lv' := [(3, .int (nI (i + 1))), (2, .int (a + 1)), (4, .int (A v ((A (q + 1) i).toNatClampNeg))), (0, .ref (ad q)), (1, .ref (ad v))]) hx hb dX2_willing_42 hl (k := 2) rfl (nI_1 i) (by decide) rfl (fun ls hl => ?_)
        refine lv_goto (tgt := 4) hx hb dX2_willing_45 (by decide) ?_
        exact ih1 (i + 1) (a + 1) (by omega) (by rw [← hinv1]; simp [sm, tw, pv, c_4]) H locs hP hS ls (lv_sub hl [0, 1, 3, 4] rfl)
      · refine lv_iload hx hb dX2_willing_28 (lv_at hl 0 rfl) ?_
        refine lv_aload_n hx hb dX2_willing_30 rfl (lv_at hl 3 rfl) ?_
        refine vgS hx hb hts hi2 hown hK hP (q) (by have := hq.1; omega) hq.2.1 (C := RX2) (T := TX2) (N := 7) rfl 4 (by decide) (by decide) (by decide) (by decide) (q + 2) rfl (hts (.fieldLink RX2 25 "CrateHelpers$Rule" "weights" "[I") (by decide +kernel)) (fun _ h9 => h9) dX2_willing_31 ?_
        refine lv_iload_n hx hb dX2_willing_34 rfl (lv_at hl 1 rfl) ?_
        refine xiald hx hb hK hP (q + 2) (by have := hq.1; omega) hq.2.2.2.1 hi21 dX2_willing_35 ?_
        rw [nI_clamp (n := i) (by omega)]
        refine lv_icmp_ne (tgt := 42) hx hb dX2_willing_36 (by decide) (fun c_5 => ?_) (fun c_5 => ?_)
        · refine lv_iinc (v := (nI (i + 1))) (lv' := [(3, .int (nI (i + 1))), (4, .int (A v ((A (q + 1) i).toNatClampNeg))), (2, .int a), (0, .ref (ad q)), (1, .ref (ad v))]) hx hb dX2_willing_42 hl (k := 1) rfl (nI_1 i) (by decide) rfl (fun ls hl => ?_)
          refine lv_goto (tgt := 4) hx hb dX2_willing_45 (by decide) ?_
          exact ih1 (i + 1) a (by omega) (by rw [← hinv1]; simp [sm, tw, pv, c_4, c_5]) H locs hP hS ls (lv_sub hl [0, 2, 3, 4] rfl)
        · refine lv_iinc (v := (a + 1)) (lv' := [(2, .int (a + 1)), (4, .int (A v ((A (q + 1) i).toNatClampNeg))), (3, .int (nI i)), (0, .ref (ad q)), (1, .ref (ad v))]) hx hb dX2_willing_39 hl (k := 2) rfl rfl (by decide) rfl (fun ls hl => ?_)
          refine lv_iinc (v := (nI (i + 1))) (lv' := [(3, .int (nI (i + 1))), (2, .int (a + 1)), (4, .int (A v ((A (q + 1) i).toNatClampNeg))), (0, .ref (ad q)), (1, .ref (ad v))]) hx hb dX2_willing_42 hl (k := 2) rfl (nI_1 i) (by decide) rfl (fun ls hl => ?_)
          refine lv_goto (tgt := 4) hx hb dX2_willing_45 (by decide) ?_
          exact ih1 (i + 1) (a + 1) (by omega) (by rw [← hinv1]; simp [sm, tw, pv, c_4, c_5]) H locs hP hS ls (lv_sub hl [0, 1, 3, 4] rfl)
  exact lp1 (n) 0 0 (by omega) (rfl) _ _ hP hS ls (lv_sub hl [0, 1, 2, 3] rfl)

set_option maxHeartbeats 4000000 in
set_option maxRecDepth 100000 in
/-- does the rule treat both variables alike? -/
theorem c_X2_treatsAlike (l : Launch) (D : va_G) (K : Nat → ClassId) (ad : Nat → Nat) (hap0 : apart ad (fun _ => True)) (q x y : Nat) (hq : RuAt q) (hx6 : x < 6) (hy6 : y < 6) (I : Nat → Nat → Int32) (G : Nat → Nat → Nat) (A : Nat → Nat → Int32) (L : Nat → Nat → Int64)  : Ci l D K ad yX2_treatsAlike wsX2_treatsAlike 1 40 [.ref (ad q), .int (nI x), .int (nI y)] (I, G, A, L) (fun (r : Int32) (u : Mem) => r = (if (A (q + 3) x = 0 ∧ A (q + 3) y = 0) ∨ (I q 0 ≠ 6 ∧ A (q + 3) x ≠ 0 ∧ A (q + 3) y ≠ 0 ∧ A (q + 4) x = A (q + 4) y) then 1 else 0) ∧ u = (I, G, A, L)) := by
  intro sz
  refine Met.ofW (cc := cX2_treatsAlike) (maxL := 3) (ret := (some .boolean)) (by decide) rfl ?_
  intro p e s m args below meth c s₁ Bd hml hv0
  obtain ⟨rfl, hsz, hP, hK⟩ := hv0
  have hx := Bd.exec
  have hb := Bd.bytes
  have hr := Bd.returns
  have hts := atoms_spec (ws := wsX2_treatsAlike) Bd.pre
  have hown : s.vm.findClass RX2 = some m.cls := findClass_of_methodNamed Bd.named
  have hlocks := Bd.notSynchronized
  have hi2 : ∀ w ∈ u_ws RX2 TX2 7, w ∈ wsX2_treatsAlike := fun w h => List.mem_cons_of_mem _ (List.mem_append_right _ h)
  subst hsz
  have hap := vF_ap hap0 s.heap.size
  have hS : va_S (vF ad s.heap.size) s.heap s.heap [] := va_S.rf
  have hP : va_P D vwCl (VW K ad I G A L) s.heap := hP
  have hl := lv_entry ([.ref (ad q), .int (nI x), .int (nI y)]) (n := 3) (Nat.le_of_ble_eq_true rfl)
  rw [lg_entry_eq]
  generalize (lg_sl ([.ref (ad q), .int (nI x), .int (nI y)]) ++ List.replicate (3 - (lg_sl ([.ref (ad q), .int (nI x), .int (nI y)])).length) Slot.unset).toArray = ls at hl ⊢
  have hl : lv_has ls 3 [(0, .ref (ad q)), (1, .int (nI x)), (2, .int (nI y))] := hl
  have hx3 : vp_in (nI x) (ln (q + 3)) := by rw [hq.2.2.2.2.2.2.2.2.1]; exact vp_in_nI hx6 (by omega)
  have hy3 : vp_in (nI y) (ln (q + 3)) := by rw [hq.2.2.2.2.2.2.2.2.1]; exact vp_in_nI hy6 (by omega)
  have hx4 : vp_in (nI x) (ln (q + 4)) := by rw [hq.2.2.2.2.2.2.2.2.2]; exact vp_in_nI hx6 (by omega)
  have hy4 : vp_in (nI y) (ln (q + 4)) := by rw [hq.2.2.2.2.2.2.2.2.2]; exact vp_in_nI hy6 (by omega)
  refine lv_aload_n hx hb dX2_treatsAlike_0 rfl (lv_at hl 0 rfl) ?_
  refine vgS hx hb hts hi2 hown hK hP (q) (by have := hq.1; omega) hq.2.1 (C := RX2) (T := TX2) (N := 7) rfl 5 (by decide) (by decide) (by decide) (by decide) (q + 3) rfl (hts (.fieldLink RX2 28 "CrateHelpers$Rule" "isPart" "[Z") (by decide +kernel)) (fun _ h9 => h9) dX2_treatsAlike_1 ?_
  refine lv_iload_n hx hb dX2_treatsAlike_4 rfl (lv_at hl 1 rfl) ?_
  refine xzald hx hb hK hP (q + 3) (by have := hq.1; omega) hq.2.2.2.2.1 hx3 dX2_treatsAlike_5 ?_
  rw [nI_clamp (n := x) (by omega)]
  refine lv_if_ne (tgt := 20) hx hb dX2_treatsAlike_6 (by decide) (fun c_1 => ?_) (fun c_1 => ?_)
  · refine lv_aload_n hx hb dX2_treatsAlike_20 rfl (lv_at hl 0 rfl) ?_
    refine vgI hx hb hts hi2 hown hK hP (q) (by have := hq.1; omega) hq.2.1 (C := RX2) (T := TX2) (N := 7) rfl 0 (by decide) (by decide) (by decide) (by decide) (hts (.fieldLink RX2 9 "CrateHelpers$Rule" "kind" "I") (by decide +kernel)) (fun _ h9 => h9) dX2_treatsAlike_21 ?_
    refine lv_bipush (v := 6) hx hb dX2_treatsAlike_24 (by decide) ?_
    refine lv_icmp_eq (tgt := 66) hx hb dX2_treatsAlike_26 (by decide) (fun c_2 => ?_) (fun c_2 => ?_)
    · refine lv_iconst (v := 0) hx hb dX2_treatsAlike_66 (by decide) ?_
      exact W.zret (v := 0) hx hb hr (by decide) (fun t ht hW => ⟨⟨0, (I, G, A, L), rfl, ⟨by first | (simp [c_1, c_2]; done) | exact absurd c_1 c_2 | exact absurd c_2 c_1, rfl⟩, by rw [ht]; exact hP, va_K.moved hW.alike hK⟩, hS.F ht⟩) hS.2.2 dX2_treatsAlike_67
    · refine lv_aload_n hx hb dX2_treatsAlike_29 rfl (lv_at hl 0 rfl) ?_
      refine vgS hx hb hts hi2 hown hK hP (q) (by have := hq.1; omega) hq.2.1 (C := RX2) (T := TX2) (N := 7) rfl 5 (by decide) (by decide) (by decide) (by decide) (q + 3) rfl (hts (.fieldLink RX2 28 "CrateHelpers$Rule" "isPart" "[Z") (by decide +kernel)) (fun _ h9 => h9) dX2_treatsAlike_30 ?_
      refine lv_iload_n hx hb dX2_treatsAlike_33 rfl (lv_at hl 1 rfl) ?_
      refine xzald hx hb hK hP (q + 3) (by have := hq.1; omega) hq.2.2.2.2.1 hx3 dX2_treatsAlike_34 ?_
      rw [nI_clamp (n := x) (by omega)]
      refine lv_if_eq (tgt := 66) hx hb dX2_treatsAlike_35 (by decide) (fun c_3 => ?_) (fun c_3 => ?_)
      · refine lv_iconst (v := 0) hx hb dX2_treatsAlike_66 (by decide) ?_
        exact W.zret (v := 0) hx hb hr (by decide) (fun t ht hW => ⟨⟨0, (I, G, A, L), rfl, ⟨by first | (simp [c_1, c_2, c_3]; done) | exact absurd c_1 c_2 | exact absurd c_1 c_3 | exact absurd c_2 c_1 | exact absurd c_2 c_3 | exact absurd c_3 c_1 | exact absurd c_3 c_2, rfl⟩, by rw [ht]; exact hP, va_K.moved hW.alike hK⟩, hS.F ht⟩) hS.2.2 dX2_treatsAlike_67
      · refine lv_aload_n hx hb dX2_treatsAlike_38 rfl (lv_at hl 0 rfl) ?_
        refine vgS hx hb hts hi2 hown hK hP (q) (by have := hq.1; omega) hq.2.1 (C := RX2) (T := TX2) (N := 7) rfl 5 (by decide) (by decide) (by decide) (by decide) (q + 3) rfl (hts (.fieldLink RX2 28 "CrateHelpers$Rule" "isPart" "[Z") (by decide +kernel)) (fun _ h9 => h9) dX2_treatsAlike_39 ?_
        refine lv_iload_n hx hb dX2_treatsAlike_42 rfl (lv_at hl 2 rfl) ?_
        refine xzald hx hb hK hP (q + 3) (by have := hq.1; omega) hq.2.2.2.2.1 hy3 dX2_treatsAlike_43 ?_
        rw [nI_clamp (n := y) (by omega)]
        refine lv_if_eq (tgt := 66) hx hb dX2_treatsAlike_44 (by decide) (fun c_4 => ?_) (fun c_4 => ?_)
        · refine lv_iconst (v := 0) hx hb dX2_treatsAlike_66 (by decide) ?_
          exact W.zret (v := 0) hx hb hr (by decide) (fun t ht hW => ⟨⟨0, (I, G, A, L), rfl, ⟨by first | (simp [c_1, c_2, c_3, c_4]; done) | exact absurd c_1 c_2 | exact absurd c_1 c_3 | exact absurd c_1 c_4 | exact absurd c_2 c_1 | exact absurd c_2 c_3 | exact absurd c_2 c_4 | exact absurd c_3 c_1 | exact absurd c_3 c_2 | exact absurd c_3 c_4 | exact absurd c_4 c_1 | exact absurd c_4 c_2 | exact absurd c_4 c_3, rfl⟩, by rw [ht]; exact hP, va_K.moved hW.alike hK⟩, hS.F ht⟩) hS.2.2 dX2_treatsAlike_67
        · refine lv_aload_n hx hb dX2_treatsAlike_47 rfl (lv_at hl 0 rfl) ?_
          refine vgS hx hb hts hi2 hown hK hP (q) (by have := hq.1; omega) hq.2.1 (C := RX2) (T := TX2) (N := 7) rfl 6 (by decide) (by decide) (by decide) (by decide) (q + 4) rfl (hts (.fieldLink RX2 32 "CrateHelpers$Rule" "weightOf" "[I") (by decide +kernel)) (fun _ h9 => h9) dX2_treatsAlike_48 ?_
          refine lv_iload_n hx hb dX2_treatsAlike_51 rfl (lv_at hl 1 rfl) ?_
          refine xiald hx hb hK hP (q + 4) (by have := hq.1; omega) hq.2.2.2.2.2.1 hx4 dX2_treatsAlike_52 ?_
          rw [nI_clamp (n := x) (by omega)]
          refine lv_aload_n hx hb dX2_treatsAlike_53 rfl (lv_at hl 0 rfl) ?_
          refine vgS hx hb hts hi2 hown hK hP (q) (by have := hq.1; omega) hq.2.1 (C := RX2) (T := TX2) (N := 7) rfl 6 (by decide) (by decide) (by decide) (by decide) (q + 4) rfl (hts (.fieldLink RX2 32 "CrateHelpers$Rule" "weightOf" "[I") (by decide +kernel)) (fun _ h9 => h9) dX2_treatsAlike_54 ?_
          refine lv_iload_n hx hb dX2_treatsAlike_57 rfl (lv_at hl 2 rfl) ?_
          refine xiald hx hb hK hP (q + 4) (by have := hq.1; omega) hq.2.2.2.2.2.1 hy4 dX2_treatsAlike_58 ?_
          rw [nI_clamp (n := y) (by omega)]
          refine lv_icmp_ne (tgt := 66) hx hb dX2_treatsAlike_59 (by decide) (fun c_5 => ?_) (fun c_5 => ?_)
          · refine lv_iconst (v := 0) hx hb dX2_treatsAlike_66 (by decide) ?_
            exact W.zret (v := 0) hx hb hr (by decide) (fun t ht hW => ⟨⟨0, (I, G, A, L), rfl, ⟨by first | (simp [c_1, c_2, c_3, c_4, c_5]; done) | exact absurd c_1 c_2 | exact absurd c_1 c_3 | exact absurd c_1 c_4 | exact absurd c_1 c_5 | exact absurd c_2 c_1 | exact absurd c_2 c_3 | exact absurd c_2 c_4 | exact absurd c_2 c_5 | exact absurd c_3 c_1 | exact absurd c_3 c_2 | exact absurd c_3 c_4 | exact absurd c_3 c_5 | exact absurd c_4 c_1 | exact absurd c_4 c_2 | exact absurd c_4 c_3 | exact absurd c_4 c_5 | exact absurd c_5 c_1 | exact absurd c_5 c_2 | exact absurd c_5 c_3 | exact absurd c_5 c_4, rfl⟩, by rw [ht]; exact hP, va_K.moved hW.alike hK⟩, hS.F ht⟩) hS.2.2 dX2_treatsAlike_67
          · refine lv_iconst (v := 1) hx hb dX2_treatsAlike_62 (by decide) ?_
            refine lv_goto (tgt := 67) hx hb dX2_treatsAlike_63 (by decide) ?_
            exact W.zret (v := 1) hx hb hr (by decide) (fun t ht hW => ⟨⟨1, (I, G, A, L), rfl, ⟨by first | (simp [c_1, c_2, c_3, c_4, c_5]; done) | exact absurd c_1 c_2 | exact absurd c_1 c_3 | exact absurd c_1 c_4 | exact absurd c_1 c_5 | exact absurd c_2 c_1 | exact absurd c_2 c_3 | exact absurd c_2 c_4 | exact absurd c_2 c_5 | exact absurd c_3 c_1 | exact absurd c_3 c_2 | exact absurd c_3 c_4 | exact absurd c_3 c_5 | exact absurd c_4 c_1 | exact absurd c_4 c_2 | exact absurd c_4 c_3 | exact absurd c_4 c_5 | exact absurd c_5 c_1 | exact absurd c_5 c_2 | exact absurd c_5 c_3 | exact absurd c_5 c_4, rfl⟩, by rw [ht]; exact hP, va_K.moved hW.alike hK⟩, hS.F ht⟩) hS.2.2 dX2_treatsAlike_67
  · refine lv_aload_n hx hb dX2_treatsAlike_9 rfl (lv_at hl 0 rfl) ?_
    refine vgS hx hb hts hi2 hown hK hP (q) (by have := hq.1; omega) hq.2.1 (C := RX2) (T := TX2) (N := 7) rfl 5 (by decide) (by decide) (by decide) (by decide) (q + 3) rfl (hts (.fieldLink RX2 28 "CrateHelpers$Rule" "isPart" "[Z") (by decide +kernel)) (fun _ h9 => h9) dX2_treatsAlike_10 ?_
    refine lv_iload_n hx hb dX2_treatsAlike_13 rfl (lv_at hl 2 rfl) ?_
    refine xzald hx hb hK hP (q + 3) (by have := hq.1; omega) hq.2.2.2.2.1 hy3 dX2_treatsAlike_14 ?_
    rw [nI_clamp (n := y) (by omega)]
    refine lv_if_ne (tgt := 20) hx hb dX2_treatsAlike_15 (by decide) (fun c_6 => ?_) (fun c_6 => ?_)
    · refine lv_aload_n hx hb dX2_treatsAlike_20 rfl (lv_at hl 0 rfl) ?_
      refine vgI hx hb hts hi2 hown hK hP (q) (by have := hq.1; omega) hq.2.1 (C := RX2) (T := TX2) (N := 7) rfl 0 (by decide) (by decide) (by decide) (by decide) (hts (.fieldLink RX2 9 "CrateHelpers$Rule" "kind" "I") (by decide +kernel)) (fun _ h9 => h9) dX2_treatsAlike_21 ?_
      refine lv_bipush (v := 6) hx hb dX2_treatsAlike_24 (by decide) ?_
      refine lv_icmp_eq (tgt := 66) hx hb dX2_treatsAlike_26 (by decide) (fun c_7 => ?_) (fun c_7 => ?_)
      · refine lv_iconst (v := 0) hx hb dX2_treatsAlike_66 (by decide) ?_
        exact W.zret (v := 0) hx hb hr (by decide) (fun t ht hW => ⟨⟨0, (I, G, A, L), rfl, ⟨by first | (simp [c_1, c_6, c_7]; done) | exact absurd c_1 c_6 | exact absurd c_1 c_7 | exact absurd c_6 c_1 | exact absurd c_6 c_7 | exact absurd c_7 c_1 | exact absurd c_7 c_6, rfl⟩, by rw [ht]; exact hP, va_K.moved hW.alike hK⟩, hS.F ht⟩) hS.2.2 dX2_treatsAlike_67
      · refine lv_aload_n hx hb dX2_treatsAlike_29 rfl (lv_at hl 0 rfl) ?_
        refine vgS hx hb hts hi2 hown hK hP (q) (by have := hq.1; omega) hq.2.1 (C := RX2) (T := TX2) (N := 7) rfl 5 (by decide) (by decide) (by decide) (by decide) (q + 3) rfl (hts (.fieldLink RX2 28 "CrateHelpers$Rule" "isPart" "[Z") (by decide +kernel)) (fun _ h9 => h9) dX2_treatsAlike_30 ?_
        refine lv_iload_n hx hb dX2_treatsAlike_33 rfl (lv_at hl 1 rfl) ?_
        refine xzald hx hb hK hP (q + 3) (by have := hq.1; omega) hq.2.2.2.2.1 hx3 dX2_treatsAlike_34 ?_
        rw [nI_clamp (n := x) (by omega)]
        refine lv_if_eq (tgt := 66) hx hb dX2_treatsAlike_35 (by decide) (fun c_8 => ?_) (fun c_8 => ?_)
        · refine lv_iconst (v := 0) hx hb dX2_treatsAlike_66 (by decide) ?_
          exact W.zret (v := 0) hx hb hr (by decide) (fun t ht hW => ⟨⟨0, (I, G, A, L), rfl, ⟨by first | (simp [c_1, c_6, c_7, c_8]; done) | exact absurd c_1 c_6 | exact absurd c_1 c_7 | exact absurd c_1 c_8 | exact absurd c_6 c_1 | exact absurd c_6 c_7 | exact absurd c_6 c_8 | exact absurd c_7 c_1 | exact absurd c_7 c_6 | exact absurd c_7 c_8 | exact absurd c_8 c_1 | exact absurd c_8 c_6 | exact absurd c_8 c_7, rfl⟩, by rw [ht]; exact hP, va_K.moved hW.alike hK⟩, hS.F ht⟩) hS.2.2 dX2_treatsAlike_67
        · refine lv_aload_n hx hb dX2_treatsAlike_38 rfl (lv_at hl 0 rfl) ?_
          refine vgS hx hb hts hi2 hown hK hP (q) (by have := hq.1; omega) hq.2.1 (C := RX2) (T := TX2) (N := 7) rfl 5 (by decide) (by decide) (by decide) (by decide) (q + 3) rfl (hts (.fieldLink RX2 28 "CrateHelpers$Rule" "isPart" "[Z") (by decide +kernel)) (fun _ h9 => h9) dX2_treatsAlike_39 ?_
          refine lv_iload_n hx hb dX2_treatsAlike_42 rfl (lv_at hl 2 rfl) ?_
          refine xzald hx hb hK hP (q + 3) (by have := hq.1; omega) hq.2.2.2.2.1 hy3 dX2_treatsAlike_43 ?_
          rw [nI_clamp (n := y) (by omega)]
          refine lv_if_eq (tgt := 66) hx hb dX2_treatsAlike_44 (by decide) (fun c_9 => ?_) (fun c_9 => ?_)
          · refine lv_iconst (v := 0) hx hb dX2_treatsAlike_66 (by decide) ?_
            exact W.zret (v := 0) hx hb hr (by decide) (fun t ht hW => ⟨⟨0, (I, G, A, L), rfl, ⟨by first | (simp [c_1, c_6, c_7, c_8, c_9]; done) | exact absurd c_1 c_6 | exact absurd c_1 c_7 | exact absurd c_1 c_8 | exact absurd c_1 c_9 | exact absurd c_6 c_1 | exact absurd c_6 c_7 | exact absurd c_6 c_8 | exact absurd c_6 c_9 | exact absurd c_7 c_1 | exact absurd c_7 c_6 | exact absurd c_7 c_8 | exact absurd c_7 c_9 | exact absurd c_8 c_1 | exact absurd c_8 c_6 | exact absurd c_8 c_7 | exact absurd c_8 c_9 | exact absurd c_9 c_1 | exact absurd c_9 c_6 | exact absurd c_9 c_7 | exact absurd c_9 c_8, rfl⟩, by rw [ht]; exact hP, va_K.moved hW.alike hK⟩, hS.F ht⟩) hS.2.2 dX2_treatsAlike_67
          · refine lv_aload_n hx hb dX2_treatsAlike_47 rfl (lv_at hl 0 rfl) ?_
            refine vgS hx hb hts hi2 hown hK hP (q) (by have := hq.1; omega) hq.2.1 (C := RX2) (T := TX2) (N := 7) rfl 6 (by decide) (by decide) (by decide) (by decide) (q + 4) rfl (hts (.fieldLink RX2 32 "CrateHelpers$Rule" "weightOf" "[I") (by decide +kernel)) (fun _ h9 => h9) dX2_treatsAlike_48 ?_
            refine lv_iload_n hx hb dX2_treatsAlike_51 rfl (lv_at hl 1 rfl) ?_
            refine xiald hx hb hK hP (q + 4) (by have := hq.1; omega) hq.2.2.2.2.2.1 hx4 dX2_treatsAlike_52 ?_
            rw [nI_clamp (n := x) (by omega)]
            refine lv_aload_n hx hb dX2_treatsAlike_53 rfl (lv_at hl 0 rfl) ?_
            refine vgS hx hb hts hi2 hown hK hP (q) (by have := hq.1; omega) hq.2.1 (C := RX2) (T := TX2) (N := 7) rfl 6 (by decide) (by decide) (by decide) (by decide) (q + 4) rfl (hts (.fieldLink RX2 32 "CrateHelpers$Rule" "weightOf" "[I") (by decide +kernel)) (fun _ h9 => h9) dX2_treatsAlike_54 ?_
            refine lv_iload_n hx hb dX2_treatsAlike_57 rfl (lv_at hl 2 rfl) ?_
            refine xiald hx hb hK hP (q + 4) (by have := hq.1; omega) hq.2.2.2.2.2.1 hy4 dX2_treatsAlike_58 ?_
            rw [nI_clamp (n := y) (by omega)]
            refine lv_icmp_ne (tgt := 66) hx hb dX2_treatsAlike_59 (by decide) (fun c_10 => ?_) (fun c_10 => ?_)
            · refine lv_iconst (v := 0) hx hb dX2_treatsAlike_66 (by decide) ?_
              exact W.zret (v := 0) hx hb hr (by decide) (fun t ht hW => ⟨⟨0, (I, G, A, L), rfl, ⟨by first | (simp [c_1, c_6, c_7, c_8, c_9, c_10]; done) | exact absurd c_1 c_6 | exact absurd c_1 c_7 | exact absurd c_1 c_8 | exact absurd c_1 c_9 | exact absurd c_1 c_10 | exact absurd c_6 c_1 | exact absurd c_6 c_7 | exact absurd c_6 c_8 | exact absurd c_6 c_9 | exact absurd c_6 c_10 | exact absurd c_7 c_1 | exact absurd c_7 c_6 | exact absurd c_7 c_8 | exact absurd c_7 c_9 | exact absurd c_7 c_10 | exact absurd c_8 c_1 | exact absurd c_8 c_6 | exact absurd c_8 c_7 | exact absurd c_8 c_9 | exact absurd c_8 c_10 | exact absurd c_9 c_1 | exact absurd c_9 c_6 | exact absurd c_9 c_7 | exact absurd c_9 c_8 | exact absurd c_9 c_10 | exact absurd c_10 c_1 | exact absurd c_10 c_6 | exact absurd c_10 c_7 | exact absurd c_10 c_8 | exact absurd c_10 c_9, rfl⟩, by rw [ht]; exact hP, va_K.moved hW.alike hK⟩, hS.F ht⟩) hS.2.2 dX2_treatsAlike_67
            · refine lv_iconst (v := 1) hx hb dX2_treatsAlike_62 (by decide) ?_
              refine lv_goto (tgt := 67) hx hb dX2_treatsAlike_63 (by decide) ?_
              exact W.zret (v := 1) hx hb hr (by decide) (fun t ht hW => ⟨⟨1, (I, G, A, L), rfl, ⟨by first | (simp [c_1, c_6, c_7, c_8, c_9, c_10]; done) | exact absurd c_1 c_6 | exact absurd c_1 c_7 | exact absurd c_1 c_8 | exact absurd c_1 c_9 | exact absurd c_1 c_10 | exact absurd c_6 c_1 | exact absurd c_6 c_7 | exact absurd c_6 c_8 | exact absurd c_6 c_9 | exact absurd c_6 c_10 | exact absurd c_7 c_1 | exact absurd c_7 c_6 | exact absurd c_7 c_8 | exact absurd c_7 c_9 | exact absurd c_7 c_10 | exact absurd c_8 c_1 | exact absurd c_8 c_6 | exact absurd c_8 c_7 | exact absurd c_8 c_9 | exact absurd c_8 c_10 | exact absurd c_9 c_1 | exact absurd c_9 c_6 | exact absurd c_9 c_7 | exact absurd c_9 c_8 | exact absurd c_9 c_10 | exact absurd c_10 c_1 | exact absurd c_10 c_6 | exact absurd c_10 c_7 | exact absurd c_10 c_8 | exact absurd c_10 c_9, rfl⟩, by rw [ht]; exact hP, va_K.moved hW.alike hK⟩, hS.F ht⟩) hS.2.2 dX2_treatsAlike_67
    · refine lv_iconst (v := 1) hx hb dX2_treatsAlike_18 (by decide) ?_
      exact W.zret (v := 1) hx hb hr (by decide) (fun t ht hW => ⟨⟨1, (I, G, A, L), rfl, ⟨by first | (simp [c_1, c_6]; done) | exact absurd c_1 c_6 | exact absurd c_6 c_1, rfl⟩, by rw [ht]; exact hP, va_K.moved hW.alike hK⟩, hS.F ht⟩) hS.2.2 dX2_treatsAlike_19

set_option maxHeartbeats 4000000 in
set_option maxRecDepth 100000 in
/-- a step below -/
theorem c_X2_hasStepBelow (l : Launch) (D : va_G) (K : Nat → ClassId) (ad : Nat → Nat) (hap0 : apart ad (fun _ => True)) (q v z n : Nat) (hq : RuAt q) (hv : IA v 6) (hz : IA z 6) (I : Nat → Nat → Int32) (G : Nat → Nat → Nat) (A : Nat → Nat → Int32) (L : Nat → Nat → Int64) (hw : RuW I A q n) : Ci l D K ad yX2_hasStepBelow wsX2_hasStepBelow 1 40 [.ref (ad q), .ref (ad v)] (I, G, A, L) (fun (r : Int32) (u : Mem) => r = ex1 (pst I A q v) (n - 1) 0 ∧ u = (I, G, A, L)) := by
  intro sz
  refine Met.ofW (cc := cX2_hasStepBelow) (maxL := 5) (ret := (some .boolean)) (by decide) rfl ?_
  intro p e s m args below meth c s₁ Bd hml hv0
  obtain ⟨rfl, hsz, hP, hK⟩ := hv0
  have hx := Bd.exec
  have hb := Bd.bytes
  have hr := Bd.returns
  have hts := atoms_spec (ws := wsX2_hasStepBelow) Bd.pre
  have hown : s.vm.findClass RX2 = some m.cls := findClass_of_methodNamed Bd.named
  have hlocks := Bd.notSynchronized
  have hi2 : ∀ w ∈ u_ws RX2 TX2 7, w ∈ wsX2_hasStepBelow := fun w h => List.mem_cons_of_mem _ (List.mem_append_right _ h)
  subst hsz
  have hap := vF_ap hap0 s.heap.size
  have hS : va_S (vF ad s.heap.size) s.heap s.heap [] := va_S.rf
  have hP : va_P D vwCl (VW K ad I G A L) s.heap := hP
  have hl := lv_entry ([.ref (ad q), .ref (ad v)]) (n := 5) (Nat.le_of_ble_eq_true rfl)
  rw [lg_entry_eq]
  generalize (lg_sl ([.ref (ad q), .ref (ad v)]) ++ List.replicate (5 - (lg_sl ([.ref (ad q), .ref (ad v)])).length) Slot.unset).toArray = ls at hl ⊢
  have hl : lv_has ls 5 [(0, .ref (ad q)), (1, .ref (ad v))] := hl
  have hn6 : n ≤ 6 := hw.1
  have hpn : I q 2 = nI n := hw.2.1
  refine lv_iconst (v := 1) hx hb dX2_hasStepBelow_0 (by decide) ?_
  refine lv_istore_n (lv' := [(2, .int 1), (0, .ref (ad q)), (1, .ref (ad v))]) hx hb dX2_hasStepBelow_1 rfl hl (by decide) rfl (fun ls hl => ?_)
  have kx1 : ∀ (_ : Unit), ex1 (pst I A q v) 0 (n - 1) = ex1 (pst I A q v) (n - 1) 0 → ∀ (H : Heap) (locs : List Loc), va_P D vwCl (VW K ad I G A L) H → va_S (vF ad s.heap.size) s.heap H locs → ∀ (ls : Array Slot), lv_has ls 5 [(2, .int (nI ((n - 1) + 1))), (0, .ref (ad q)), (1, .ref (ad v))] → W p l e ({ frames := 1, cells := 0, slots := 0, locals := 40 }) s m ([.ref (ad q), .ref (ad v)] : List Value).toArray below meth c H locs 0 0 (MQ below (va_Qi (fun (r : Int32) (u : Mem) => r = ex1 (pst I A q v) (n - 1) 0 ∧ u = (I, G, A, L)) (vB D K ad) (vF ad s.heap.size)) ([.ref (ad q), .ref (ad v)] : List Value).toArray s 0 0 (vF ad s.heap.size)) (F0 m 61 ls []) := by
    intro _ hinv1 H locs hP hS ls hl
    refine lv_iconst (v := 0) hx hb dX2_hasStepBelow_61 (by decide) ?_
    exact W.zret (v := 0) hx hb hr (by decide) (fun t ht hW => ⟨⟨0, (I, G, A, L), rfl, ⟨hinv1, rfl⟩, by rw [ht]; exact hP, va_K.moved hW.alike hK⟩, hS.F ht⟩) hS.2.2 dX2_hasStepBelow_62
  have lp1 : ∀ (k1 j : Nat), j + k1 = (n - 1) → ex1 (pst I A q v) k1 j = ex1 (pst I A q v) (n - 1) 0 → ∀ (H : Heap) (locs : List Loc), va_P D vwCl (VW K ad I G A L) H → va_S (vF ad s.heap.size) s.heap H locs → ∀ (ls : Array Slot), lv_has ls 5 [(2, .int (nI (j + 1))), (0, .ref (ad q)), (1, .ref (ad v))] → W p l e ({ frames := 1, cells := 0, slots := 0, locals := 40 }) s m ([.ref (ad q), .ref (ad v)] : List Value).toArray below meth c H locs 0 0 (MQ below (va_Qi (fun (r : Int32) (u : Mem) => r = ex1 (pst I A q v) (n - 1) 0 ∧ u = (I, G, A, L)) (vB D K ad) (vF ad s.heap.size)) ([.ref (ad q), .ref (ad v)] : List Value).toArray s 0 0 (vF ad s.heap.size)) (F0 m 2 ls []) := by
    intro k1
    induction k1 with
    | zero =>
      intro j  hk1 hinv1 H locs hP hS ls hl
      obtain rfl : (n - 1) = j := by omega
      refine lv_iload_n hx hb dX2_hasStepBelow_2 rfl (lv_at hl 0 rfl) ?_
      refine lv_aload_n hx hb dX2_hasStepBelow_3 rfl (lv_at hl 1 rfl) ?_
      refine vgI hx hb hts hi2 hown hK hP (q) (by have := hq.1; omega) hq.2.1 (C := RX2) (T := TX2) (N := 7) rfl 2 (by decide) (by decide) (by decide) (by decide) (hts (.fieldLink RX2 18 "CrateHelpers$Rule" "parts" "I") (by decide +kernel)) (fun _ h9 => h9) dX2_hasStepBelow_4 ?_
      rw [hpn]
      refine lv_icmp_ge (tgt := 61) hx hb dX2_hasStepBelow_7 (by decide) (fun _ => ?_) (fun c_2 => absurd (nI_le (by omega) (by omega)) c_2)
      exact kx1 () (hinv1) H locs hP hS ls (lv_sub hl [0, 1, 2] rfl)
    | succ k1 ih1 =>
      intro j  hk1 hinv1 H locs hP hS ls hl
      have hlt1 : j < (n - 1) := by omega
      have hnj1 : j + 1 < n := by omega
      have hi101 : vp_in (nI j) (ln (q + 1)) := by rw [hq.2.2.2.2.2.2.1]; exact vp_in_nI (by omega) (by omega)
      have hv101 : vp_in (A (q + 1) j) (ln v) := by rw [hv.2.2]; exact hw.2.2 j (by omega)
      have hi111 : vp_in (nI (j + 1)) (ln (q + 1)) := by rw [hq.2.2.2.2.2.2.1]; exact vp_in_nI (by omega) (by omega)
      have hv111 : vp_in (A (q + 1) (j + 1)) (ln v) := by rw [hv.2.2]; exact hw.2.2 (j + 1) (by omega)
      refine lv_iload_n hx hb dX2_hasStepBelow_2 rfl (lv_at hl 0 rfl) ?_
      refine lv_aload_n hx hb dX2_hasStepBelow_3 rfl (lv_at hl 1 rfl) ?_
      refine vgI hx hb hts hi2 hown hK hP (q) (by have := hq.1; omega) hq.2.1 (C := RX2) (T := TX2) (N := 7) rfl 2 (by decide) (by decide) (by decide) (by decide) (hts (.fieldLink RX2 18 "CrateHelpers$Rule" "parts" "I") (by decide +kernel)) (fun _ h9 => h9) dX2_hasStepBelow_4 ?_
      rw [hpn]
      refine lv_icmp_ge (tgt := 61) hx hb dX2_hasStepBelow_7 (by decide) (fun c_3 => absurd c_3 (nI_ge (by omega) (by omega))) (fun _ => ?_)
      refine lv_aload_n hx hb dX2_hasStepBelow_10 rfl (lv_at hl 2 rfl) ?_
      refine lv_aload_n hx hb dX2_hasStepBelow_11 rfl (lv_at hl 1 rfl) ?_
      refine vgS hx hb hts hi2 hown hK hP (q) (by have := hq.1; omega) hq.2.1 (C := RX2) (T := TX2) (N := 7) rfl 3 (by decide) (by decide) (by decide) (by decide) (q + 1) rfl (hts (.fieldLink RX2 21 "CrateHelpers$Rule" "variables" "[I") (by decide +kernel)) (fun _ h9 => h9) dX2_hasStepBelow_12 ?_
      refine lv_iload_n hx hb dX2_hasStepBelow_15 rfl (lv_at hl 0 rfl) ?_
      refine lv_iconst (v := 1) hx hb dX2_hasStepBelow_16 (by decide) ?_
      refine lv_isub hx hb dX2_hasStepBelow_17 ?_
      rw [nI_pred]
      refine xiald hx hb hK hP (q + 1) (by have := hq.1; omega) hq.2.2.1 hi101 dX2_hasStepBelow_18 ?_
      rw [nI_clamp (n := j) (by omega)]
      refine xiald hx hb hK hP (v) hv.1 hv.2.1 hv101 dX2_hasStepBelow_19 ?_
      refine lv_istore_n (lv' := [(3, .int (A v ((A (q + 1) j).toNatClampNeg))), (2, .int (nI (j + 1))), (0, .ref (ad q)), (1, .ref (ad v))]) hx hb dX2_hasStepBelow_20 rfl hl (by decide) rfl (fun ls hl => ?_)
      refine lv_aload_n hx hb dX2_hasStepBelow_21 rfl (lv_at hl 3 rfl) ?_
      refine lv_aload_n hx hb dX2_hasStepBelow_22 rfl (lv_at hl 2 rfl) ?_
      refine vgS hx hb hts hi2 hown hK hP (q) (by have := hq.1; omega) hq.2.1 (C := RX2) (T := TX2) (N := 7) rfl 3 (by decide) (by decide) (by decide) (by decide) (q + 1) rfl (hts (.fieldLink RX2 21 "CrateHelpers$Rule" "variables" "[I") (by decide +kernel)) (fun _ h9 => h9) dX2_hasStepBelow_23 ?_
      refine lv_iload_n hx hb dX2_hasStepBelow_26 rfl (lv_at hl 1 rfl) ?_
      refine xiald hx hb hK hP (q + 1) (by have := hq.1; omega) hq.2.2.1 hi111 dX2_hasStepBelow_27 ?_
      rw [nI_clamp (n := (j + 1)) (by omega)]
      refine xiald hx hb hK hP (v) hv.1 hv.2.1 hv111 dX2_hasStepBelow_28 ?_
      refine lv_istore (lv' := [(4, .int (A v ((A (q + 1) (j + 1)).toNatClampNeg))), (3, .int (A v ((A (q + 1) j).toNatClampNeg))), (2, .int (nI (j + 1))), (0, .ref (ad q)), (1, .ref (ad v))]) hx hb dX2_hasStepBelow_29 hl (by decide) rfl (fun ls hl => ?_)
      refine lv_iload_n hx hb dX2_hasStepBelow_31 rfl (lv_at hl 1 rfl) ?_
      refine lv_iconst (v := (-1)) hx hb dX2_hasStepBelow_32 (by decide) ?_
      refine lv_icmp_eq (tgt := 55) hx hb dX2_hasStepBelow_33 (by decide) (fun c_4 => ?_) (fun c_4 => ?_)
      · refine lv_iinc (v := (nI (j + 1 + 1))) (lv' := [(2, .int (nI (j + 1 + 1))), (4, .int (A v ((A (q + 1) (j + 1)).toNatClampNeg))), (3, .int (A v ((A (q + 1) j).toNatClampNeg))), (0, .ref (ad q)), (1, .ref (ad v))]) hx hb dX2_hasStepBelow_55 hl (k := 2) rfl (nI_1 (j + 1)) (by decide) rfl (fun ls hl => ?_)
        refine lv_goto (tgt := 2) hx hb dX2_hasStepBelow_58 (by decide) ?_
        exact ih1 (j + 1)  (by omega) (by rw [← hinv1]; simp [ex1, pst, pv, c_4]) H locs hP hS ls (lv_sub hl [0, 3, 4] rfl)
      · refine lv_iload hx hb dX2_hasStepBelow_36 (lv_at hl 0 rfl) ?_
        refine lv_iconst (v := (-1)) hx hb dX2_hasStepBelow_38 (by decide) ?_
        refine lv_icmp_eq (tgt := 55) hx hb dX2_hasStepBelow_39 (by decide) (fun c_5 => ?_) (fun c_5 => ?_)
        · refine lv_iinc (v := (nI (j + 1 + 1))) (lv' := [(2, .int (nI (j + 1 + 1))), (4, .int (A v ((A (q + 1) (j + 1)).toNatClampNeg))), (3, .int (A v ((A (q + 1) j).toNatClampNeg))), (0, .ref (ad q)), (1, .ref (ad v))]) hx hb dX2_hasStepBelow_55 hl (k := 2) rfl (nI_1 (j + 1)) (by decide) rfl (fun ls hl => ?_)
          refine lv_goto (tgt := 2) hx hb dX2_hasStepBelow_58 (by decide) ?_
          exact ih1 (j + 1)  (by omega) (by rw [← hinv1]; simp [ex1, pst, pv, c_4, c_5]) H locs hP hS ls (lv_sub hl [0, 3, 4] rfl)
        · refine lv_iload hx hb dX2_hasStepBelow_42 (lv_at hl 0 rfl) ?_
          refine lv_iload_n hx hb dX2_hasStepBelow_44 rfl (lv_at hl 1 rfl) ?_
          refine lv_aload_n hx hb dX2_hasStepBelow_45 rfl (lv_at hl 3 rfl) ?_
          refine vgI hx hb hts hi2 hown hK hP (q) (by have := hq.1; omega) hq.2.1 (C := RX2) (T := TX2) (N := 7) rfl 1 (by decide) (by decide) (by decide) (by decide) (hts (.fieldLink RX2 15 "CrateHelpers$Rule" "c" "I") (by decide +kernel)) (fun _ h9 => h9) dX2_hasStepBelow_46 ?_
          refine lv_iadd hx hb dX2_hasStepBelow_49 ?_
          refine lv_icmp_ge (tgt := 55) hx hb dX2_hasStepBelow_50 (by decide) (fun c_6 => ?_) (fun c_6 => ?_)
          · refine lv_iinc (v := (nI (j + 1 + 1))) (lv' := [(2, .int (nI (j + 1 + 1))), (4, .int (A v ((A (q + 1) (j + 1)).toNatClampNeg))), (3, .int (A v ((A (q + 1) j).toNatClampNeg))), (0, .ref (ad q)), (1, .ref (ad v))]) hx hb dX2_hasStepBelow_55 hl (k := 2) rfl (nI_1 (j + 1)) (by decide) rfl (fun ls hl => ?_)
            refine lv_goto (tgt := 2) hx hb dX2_hasStepBelow_58 (by decide) ?_
            exact ih1 (j + 1)  (by omega) (by rw [← hinv1]; simp [ex1, pst, pv, c_4, c_5, (Int32.not_lt.mpr c_6)]) H locs hP hS ls (lv_sub hl [0, 3, 4] rfl)
          · refine lv_iconst (v := 1) hx hb dX2_hasStepBelow_53 (by decide) ?_
            exact W.zret (v := 1) hx hb hr (by decide) (fun t ht hW => ⟨⟨1, (I, G, A, L), rfl, ⟨by rw [← hinv1]; simp [ex1, pst, pv, c_4, c_5, (Int32.not_le.mp c_6)], rfl⟩, by rw [ht]; exact hP, va_K.moved hW.alike hK⟩, hS.F ht⟩) hS.2.2 dX2_hasStepBelow_54
  exact lp1 (n - 1) 0  (by omega) (rfl) _ _ hP hS ls (lv_sub hl [0, 1, 2] rfl)
