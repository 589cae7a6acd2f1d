def szo (A : Nat → Nat → Int32) (B x : Nat) : Nat := (A (B + 1) x).toNatClampNeg
theorem pr_sz {I A : Nat → Nat → Int32} {B nv nr x : Nat} (h : PrW I A B nv nr) (hx : x < nv) : A (B + 1) x = nI (szo A B x) ∧ 1 ≤ szo A B x ∧ szo A B x ≤ 6 := by
  obtain ⟨t, h1, h2, h3⟩ := h.2.2.2.2.1 x hx
  have e : szo A B x = t := by unfold szo; rw [h3]; exact nI_clamp (by omega)
  rw [e]; exact ⟨h3, h1, h2⟩
/-- a variable before the last that is its twin and has the greater value -/
def ptw (I A : Nat → Nat → Int32) (B v nr ld a : Nat) : Bool := decide (A v ld < A v a ∧ ¬ twn I A B nr (szo A B a) a ld = 0)
def ftw (I A : Nat → Nat → Int32) (B v nr ld : Nat) : Int32 := fst1 (ptw I A B v nr ld) ld 0
theorem gen_at {A1 A : Nat → Nat → Int32} {v x j k : Nat} (hg : ∀ t, up2 A1 v x t = up2 A v x t) (h : j ≠ v) : A1 j k = A j k := by
  have := congrFun (congrFun (hg 0) j) k
  rw [up2_j h, up2_j h] at this
  exact this
theorem up2_id {α : Type} {F : Nat → Nat → α} {j k : Nat} {y : α} (h : F j k = y) : up2 F j k y = F := by
  subst h
  funext a b
  by_cases h : a = j ∧ b = k
  · obtain ⟨rfl, rfl⟩ := h; rw [up2_s]
  · unfold up2; rw [if_neg h]
/-- a rule of which x is a part is broken with x at y -/
def plo (I A : Nat → Nat → Int32) (B v x y i : Nat) : Bool := decide (¬ A (B + 12 + 5 * i + 3) x = 0 ∧ ¬ brk I (up2 A v x (nI y)) (B + 12 + 5 * i) v (B + 1) (nP I (B + 12 + 5 * i)) = 0)
/-- the least cost from y on, within k steps -/
def lcs (I A : Nat → Nat → Int32) (B v x nr : Nat) : Nat → Nat → Int32 → Int32
  | 0, _, b => b
  | k + 1, y, b => lcs I A B v x nr k (y + 1) (if ex1 (plo I A B v x y) nr 0 = 0 ∧ (b = -1000000 ∨ A (B + 4 + x) y < b) then A (B + 4 + x) y else b)

set_option maxHeartbeats 4000000 in
set_option maxRecDepth 100000 in
theorem c_X1_firstTwin (l : Launch) (D : va_G) (K : Nat → ClassId) (ad : Nat → Nat) (hap0 : apart ad (fun _ => True)) (B v nv nr ld : Nat) (hB : PrAt B) (hv : IA v 6) (hldv : ld < nv) (I : Nat → Nat → Int32) (G : Nat → Nat → Nat) (A : Nat → Nat → Int32) (L : Nat → Nat → Int64) (hw : PrW I A B nv nr) : Ci l D K ad yX1_firstTwin wsX1_firstTwin 3 120 [.ref (ad B), .ref (ad v), .int (nI ld)] (I, G, A, L) (fun (r : Int32) (u : Mem) => r = ftw I A B v nr ld ∧ u = (I, G, A, L)) := by
  intro sz
  refine Met.ofW (cc := cX1_firstTwin) (maxL := 4) (ret := (some .int)) (by decide) rfl ?_
  intro p e s m args below meth c s₁ Bd hml hv0
  obtain ⟨rfl, hsz, hP, hK⟩ := hv0
  have hx := Bd.exec
  have hb := Bd.bytes
  have hr := Bd.returns
  have hts := atoms_spec (ws := wsX1_firstTwin) Bd.pre
  have hown : s.vm.findClass RX1 = some m.cls := findClass_of_methodNamed Bd.named
  have hlocks := Bd.notSynchronized
  have hi1 : ∀ w ∈ u_ws RX1 TX1 9, w ∈ wsX1_firstTwin := fun w h => List.mem_cons_of_mem _ (List.mem_append_left _ (List.mem_append_right _ h))
  have hi2 : ∀ w ∈ u_ws RX2 TX2 7, w ∈ wsX1_firstTwin := fun w h => List.mem_cons_of_mem _ (List.mem_append_right _ h)
  subst hsz
  have hap := vF_ap hap0 s.heap.size
  have hS : va_S (vF ad s.heap.size) s.heap s.heap [] := va_S.rf
  have hP : va_P D vwCl (VW K ad I G A L) s.heap := hP
  have hl := lv_entry ([.ref (ad B), .ref (ad v), .int (nI ld)]) (n := 4) (Nat.le_of_ble_eq_true rfl)
  rw [lg_entry_eq]
  generalize (lg_sl ([.ref (ad B), .ref (ad v), .int (nI ld)]) ++ List.replicate (4 - (lg_sl ([.ref (ad B), .ref (ad v), .int (nI ld)])).length) Slot.unset).toArray = ls at hl ⊢
  have hl : lv_has ls 4 [(0, .ref (ad B)), (1, .ref (ad v)), (2, .int (nI ld))] := hl
  have hnv : nv ≤ 6 := hw.1
  have hnr : nr ≤ 8 := hw.2.1
  have hBv : I B 0 = nI nv := hw.2.2.1
  have hBr : I B 1 = nI nr := hw.2.2.2.1
  refine lv_iconst (v := 0) hx hb dX1_firstTwin_0 (by decide) ?_
  refine lv_istore_n (lv' := [(3, .int 0), (0, .ref (ad B)), (1, .ref (ad v)), (2, .int (nI ld))]) hx hb dX1_firstTwin_1 rfl hl (by decide) rfl (fun ls hl => ?_)
  have kx1 : ∀ (_ : Unit), fst1 (ptw I A B v nr ld) 0 ld = ftw I A B v nr ld → ∀ (H : Heap) (locs : List Loc), va_P D vwCl (VW K ad I G A L) H → va_S (vF ad s.heap.size) s.heap H locs → ∀ (ls : Array Slot), lv_has ls 4 [(3, .int (nI ld)), (0, .ref (ad B)), (1, .ref (ad v)), (2, .int (nI ld))] → W p l e ({ frames := 3, cells := 0, slots := 0, locals := 120 }) s m ([.ref (ad B), .ref (ad v), .int (nI ld)] : List Value).toArray below meth c H locs 0 0 (MQ below (va_Qi (fun (r : Int32) (u : Mem) => r = ftw I A B v nr ld ∧ u = (I, G, A, L)) (vB D K ad) (vF ad s.heap.size)) ([.ref (ad B), .ref (ad v), .int (nI ld)] : List Value).toArray s 0 0 (vF ad s.heap.size)) (F0 m 33 ls []) := by
    intro _ hinv1 H locs hP hS ls hl
    refine lv_bipush (v := (-9)) hx hb dX1_firstTwin_33 (by decide) ?_
    exact W.iret (v := (-9)) hx hb hr (fun t ht hW => ⟨⟨(-9), (I, G, A, L), rfl, ⟨hinv1, rfl⟩, by rw [ht]; exact hP, va_K.moved hW.alike hK⟩, hS.F ht⟩) hS.2.2 dX1_firstTwin_35
  have lp1 : ∀ (k1 a : Nat), a + k1 = ld → fst1 (ptw I A B v nr ld) k1 a = ftw I A B v nr ld → ∀ (H : Heap) (locs : List Loc), va_P D vwCl (VW K ad I G A L) H → va_S (vF ad s.heap.size) s.heap H locs → ∀ (ls : Array Slot), lv_has ls 4 [(3, .int (nI a)), (0, .ref (ad B)), (1, .ref (ad v)), (2, .int (nI ld))] → W p l e ({ frames := 3, cells := 0, slots := 0, locals := 120 }) s m ([.ref (ad B), .ref (ad v), .int (nI ld)] : List Value).toArray below meth c H locs 0 0 (MQ below (va_Qi (fun (r : Int32) (u : Mem) => r = ftw I A B v nr ld ∧ u = (I, G, A, L)) (vB D K ad) (vF ad s.heap.size)) ([.ref (ad B), .ref (ad v), .int (nI ld)] : List Value).toArray s 0 0 (vF ad s.heap.size)) (F0 m 2 ls []) := by
    intro k1
    induction k1 with
    | zero =>
      intro a  hk1 hinv1 H locs hP hS ls hl
      obtain rfl : ld = a := by omega
      refine lv_iload_n hx hb dX1_firstTwin_2 rfl (lv_at hl 0 rfl) ?_
      refine lv_iload_n hx hb dX1_firstTwin_3 rfl (lv_at hl 3 rfl) ?_
      refine lv_icmp_ge (tgt := 33) hx hb dX1_firstTwin_4 (by decide) (fun _ => ?_) (fun c_2 => absurd (nI_le (Nat.le_refl _) (by omega)) c_2)
      exact kx1 () (hinv1) H locs hP hS ls (lv_sub hl [0, 1, 2, 3] rfl)
    | succ k1 ih1 =>
      intro a  hk1 hinv1 H locs hP hS ls hl
      have hlt1 : a < ld := by omega
      have hia : vp_in (nI a) (ln v) := by rw [hv.2.2]; exact vp_in_nI (by omega) (by omega)
      have hil : vp_in (nI ld) (ln v) := by rw [hv.2.2]; exact vp_in_nI (by omega) (by omega)
      refine lv_iload_n hx hb dX1_firstTwin_2 rfl (lv_at hl 0 rfl) ?_
      refine lv_iload_n hx hb dX1_firstTwin_3 rfl (lv_at hl 3 rfl) ?_
      refine lv_icmp_ge (tgt := 33) hx hb dX1_firstTwin_4 (by decide) (fun c_3 => absurd c_3 (nI_ge (by omega) (by omega))) (fun _ => ?_)
      refine lv_aload_n hx hb dX1_firstTwin_7 rfl (lv_at hl 2 rfl) ?_
      refine lv_iload_n hx hb dX1_firstTwin_8 rfl (lv_at hl 0 rfl) ?_
      refine xiald hx hb hK hP (v) hv.1 hv.2.1 hia dX1_firstTwin_9 ?_
      rw [nI_clamp (n := a) (by omega)]
      refine lv_aload_n hx hb dX1_firstTwin_10 rfl (lv_at hl 2 rfl) ?_
      refine lv_iload_n hx hb dX1_firstTwin_11 rfl (lv_at hl 3 rfl) ?_
      refine xiald hx hb hK hP (v) hv.1 hv.2.1 hil dX1_firstTwin_12 ?_
      rw [nI_clamp (n := ld) (by omega)]
      refine lv_icmp_le (tgt := 27) hx hb dX1_firstTwin_13 (by decide) (fun c_4 => ?_) (fun c_4 => ?_)
      · refine lv_iinc (v := (nI (a + 1))) (lv' := [(3, .int (nI (a + 1))), (0, .ref (ad B)), (1, .ref (ad v)), (2, .int (nI ld))]) hx hb dX1_firstTwin_27 hl (k := 0) rfl (nI_1 a) (by decide) rfl (fun ls hl => ?_)
        refine lv_goto (tgt := 2) hx hb dX1_firstTwin_30 (by decide) ?_
        exact ih1 (a + 1)  (by omega) (by rw [← hinv1]; simp [fst1, ptw, (Int32.not_lt.mpr c_4)]) H locs hP hS ls (lv_sub hl [0, 1, 2, 3] rfl)
      · refine lv_aload_n hx hb dX1_firstTwin_16 rfl (lv_at hl 1 rfl) ?_
        refine lv_iload_n hx hb dX1_firstTwin_17 rfl (lv_at hl 0 rfl) ?_
        refine lv_iload_n hx hb dX1_firstTwin_18 rfl (lv_at hl 3 rfl) ?_
        refine vcV (As := [.int (nI a), .int (nI ld)]) (rest := []) ⟨hx, hb, hml, hown, hts⟩ (c_X1_areTwins l D K ad hap0 B nv nr hB a ld (szo A B a) (by omega) hldv (pr_sz hw (by omega)).2.2 I G A L hw (pr_sz hw (by omega)).1) (cwV 2 hts gX1_firstTwin_X1_areTwins rfl rfl rfl (by decide +kernel) ⟨Nat.le_of_ble_eq_true rfl, Nat.le_of_ble_eq_true rfl⟩) hK hP hS (by have := (pr_o hB).1; omega) (pr_o hB).2.1 (by decide) rfl rfl rfl hl.1 (Nat.le_of_ble_eq_true rfl) (Nat.le_of_ble_eq_true rfl) (Nat.le_of_ble_eq_true rfl) dX1_firstTwin_19 (fun r5 u6 H locs hw hP hS => ?_) rfl
        obtain ⟨hr5, rfl⟩ := hw
        have hP : va_P D vwCl (VW K ad I G A L) H := hP
        subst hr5
        refine lv_if_eq (tgt := 27) hx hb dX1_firstTwin_22 (by decide) (fun c_7 => ?_) (fun c_7 => ?_)
        · refine lv_iinc (v := (nI (a + 1))) (lv' := [(3, .int (nI (a + 1))), (0, .ref (ad B)), (1, .ref (ad v)), (2, .int (nI ld))]) hx hb dX1_firstTwin_27 hl (k := 0) rfl (nI_1 a) (by decide) rfl (fun ls hl => ?_)
          refine lv_goto (tgt := 2) hx hb dX1_firstTwin_30 (by decide) ?_
          exact ih1 (a + 1)  (by omega) (by rw [← hinv1]; simp [fst1, ptw, (Int32.not_le.mp c_4), c_7]) H locs hP hS ls (lv_sub hl [0, 1, 2, 3] rfl)
        · refine lv_iload_n hx hb dX1_firstTwin_25 rfl (lv_at hl 0 rfl) ?_
          exact W.iret (v := (nI a)) hx hb hr (fun t ht hW => ⟨⟨(nI a), (I, G, A, L), rfl, ⟨by rw [← hinv1]; simp [fst1, ptw, (Int32.not_le.mp c_4), c_7], rfl⟩, by rw [ht]; exact hP, va_K.moved hW.alike hK⟩, hS.F ht⟩) hS.2.2 dX1_firstTwin_26
  exact lp1 (ld) 0  (by omega) (rfl) _ _ hP hS ls (lv_sub hl [0, 1, 2, 3] rfl)

set_option maxHeartbeats 4000000 in
set_option maxRecDepth 100000 in
theorem c_X1_firstTwin0 (l : Launch) (D : va_G) (K : Nat → ClassId) (ad : Nat → Nat) (hap0 : apart ad (fun _ => True)) (B v : Nat) (I : Nat → Nat → Int32) (G : Nat → Nat → Nat) (A : Nat → Nat → Int32) (L : Nat → Nat → Int64)  : Ci l D K ad yX1_firstTwin wsX1_firstTwin 3 120 [.ref (ad B), .ref (ad v), .int (-1)] (I, G, A, L) (fun (r : Int32) (u : Mem) => r = -9 ∧ u = (I, G, A, L)) := by
  intro sz
  refine Met.ofW (cc := cX1_firstTwin) (maxL := 4) (ret := (some .int)) (by decide) rfl ?_
  intro p e s m args below meth c s₁ Bd hml hv0
  obtain ⟨rfl, hsz, hP, hK⟩ := hv0
  have hx := Bd.exec
  have hb := Bd.bytes
  have hr := Bd.returns
  have hts := atoms_spec (ws := wsX1_firstTwin) Bd.pre
  have hown : s.vm.findClass RX1 = some m.cls := findClass_of_methodNamed Bd.named
  have hlocks := Bd.notSynchronized
  have hi1 : ∀ w ∈ u_ws RX1 TX1 9, w ∈ wsX1_firstTwin := fun w h => List.mem_cons_of_mem _ (List.mem_append_left _ (List.mem_append_right _ h))
  have hi2 : ∀ w ∈ u_ws RX2 TX2 7, w ∈ wsX1_firstTwin := fun w h => List.mem_cons_of_mem _ (List.mem_append_right _ h)
  subst hsz
  have hap := vF_ap hap0 s.heap.size
  have hS : va_S (vF ad s.heap.size) s.heap s.heap [] := va_S.rf
  have hP : va_P D vwCl (VW K ad I G A L) s.heap := hP
  have hl := lv_entry ([.ref (ad B), .ref (ad v), .int (-1)]) (n := 4) (Nat.le_of_ble_eq_true rfl)
  rw [lg_entry_eq]
  generalize (lg_sl ([.ref (ad B), .ref (ad v), .int (-1)]) ++ List.replicate (4 - (lg_sl ([.ref (ad B), .ref (ad v), .int (-1)])).length) Slot.unset).toArray = ls at hl ⊢
  have hl : lv_has ls 4 [(0, .ref (ad B)), (1, .ref (ad v)), (2, .int (-1))] := hl
  refine lv_iconst (v := 0) hx hb dX1_firstTwin_0 (by decide) ?_
  refine lv_istore_n (lv' := [(3, .int 0), (0, .ref (ad B)), (1, .ref (ad v)), (2, .int (-1))]) hx hb dX1_firstTwin_1 rfl hl (by decide) rfl (fun ls hl => ?_)
  refine lv_iload_n hx hb dX1_firstTwin_2 rfl (lv_at hl 0 rfl) ?_
  refine lv_iload_n hx hb dX1_firstTwin_3 rfl (lv_at hl 3 rfl) ?_
  refine lv_icmp_ge (tgt := 33) hx hb dX1_firstTwin_4 (by decide) (fun _ => ?_) (fun c_1 => absurd c_1 (by decide))
  refine lv_bipush (v := (-9)) hx hb dX1_firstTwin_33 (by decide) ?_
  exact W.iret (v := (-9)) hx hb hr (fun t ht hW => ⟨⟨(-9), (I, G, A, L), rfl, ⟨rfl, rfl⟩, by rw [ht]; exact hP, va_K.moved hW.alike hK⟩, hS.F ht⟩) hS.2.2 dX1_firstTwin_35

set_option maxHeartbeats 4000000 in
set_option maxRecDepth 100000 in
theorem c_X1_leastCost (l : Launch) (D : va_G) (K : Nat → ClassId) (ad : Nat → Nat) (hap0 : apart ad (fun _ => True)) (B v nv nr x sx : Nat) (hB : PrAt B) (hv : IA v 6) (hvB : v < 58) (hxv : x < nv) (hs6 : sx ≤ 6) (I : Nat → Nat → Int32) (G : Nat → Nat → Nat) (A : Nat → Nat → Int32) (L : Nat → Nat → Int64) (hw : PrW I A B nv nr) (hsx : A (B + 1) x = nI sx) (hux : A v x = -1) : Ci l D K ad yX1_leastCost wsX1_leastCost 3 120 [.ref (ad B), .ref (ad v), .int (nI x)] (I, G, A, L) (fun (r : Int32) (u : Mem) => r = lcs I A B v x nr sx 0 (-1000000) ∧ u = (I, G, A, L)) := by
  intro sz
  refine Met.ofW (cc := cX1_leastCost) (maxL := 7) (ret := (some .int)) (by decide) rfl ?_
  intro p e s m args below meth c s₁ Bd hml hv0
  obtain ⟨rfl, hsz, hP, hK⟩ := hv0
  have hx := Bd.exec
  have hb := Bd.bytes
  have hr := Bd.returns
  have hts := atoms_spec (ws := wsX1_leastCost) Bd.pre
  have hown : s.vm.findClass RX1 = some m.cls := findClass_of_methodNamed Bd.named
  have hlocks := Bd.notSynchronized
  have hi1 : ∀ w ∈ u_ws RX1 TX1 9, w ∈ wsX1_leastCost := fun w h => List.mem_cons_of_mem _ (List.mem_append_left _ (List.mem_append_right _ h))
  have hi2 : ∀ w ∈ u_ws RX2 TX2 7, w ∈ wsX1_leastCost := fun w h => List.mem_cons_of_mem _ (List.mem_append_right _ h)
  subst hsz
  have hap := vF_ap hap0 s.heap.size
  have hS : va_S (vF ad s.heap.size) s.heap s.heap [] := va_S.rf
  have hP : va_P D vwCl (VW K ad I G A L) s.heap := hP
  have hl := lv_entry ([.ref (ad B), .ref (ad v), .int (nI x)]) (n := 7) (Nat.le_of_ble_eq_true rfl)
  rw [lg_entry_eq]
  generalize (lg_sl ([.ref (ad B), .ref (ad v), .int (nI x)]) ++ List.replicate (7 - (lg_sl ([.ref (ad B), .ref (ad v), .int (nI x)])).length) Slot.unset).toArray = ls at hl ⊢
  have hl : lv_has ls 7 [(0, .ref (ad B)), (1, .ref (ad v)), (2, .int (nI x))] := hl
  have hnv : nv ≤ 6 := hw.1
  have hnr : nr ≤ 8 := hw.2.1
  have hBv : I B 0 = nI nv := hw.2.2.1
  have hBr : I B 1 = nI nr := hw.2.2.2.1
  have hB58 := pr_ge hB
  have hx6 : x < 6 := by omega
  have hx1 : vp_in (nI x) (ln (B + 1)) := by rw [(pr_o hB).2.2.2.2.2.2.2.1]; exact vp_in_nI hx6 (by omega)
  have hx3 : vp_in (nI x) (ln (B + 3)) := by rw [(pr_o hB).2.2.2.2.2.2.2.2.2.1]; exact vp_in_nI hx6 (by omega)
  have hxv0 : vp_in (nI x) (ln v) := by rw [hv.2.2]; exact vp_in_nI hx6 (by omega)
  have hxp : ∀ i, i < 8 → vp_in (nI x) (ln (B + 12 + 5 * i + 3)) := fun i hi => by rw [(pr_ru hB hi).2.2.2.2.2.2.2.2.1]; exact vp_in_nI hx6 (by omega)
  refine lv_ldc (v := (-1000000)) hx hb hown (hts (.constant RX1 75 (-1000000)) (by decide +kernel)) dX1_leastCost_0 ?_
  refine lv_istore_n (lv' := [(3, .int (-1000000)), (0, .ref (ad B)), (1, .ref (ad v)), (2, .int (nI x))]) hx hb dX1_leastCost_2 rfl hl (by decide) rfl (fun ls hl => ?_)
  refine lv_iconst (v := 0) hx hb dX1_leastCost_3 (by decide) ?_
  refine lv_istore (lv' := [(4, .int 0), (3, .int (-1000000)), (0, .ref (ad B)), (1, .ref (ad v)), (2, .int (nI x))]) hx hb dX1_leastCost_4 hl (by decide) rfl (fun ls hl => ?_)
  have kx1 : ∀ (b : Int32) (A1 : Nat → Nat → Int32), b = lcs I A B v x nr sx 0 (-1000000) → (∀ t, up2 A1 v x t = up2 A v x t) → ∀ (H : Heap) (locs : List Loc), va_P D vwCl (VW K ad I G A1 L) H → va_S (vF ad s.heap.size) s.heap H locs → ∀ (ls : Array Slot), lv_has ls 7 [(3, .int b), (0, .ref (ad B)), (1, .ref (ad v)), (2, .int (nI x))] → W p l e ({ frames := 3, cells := 0, slots := 0, locals := 120 }) s m ([.ref (ad B), .ref (ad v), .int (nI x)] : List Value).toArray below meth c H locs 0 0 (MQ below (va_Qi (fun (r : Int32) (u : Mem) => r = lcs I A B v x nr sx 0 (-1000000) ∧ u = (I, G, A, L)) (vB D K ad) (vF ad s.heap.size)) ([.ref (ad B), .ref (ad v), .int (nI x)] : List Value).toArray s 0 0 (vF ad s.heap.size)) (F0 m 128 ls []) := by
    intro b A1 hinv1 hg1 H locs hP hS ls hl
    refine lv_aload_n hx hb dX1_leastCost_128 rfl (lv_at hl 2 rfl) ?_
    refine lv_iload_n hx hb dX1_leastCost_129 rfl (lv_at hl 3 rfl) ?_
    refine lv_iconst (v := (-1)) hx hb dX1_leastCost_130 (by decide) ?_
    refine xiast hx hb hK hP hap hS (v) hv.1 hv.2.1 hxv0 dX1_leastCost_131 (fun H locs hP hS => ?_)
    rw [nI_clamp (n := x) (by omega)] at hP
    obtain ⟨A2, eA2⟩ : ∃ z, z = up2 A1 v x ((-1)) := ⟨_, rfl⟩
    rw [← eA2] at hP
    have hP : va_P D vwCl (VW K ad I G A2 L) H := hP
    refine lv_iload_n hx hb dX1_leastCost_132 rfl (lv_at hl 0 rfl) ?_
    exact W.iret (v := b) hx hb hr (fun t ht hW => ⟨⟨b, (I, G, A2, L), rfl, ⟨hinv1, by rw [eA2, hg1, up2_id hux]⟩, by rw [ht]; exact hP, va_K.moved hW.alike hK⟩, hS.F ht⟩) hS.2.2 dX1_leastCost_133
  have lp1 : ∀ (k1 y : Nat) (b : Int32) (A1 : Nat → Nat → Int32), y + k1 = sx → lcs I A B v x nr k1 y b = lcs I A B v x nr sx 0 (-1000000) → (∀ t, up2 A1 v x t = up2 A v x t) → ∀ (H : Heap) (locs : List Loc), va_P D vwCl (VW K ad I G A1 L) H → va_S (vF ad s.heap.size) s.heap H locs → ∀ (ls : Array Slot), lv_has ls 7 [(4, .int (nI y)), (3, .int b), (0, .ref (ad B)), (1, .ref (ad v)), (2, .int (nI x))] → W p l e ({ frames := 3, cells := 0, slots := 0, locals := 120 }) s m ([.ref (ad B), .ref (ad v), .int (nI x)] : List Value).toArray below meth c H locs 0 0 (MQ below (va_Qi (fun (r : Int32) (u : Mem) => r = lcs I A B v x nr sx 0 (-1000000) ∧ u = (I, G, A, L)) (vB D K ad) (vF ad s.heap.size)) ([.ref (ad B), .ref (ad v), .int (nI x)] : List Value).toArray s 0 0 (vF ad s.heap.size)) (F0 m 6 ls []) := by
    intro k1
    induction k1 with
    | zero =>
      intro y b A1 hk1 hinv1 hg1 H locs hP hS ls hl
      obtain rfl : sx = y := by omega
      refine lv_iload hx hb dX1_leastCost_6 (lv_at hl 0 rfl) ?_
      refine lv_aload_n hx hb dX1_leastCost_8 rfl (lv_at hl 2 rfl) ?_
      refine vgS hx hb hts hi1 hown hK hP (B) (by have := (pr_o hB).1; omega) (pr_o hB).2.1 (C := RX1) (T := TX1) (N := 9) rfl 4 (by decide) (by decide) (by decide) (by decide) (B + 1) rfl (hts (.fieldLink RX1 25 "CrateHelpers$Problem" "sizes" "[I") (by decide +kernel)) (fun _ h9 => h9) dX1_leastCost_9 ?_
      refine lv_iload_n hx hb dX1_leastCost_12 rfl (lv_at hl 4 rfl) ?_
      refine xiald hx hb hK hP (B + 1) (by have := (pr_o hB).1; omega) (pr_o hB).2.2.1 hx1 dX1_leastCost_13 ?_
      rw [nI_clamp (n := x) (by omega)]
      rw [gen_at hg1 (by omega), hsx]
      refine lv_icmp_ge (tgt := 128) hx hb dX1_leastCost_14 (by decide) (fun _ => ?_) (fun c_3 => absurd (nI_le (Nat.le_refl _) (by omega)) c_3)
      exact kx1 b A1 (hinv1) (hg1) H locs hP hS ls (lv_sub hl [1, 2, 3, 4] rfl)
    | succ k1 ih1 =>
      intro y b A1 hk1 hinv1 hg1 H locs hP hS ls hl
      have hlt1 : y < sx := by omega
      have hi4 : vp_in (nI y) (ln (B + 4 + x)) := by rw [(pr_row hB hx6).2]; exact vp_in_nI (by omega) (by omega)
      refine lv_iload hx hb dX1_leastCost_6 (lv_at hl 0 rfl) ?_
      refine lv_aload_n hx hb dX1_leastCost_8 rfl (lv_at hl 2 rfl) ?_
      refine vgS hx hb hts hi1 hown hK hP (B) (by have := (pr_o hB).1; omega) (pr_o hB).2.1 (C := RX1) (T := TX1) (N := 9) rfl 4 (by decide) (by decide) (by decide) (by decide) (B + 1) rfl (hts (.fieldLink RX1 25 "CrateHelpers$Problem" "sizes" "[I") (by decide +kernel)) (fun _ h9 => h9) dX1_leastCost_9 ?_
      refine lv_iload_n hx hb dX1_leastCost_12 rfl (lv_at hl 4 rfl) ?_
      refine xiald hx hb hK hP (B + 1) (by have := (pr_o hB).1; omega) (pr_o hB).2.2.1 hx1 dX1_leastCost_13 ?_
      rw [nI_clamp (n := x) (by omega)]
      rw [gen_at hg1 (by omega), hsx]
      refine lv_icmp_ge (tgt := 128) hx hb dX1_leastCost_14 (by decide) (fun c_4 => absurd c_4 (nI_ge (by omega) (by omega))) (fun _ => ?_)
      refine lv_aload_n hx hb dX1_leastCost_17 rfl (lv_at hl 3 rfl) ?_
      refine lv_iload_n hx hb dX1_leastCost_18 rfl (lv_at hl 4 rfl) ?_
      refine lv_iload hx hb dX1_leastCost_19 (lv_at hl 0 rfl) ?_
      refine xiast hx hb hK hP hap hS (v) hv.1 hv.2.1 hxv0 dX1_leastCost_21 (fun H locs hP hS => ?_)
      rw [nI_clamp (n := x) (by omega)] at hP
      obtain ⟨A5, eA5⟩ : ∃ z, z = up2 A1 v x ((nI y)) := ⟨_, rfl⟩
      rw [← eA5] at hP
      have hP : va_P D vwCl (VW K ad I G A5 L) H := hP
      rw [eA5, hg1] at hP
      have hP : va_P D vwCl (VW K ad I G (up2 A v x (nI y)) L) H := hP
      have hw9 : PrW I (up2 A v x (nI y)) B nv nr := PrW_A hw (by omega)
      refine lv_iconst (v := 0) hx hb dX1_leastCost_22 (by decide) ?_
      refine lv_istore (lv' := [(5, .int 0), (4, .int (nI y)), (3, .int b), (0, .ref (ad B)), (1, .ref (ad v)), (2, .int (nI x))]) hx hb dX1_leastCost_23 hl (by decide) rfl (fun ls hl => ?_)
      refine lv_iconst (v := 0) hx hb dX1_leastCost_25 (by decide) ?_
      refine lv_istore (lv' := [(6, .int 0), (5, .int 0), (4, .int (nI y)), (3, .int b), (0, .ref (ad B)), (1, .ref (ad v)), (2, .int (nI x))]) hx hb dX1_leastCost_26 hl (by decide) rfl (fun ls hl => ?_)
      have kx6 : ∀ (f : Int32), f = ex1 (plo I A B v x y) nr 0 → ∀ (H : Heap) (locs : List Loc), va_P D vwCl (VW K ad I G (up2 A v x (nI y)) L) H → va_S (vF ad s.heap.size) s.heap H locs → ∀ (ls : Array Slot), lv_has ls 7 [(5, .int f), (4, .int (nI y)), (3, .int b), (0, .ref (ad B)), (1, .ref (ad v)), (2, .int (nI x))] → W p l e ({ frames := 3, cells := 0, slots := 0, locals := 120 }) s m ([.ref (ad B), .ref (ad v), .int (nI x)] : List Value).toArray below meth c H locs 0 0 (MQ below (va_Qi (fun (r : Int32) (u : Mem) => r = lcs I A B v x nr sx 0 (-1000000) ∧ u = (I, G, A, L)) (vB D K ad) (vF ad s.heap.size)) ([.ref (ad B), .ref (ad v), .int (nI x)] : List Value).toArray s 0 0 (vF ad s.heap.size)) (F0 m 88 ls []) := by
        intro f hinv6 H locs hP hS ls hl
        obtain rfl : f = ex1 (plo I A B v x y) nr 0 := hinv6
        refine lv_iload hx hb dX1_leastCost_88 (lv_at hl 0 rfl) ?_
        refine lv_if_ne (tgt := 122) hx hb dX1_leastCost_90 (by decide) (fun c_7 => ?_) (fun c_7 => ?_)
        · refine lv_iinc (v := (nI (y + 1))) (lv' := [(4, .int (nI (y + 1))), (5, .int (ex1 (plo I A B v x y) nr 0)), (3, .int b), (0, .ref (ad B)), (1, .ref (ad v)), (2, .int (nI x))]) hx hb dX1_leastCost_122 hl (k := 1) rfl (nI_1 y) (by decide) rfl (fun ls hl => ?_)
          refine lv_goto (tgt := 6) hx hb dX1_leastCost_125 (by decide) ?_
          exact ih1 (y + 1) b (up2 A v x (nI y)) (by omega) (by rw [← hinv1]; simp [lcs, c_7]) (fun t => up2_up2 A v x (nI y) t) H locs hP hS ls (lv_sub hl [0, 2, 3, 4, 5] rfl)
        · refine lv_iload_n hx hb dX1_leastCost_93 rfl (lv_at hl 2 rfl) ?_
          refine lv_ldc (v := (-1000000)) hx hb hown (hts (.constant RX1 75 (-1000000)) (by decide +kernel)) dX1_leastCost_94 ?_
          refine lv_icmp_eq (tgt := 112) hx hb dX1_leastCost_96 (by decide) (fun c_8 => ?_) (fun c_8 => ?_)
          · refine lv_aload_n hx hb dX1_leastCost_112 rfl (lv_at hl 3 rfl) ?_
            refine vgS hx hb hts hi1 hown hK hP (B) (by have := (pr_o hB).1; omega) (pr_o hB).2.1 (C := RX1) (T := TX1) (N := 9) rfl 6 (by decide) (by decide) (by decide) (by decide) (B + 3) rfl (hts (.fieldLink RX1 34 "CrateHelpers$Problem" "prices" "[[I") (by decide +kernel)) (fun _ h9 => h9) dX1_leastCost_113 ?_
            refine lv_iload_n hx hb dX1_leastCost_116 rfl (lv_at hl 5 rfl) ?_
            refine xgald hx hb hK hP (B + 3) (by have := (pr_o hB).1; omega) (pr_o hB).2.2.2.2.1 hx3 (B + 4 + x) (by rw [rf15 (pr_o hB).2.2.2.2.1]; rw [nI_clamp (by omega)]) dX1_leastCost_117 ?_
            refine lv_iload hx hb dX1_leastCost_118 (lv_at hl 1 rfl) ?_
            refine xiald hx hb hK hP (B + 4 + x) (by have := (pr_o hB).1; omega) (pr_row (x := x) hB hx6).1 hi4 dX1_leastCost_120 ?_
            rw [nI_clamp (n := y) (by omega)]
            rw [up2_j (by omega)]
            refine lv_istore_n (lv' := [(3, .int (A (B + 4 + x) y)), (5, .int (ex1 (plo I A B v x y) nr 0)), (4, .int (nI y)), (0, .ref (ad B)), (1, .ref (ad v)), (2, .int (nI x))]) hx hb dX1_leastCost_121 rfl hl (by decide) rfl (fun ls hl => ?_)
            refine lv_iinc (v := (nI (y + 1))) (lv' := [(4, .int (nI (y + 1))), (3, .int (A (B + 4 + x) y)), (5, .int (ex1 (plo I A B v x y) nr 0)), (0, .ref (ad B)), (1, .ref (ad v)), (2, .int (nI x))]) hx hb dX1_leastCost_122 hl (k := 2) rfl (nI_1 y) (by decide) rfl (fun ls hl => ?_)
            refine lv_goto (tgt := 6) hx hb dX1_leastCost_125 (by decide) ?_
            exact ih1 (y + 1) (A (B + 4 + x) y) (up2 A v x (nI y)) (by omega) (by rw [← hinv1]; simp [lcs, c_7, c_8]) (fun t => up2_up2 A v x (nI y) t) H locs hP hS ls (lv_sub hl [0, 1, 3, 4, 5] rfl)
          · refine lv_aload_n hx hb dX1_leastCost_99 rfl (lv_at hl 3 rfl) ?_
            refine vgS hx hb hts hi1 hown hK hP (B) (by have := (pr_o hB).1; omega) (pr_o hB).2.1 (C := RX1) (T := TX1) (N := 9) rfl 6 (by decide) (by decide) (by decide) (by decide) (B + 3) rfl (hts (.fieldLink RX1 34 "CrateHelpers$Problem" "prices" "[[I") (by decide +kernel)) (fun _ h9 => h9) dX1_leastCost_100 ?_
            refine lv_iload_n hx hb dX1_leastCost_103 rfl (lv_at hl 5 rfl) ?_
            refine xgald hx hb hK hP (B + 3) (by have := (pr_o hB).1; omega) (pr_o hB).2.2.2.2.1 hx3 (B + 4 + x) (by rw [rf15 (pr_o hB).2.2.2.2.1]; rw [nI_clamp (by omega)]) dX1_leastCost_104 ?_
            refine lv_iload hx hb dX1_leastCost_105 (lv_at hl 1 rfl) ?_
            refine xiald hx hb hK hP (B + 4 + x) (by have := (pr_o hB).1; omega) (pr_row (x := x) hB hx6).1 hi4 dX1_leastCost_107 ?_
            rw [nI_clamp (n := y) (by omega)]
            rw [up2_j (by omega)]
            refine lv_iload_n hx hb dX1_leastCost_108 rfl (lv_at hl 2 rfl) ?_
            refine lv_icmp_ge (tgt := 122) hx hb dX1_leastCost_109 (by decide) (fun c_9 => ?_) (fun c_9 => ?_)
            · refine lv_iinc (v := (nI (y + 1))) (lv' := [(4, .int (nI (y + 1))), (5, .int (ex1 (plo I A B v x y) nr 0)), (3, .int b), (0, .ref (ad B)), (1, .ref (ad v)), (2, .int (nI x))]) hx hb dX1_leastCost_122 hl (k := 1) rfl (nI_1 y) (by decide) rfl (fun ls hl => ?_)
              refine lv_goto (tgt := 6) hx hb dX1_leastCost_125 (by decide) ?_
              exact ih1 (y + 1) b (up2 A v x (nI y)) (by omega) (by rw [← hinv1]; simp [lcs, c_7, c_8, (Int32.not_lt.mpr c_9)]) (fun t => up2_up2 A v x (nI y) t) H locs hP hS ls (lv_sub hl [0, 2, 3, 4, 5] rfl)
            · refine lv_aload_n hx hb dX1_leastCost_112 rfl (lv_at hl 3 rfl) ?_
              refine vgS hx hb hts hi1 hown hK hP (B) (by have := (pr_o hB).1; omega) (pr_o hB).2.1 (C := RX1) (T := TX1) (N := 9) rfl 6 (by decide) (by decide) (by decide) (by decide) (B + 3) rfl (hts (.fieldLink RX1 34 "CrateHelpers$Problem" "prices" "[[I") (by decide +kernel)) (fun _ h9 => h9) dX1_leastCost_113 ?_
              refine lv_iload_n hx hb dX1_leastCost_116 rfl (lv_at hl 5 rfl) ?_
              refine xgald hx hb hK hP (B + 3) (by have := (pr_o hB).1; omega) (pr_o hB).2.2.2.2.1 hx3 (B + 4 + x) (by rw [rf15 (pr_o hB).2.2.2.2.1]; rw [nI_clamp (by omega)]) dX1_leastCost_117 ?_
              refine lv_iload hx hb dX1_leastCost_118 (lv_at hl 1 rfl) ?_
              refine xiald hx hb hK hP (B + 4 + x) (by have := (pr_o hB).1; omega) (pr_row (x := x) hB hx6).1 hi4 dX1_leastCost_120 ?_
              rw [nI_clamp (n := y) (by omega)]
              rw [up2_j (by omega)]
              refine lv_istore_n (lv' := [(3, .int (A (B + 4 + x) y)), (5, .int (ex1 (plo I A B v x y) nr 0)), (4, .int (nI y)), (0, .ref (ad B)), (1, .ref (ad v)), (2, .int (nI x))]) hx hb dX1_leastCost_121 rfl hl (by decide) rfl (fun ls hl => ?_)
              refine lv_iinc (v := (nI (y + 1))) (lv' := [(4, .int (nI (y + 1))), (3, .int (A (B + 4 + x) y)), (5, .int (ex1 (plo I A B v x y) nr 0)), (0, .ref (ad B)), (1, .ref (ad v)), (2, .int (nI x))]) hx hb dX1_leastCost_122 hl (k := 2) rfl (nI_1 y) (by decide) rfl (fun ls hl => ?_)
              refine lv_goto (tgt := 6) hx hb dX1_leastCost_125 (by decide) ?_
              exact ih1 (y + 1) (A (B + 4 + x) y) (up2 A v x (nI y)) (by omega) (by rw [← hinv1]; simp [lcs, c_7, c_8, (Int32.not_le.mp c_9)]) (fun t => up2_up2 A v x (nI y) t) H locs hP hS ls (lv_sub hl [0, 1, 3, 4, 5] rfl)
      have lp6 : ∀ (k6 i : Nat) (f : Int32), i + k6 = nr → (if f = 0 then ex1 (plo I A B v x y) k6 i else f) = ex1 (plo I A B v x y) nr 0 ∧ (f = 0 ∨ f = 1) → ∀ (H : Heap) (locs : List Loc), va_P D vwCl (VW K ad I G (up2 A v x (nI y)) L) H → va_S (vF ad s.heap.size) s.heap H locs → ∀ (ls : Array Slot), lv_has ls 7 [(6, .int (nI i)), (5, .int f), (4, .int (nI y)), (3, .int b), (0, .ref (ad B)), (1, .ref (ad v)), (2, .int (nI x))] → W p l e ({ frames := 3, cells := 0, slots := 0, locals := 120 }) s m ([.ref (ad B), .ref (ad v), .int (nI x)] : List Value).toArray below meth c H locs 0 0 (MQ below (va_Qi (fun (r : Int32) (u : Mem) => r = lcs I A B v x nr sx 0 (-1000000) ∧ u = (I, G, A, L)) (vB D K ad) (vF ad s.heap.size)) ([.ref (ad B), .ref (ad v), .int (nI x)] : List Value).toArray s 0 0 (vF ad s.heap.size)) (F0 m 28 ls []) := by
        intro k6
        induction k6 with
        | zero =>
          intro i f hk6 hinv6 H locs hP hS ls hl
          obtain rfl : nr = i := by omega
          refine lv_iload hx hb dX1_leastCost_28 (lv_at hl 0 rfl) ?_
          refine lv_aload_n hx hb dX1_leastCost_30 rfl (lv_at hl 4 rfl) ?_
          refine vgI hx hb hts hi1 hown hK hP (B) (by have := (pr_o hB).1; omega) (pr_o hB).2.1 (C := RX1) (T := TX1) (N := 9) rfl 1 (by decide) (by decide) (by decide) (by decide) (hts (.fieldLink RX1 15 "CrateHelpers$Problem" "ruleCount" "I") (by decide +kernel)) (fun _ h9 => h9) dX1_leastCost_31 ?_
          rw [hBr]
          refine lv_icmp_ge (tgt := 88) hx hb dX1_leastCost_34 (by decide) (fun _ => ?_) (fun c_10 => absurd (nI_le (Nat.le_refl _) (by omega)) c_10)
          exact kx6 f (by rw [← hinv6.1]; rcases hinv6.2 with rfl | rfl <;> rfl) H locs hP hS ls (lv_sub hl [1, 2, 3, 4, 5, 6] rfl)
        | succ k6 ih6 =>
          intro i f hk6 hinv6 H locs hP hS ls hl
          have hlt6 : i < nr := by omega
          have hin6 : vp_in (nI i) (ln (B + 10)) := by rw [(pr_o hB).2.2.2.2.2.2.2.2.2.2.1]; exact vp_in_nI (by omega) (by omega)
          refine lv_iload hx hb dX1_leastCost_28 (lv_at hl 0 rfl) ?_
          refine lv_aload_n hx hb dX1_leastCost_30 rfl (lv_at hl 4 rfl) ?_
          refine vgI hx hb hts hi1 hown hK hP (B) (by have := (pr_o hB).1; omega) (pr_o hB).2.1 (C := RX1) (T := TX1) (N := 9) rfl 1 (by decide) (by decide) (by decide) (by decide) (hts (.fieldLink RX1 15 "CrateHelpers$Problem" "ruleCount" "I") (by decide +kernel)) (fun _ h9 => h9) dX1_leastCost_31 ?_
          rw [hBr]
          refine lv_icmp_ge (tgt := 88) hx hb dX1_leastCost_34 (by decide) (fun c_11 => absurd c_11 (nI_ge (by omega) (by omega))) (fun _ => ?_)
          refine lv_iload hx hb dX1_leastCost_37 (lv_at hl 1 rfl) ?_
          refine lv_if_ne (tgt := 88) hx hb dX1_leastCost_39 (by decide) (fun c_12 => ?_) (fun c_12 => ?_)
          · exact kx6 f (by rw [← hinv6.1, if_neg c_12]) H locs hP hS ls (lv_sub hl [1, 2, 3, 4, 5, 6] rfl)
          · refine lv_aload_n hx hb dX1_leastCost_42 rfl (lv_at hl 4 rfl) ?_
            refine vgS hx hb hts hi1 hown hK hP (B) (by have := (pr_o hB).1; omega) (pr_o hB).2.1 (C := RX1) (T := TX1) (N := 9) rfl 7 (by decide) (by decide) (by decide) (by decide) (B + 10) rfl (hts (.fieldLink RX1 39 "CrateHelpers$Problem" "rules" "[LCrateHelpers$Rule;") (by decide +kernel)) (fun _ h9 => h9) dX1_leastCost_43 ?_
            refine lv_iload hx hb dX1_leastCost_46 (lv_at hl 0 rfl) ?_
            refine xaald hx hb hK hP (B + 10) (by have := (pr_o hB).1; omega) 6 14 (pr_o hB).2.2.2.2.2.1 (by decide) rfl hin6 (B + 12 + 5 * i) (by rw [rf14 (pr_o hB).2.2.2.2.2.1]; rw [nI_clamp (by omega)]) dX1_leastCost_48 ?_
            refine vgS hx hb hts hi2 hown hK hP (B + 12 + 5 * i) (by have := (pr_ru (r := i) hB (by omega)).1; omega) (pr_ru (r := i) hB (by omega)).2.1 (C := RX2) (T := TX2) (N := 7) rfl 5 (by decide) (by decide) (by decide) (by decide) (B + 12 + 5 * i + 3) rfl (hts (.fieldLink RX1 76 "CrateHelpers$Rule" "isPart" "[Z") (by decide +kernel)) (fun _ h9 => h9) dX1_leastCost_49 ?_
            refine lv_iload_n hx hb dX1_leastCost_52 rfl (lv_at hl 6 rfl) ?_
            refine xzald hx hb hK hP (B + 12 + 5 * i + 3) (by have := (pr_ru (r := i) hB (by omega)).1; omega) (pr_ru (r := i) hB (by omega)).2.2.2.2.1 (hxp i (by omega)) dX1_leastCost_53 ?_
            rw [nI_clamp (n := x) (by omega)]
            rw [up2_j (by omega)]
            refine lv_if_eq (tgt := 79) hx hb dX1_leastCost_54 (by decide) (fun c_13 => ?_) (fun c_13 => ?_)
            · refine lv_iconst (v := 0) hx hb dX1_leastCost_79 (by decide) ?_
              refine lv_istore (lv' := [(5, .int 0), (6, .int (nI i)), (4, .int (nI y)), (3, .int b), (0, .ref (ad B)), (1, .ref (ad v)), (2, .int (nI x))]) hx hb dX1_leastCost_80 hl (by decide) rfl (fun ls hl => ?_)
              refine lv_iinc (v := (nI (i + 1))) (lv' := [(6, .int (nI (i + 1))), (5, .int 0), (4, .int (nI y)), (3, .int b), (0, .ref (ad B)), (1, .ref (ad v)), (2, .int (nI x))]) hx hb dX1_leastCost_82 hl (k := 1) rfl (nI_1 i) (by decide) rfl (fun ls hl => ?_)
              refine lv_goto (tgt := 28) hx hb dX1_leastCost_85 (by decide) ?_
              exact ih6 (i + 1) 0 (by omega) (⟨by rw [← hinv6.1, if_pos c_12]; simp [ex1, plo, c_13], by decide⟩) H locs hP hS ls (lv_sub hl [0, 1, 2, 3, 4, 5, 6] rfl)
            · refine lv_aload_n hx hb dX1_leastCost_57 rfl (lv_at hl 4 rfl) ?_
              refine vgS hx hb hts hi1 hown hK hP (B) (by have := (pr_o hB).1; omega) (pr_o hB).2.1 (C := RX1) (T := TX1) (N := 9) rfl 7 (by decide) (by decide) (by decide) (by decide) (B + 10) rfl (hts (.fieldLink RX1 39 "CrateHelpers$Problem" "rules" "[LCrateHelpers$Rule;") (by decide +kernel)) (fun _ h9 => h9) dX1_leastCost_58 ?_
              refine lv_iload hx hb dX1_leastCost_61 (lv_at hl 0 rfl) ?_
              refine xaald hx hb hK hP (B + 10) (by have := (pr_o hB).1; omega) 6 14 (pr_o hB).2.2.2.2.2.1 (by decide) rfl hin6 (B + 12 + 5 * i) (by rw [rf14 (pr_o hB).2.2.2.2.2.1]; rw [nI_clamp (by omega)]) dX1_leastCost_63 ?_
              refine lv_aload_n hx hb dX1_leastCost_64 rfl (lv_at hl 5 rfl) ?_
              refine lv_aload_n hx hb dX1_leastCost_65 rfl (lv_at hl 4 rfl) ?_
              refine vgS hx hb hts hi1 hown hK hP (B) (by have := (pr_o hB).1; omega) (pr_o hB).2.1 (C := RX1) (T := TX1) (N := 9) rfl 4 (by decide) (by decide) (by decide) (by decide) (B + 1) rfl (hts (.fieldLink RX1 25 "CrateHelpers$Problem" "sizes" "[I") (by decide +kernel)) (fun _ h9 => h9) dX1_leastCost_66 ?_
              refine vcV (As := [.ref (ad v), .ref (ad (B + 1))]) (rest := []) ⟨hx, hb, hml, hown, hts⟩ (c_X2_isBroken l D K ad hap0 (B + 12 + 5 * i) v (B + 1) (nP I (B + 12 + 5 * i)) (pr_ru hB (by omega)) hv (ia_sz hB) I G (up2 A v x (nI y)) L (hw9.2.2.2.2.2 i (by omega))) (cwV 2 hts gX1_leastCost_X2_isBroken rfl rfl rfl (by decide +kernel) ⟨Nat.le_of_ble_eq_true rfl, Nat.le_of_ble_eq_true rfl⟩) hK hP hS (by have := (pr_ru (r := i) hB (by omega)).1; omega) (pr_ru (r := i) hB (by omega)).2.1 (by decide) rfl rfl rfl hl.1 (Nat.le_of_ble_eq_true rfl) (Nat.le_of_ble_eq_true rfl) (Nat.le_of_ble_eq_true rfl) dX1_leastCost_69 (fun r14 u15 H locs hw hP hS => ?_) rfl
              obtain ⟨hr14, rfl⟩ := hw
              have hP : va_P D vwCl (VW K ad I G (up2 A v x (nI y)) L) H := hP
              subst hr14
              refine lv_if_eq (tgt := 79) hx hb dX1_leastCost_72 (by decide) (fun c_16 => ?_) (fun c_16 => ?_)
              · refine lv_iconst (v := 0) hx hb dX1_leastCost_79 (by decide) ?_
                refine lv_istore (lv' := [(5, .int 0), (6, .int (nI i)), (4, .int (nI y)), (3, .int b), (0, .ref (ad B)), (1, .ref (ad v)), (2, .int (nI x))]) hx hb dX1_leastCost_80 hl (by decide) rfl (fun ls hl => ?_)
                refine lv_iinc (v := (nI (i + 1))) (lv' := [(6, .int (nI (i + 1))), (5, .int 0), (4, .int (nI y)), (3, .int b), (0, .ref (ad B)), (1, .ref (ad v)), (2, .int (nI x))]) hx hb dX1_leastCost_82 hl (k := 1) rfl (nI_1 i) (by decide) rfl (fun ls hl => ?_)
                refine lv_goto (tgt := 28) hx hb dX1_leastCost_85 (by decide) ?_
                exact ih6 (i + 1) 0 (by omega) (⟨by rw [← hinv6.1, if_pos c_12]; simp [ex1, plo, c_13, c_16], by decide⟩) H locs hP hS ls (lv_sub hl [0, 1, 2, 3, 4, 5, 6] rfl)
              · refine lv_iconst (v := 1) hx hb dX1_leastCost_75 (by decide) ?_
                refine lv_goto (tgt := 80) hx hb dX1_leastCost_76 (by decide) ?_
                refine lv_istore (lv' := [(5, .int 1), (6, .int (nI i)), (4, .int (nI y)), (3, .int b), (0, .ref (ad B)), (1, .ref (ad v)), (2, .int (nI x))]) hx hb dX1_leastCost_80 hl (by decide) rfl (fun ls hl => ?_)
                refine lv_iinc (v := (nI (i + 1))) (lv' := [(6, .int (nI (i + 1))), (5, .int 1), (4, .int (nI y)), (3, .int b), (0, .ref (ad B)), (1, .ref (ad v)), (2, .int (nI x))]) hx hb dX1_leastCost_82 hl (k := 1) rfl (nI_1 i) (by decide) rfl (fun ls hl => ?_)
                refine lv_goto (tgt := 28) hx hb dX1_leastCost_85 (by decide) ?_
                exact ih6 (i + 1) 1 (by omega) (⟨by rw [← hinv6.1, if_pos c_12]; simp [ex1, plo, c_13, c_16], by decide⟩) H locs hP hS ls (lv_sub hl [0, 1, 2, 3, 4, 5, 6] rfl)
      exact lp6 (nr) 0 0 (by omega) (⟨rfl, Or.inl rfl⟩) _ _ hP hS ls (lv_sub hl [0, 1, 2, 3, 4, 5, 6] rfl)
  exact lp1 (sx) 0 (-1000000) A (by omega) (rfl) (fun _ => rfl) _ _ hP hS ls (lv_sub hl [0, 1, 2, 3, 4] rfl)
