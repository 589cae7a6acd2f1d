/-! PROBLEMS. A problem lies in 52 slots from B on -/
def PrAt (B : Nat) : Prop := ∃ p, p < 5 ∧ B = 58 + 52 * p
theorem pr_all : ∀ p, p < 5 → (58 + 52 * p + 51 < NS ∧ kd (58 + 52 * p) = 1 ∧ kd (58 + 52 * p + 1) = 8 ∧ kd (58 + 52 * p + 2) = 8 ∧ kd (58 + 52 * p + 3) = 15 ∧ kd (58 + 52 * p + 10) = 14 ∧ kd (58 + 52 * p + 11) = 8 ∧ ln (58 + 52 * p + 1) = 6 ∧ ln (58 + 52 * p + 2) = 6 ∧ ln (58 + 52 * p + 3) = 6 ∧ ln (58 + 52 * p + 10) = 8 ∧ ln (58 + 52 * p + 11) = 12) := by decide +kernel
theorem pr_o {B : Nat} (h : PrAt B) : B + 51 < NS ∧ kd B = 1 ∧ kd (B + 1) = 8 ∧ kd (B + 2) = 8 ∧ kd (B + 3) = 15 ∧ kd (B + 10) = 14 ∧ kd (B + 11) = 8 ∧ ln (B + 1) = 6 ∧ ln (B + 2) = 6 ∧ ln (B + 3) = 6 ∧ ln (B + 10) = 8 ∧ ln (B + 11) = 12 := by
  obtain ⟨p, hp, rfl⟩ := h
  exact pr_all p hp
theorem pr_rows : ∀ p, p < 5 → ∀ x, x < 6 → (kd (58 + 52 * p + 4 + x) = 8 ∧ ln (58 + 52 * p + 4 + x) = 6) := by decide +kernel
theorem pr_row {B x : Nat} (h : PrAt B) (hx : x < 6) : kd (B + 4 + x) = 8 ∧ ln (B + 4 + x) = 6 := by
  obtain ⟨p, hp, rfl⟩ := h
  exact pr_rows p hp x hx
theorem pr_rus : ∀ p, p < 5 → ∀ r, r < 8 → (58 + 52 * p + 12 + 5 * r + 4 < NS ∧ kd (58 + 52 * p + 12 + 5 * r) = 2 ∧ kd (58 + 52 * p + 12 + 5 * r + 1) = 8 ∧ kd (58 + 52 * p + 12 + 5 * r + 2) = 8 ∧ kd (58 + 52 * p + 12 + 5 * r + 3) = 11 ∧ kd (58 + 52 * p + 12 + 5 * r + 4) = 8 ∧ ln (58 + 52 * p + 12 + 5 * r + 1) = 6 ∧ ln (58 + 52 * p + 12 + 5 * r + 2) = 6 ∧ ln (58 + 52 * p + 12 + 5 * r + 3) = 6 ∧ ln (58 + 52 * p + 12 + 5 * r + 4) = 6) := by decide +kernel
theorem pr_ru {B r : Nat} (h : PrAt B) (hr : r < 8) : RuAt (B + 12 + 5 * r) := by
  obtain ⟨p, hp, rfl⟩ := h
  exact pr_rus p hp r hr
theorem pr_ge {B : Nat} (h : PrAt B) : 58 ≤ B := by obtain ⟨p, hp, rfl⟩ := h; omega
theorem ia_sz {B : Nat} (h : PrAt B) : IA (B + 1) 6 := ⟨by have := (pr_o h).1; omega, (pr_o h).2.2.1, (pr_o h).2.2.2.2.2.2.2.1⟩
def nP (I : Nat → Nat → Int32) (q : Nat) : Nat := (I q 2).toNatClampNeg
/-- a problem in order: nv variables with 1 to 6 values, nr rules -/
def PrW (I A : Nat → Nat → Int32) (B nv nr : Nat) : Prop := nv ≤ 6 ∧ nr ≤ 8 ∧ I B 0 = nI nv ∧ I B 1 = nI nr ∧ (∀ x, x < nv → ∃ s, 1 ≤ s ∧ s ≤ 6 ∧ A (B + 1) x = nI s) ∧ ∀ r, r < 8 → RuW I A (B + 12 + 5 * r) (nP I (B + 12 + 5 * r))
/-- the first from i on, within k steps (-9: none) -/
def fst1 (p : Nat → Bool) : Nat → Nat → Int32
  | 0, _ => -9
  | k + 1, i => if p i = true then nI i else fst1 p k (i + 1)
def pbr (I A : Nat → Nat → Int32) (B v i : Nat) : Bool := decide (¬ brk I A (B + 12 + 5 * i) v (B + 1) (nP I (B + 12 + 5 * i)) = 0)
/-- the first rule that the row at v breaks -/
def fbk (I A : Nat → Nat → Int32) (B v nr : Nat) : Int32 := fst1 (pbr I A B v) nr 0
theorem up2_back {α : Type} (F : Nat → Nat → α) (j k : Nat) (x : α) : up2 (up2 F j k x) j k (F j k) = F := by
  funext a b
  by_cases h : a = j ∧ b = k
  · obtain ⟨rfl, rfl⟩ := h; rw [up2_s]
  · unfold up2; rw [if_neg h, if_neg h]
theorem up2_up2 {α : Type} (F : Nat → Nat → α) (j k : Nat) (x y : α) : up2 (up2 F j k x) j k y = up2 F j k y := by
  funext a b
  by_cases h : a = j ∧ b = k
  · obtain ⟨rfl, rfl⟩ := h; rw [up2_s, up2_s]
  · unfold up2; rw [if_neg h, if_neg h, if_neg h]
theorem up2_bk {α : Type} {F : Nat → Nat → α} {j k : Nat} {x y : α} (h : F j k = y) : up2 (up2 F j k x) j k y = F := by subst h; exact up2_back F j k x
theorem RuW_A {I A : Nat → Nat → Int32} {q n v x : Nat} {t : Int32} (h : RuW I A q n) (hv : v ≠ q + 1) : RuW I (up2 A v x t) q n := ⟨h.1, h.2.1, fun i hi => by rw [up2_j (Ne.symm hv)]; exact h.2.2 i hi⟩
theorem PrW_A {I A : Nat → Nat → Int32} {B nv nr v x : Nat} {t : Int32} (h : PrW I A B nv nr) (hv : v < B) : PrW I (up2 A v x t) B nv nr := ⟨h.1, h.2.1, h.2.2.1, h.2.2.2.1, fun y hy => by rw [up2_j (by omega)]; exact h.2.2.2.2.1 y hy, fun r hr => RuW_A (h.2.2.2.2.2 r hr) (by omega)⟩
theorem in_le {x : Int32} {a b : Nat} (h : vp_in x a) (hab : a ≤ b) : vp_in x b := fun q => h (q.imp id (fun r => Nat.le_trans hab r))
theorem in_lt {x : Int32} {n N : Nat} (h0 : ¬ x < 0) (h1 : x < nI n) (hn : n ≤ N) (hN : N < 2 ^ 31) : vp_in x N := vp_in_iff.mpr ⟨by have h := Int32.not_lt.mp h0; exact Int32.le_iff_toInt_le.mp h, by have h := Int32.lt_iff_toInt_lt.mp h1; rw [nI_toInt (by omega)] at h; omega⟩

set_option maxHeartbeats 4000000 in
set_option maxRecDepth 100000 in
theorem c_X1_hasVariable (l : Launch) (D : va_G) (K : Nat → ClassId) (ad : Nat → Nat) (hap0 : apart ad (fun _ => True)) (B nv nr : Nat) (hB : PrAt B) (x : Int32) (I : Nat → Nat → Int32) (G : Nat → Nat → Nat) (A : Nat → Nat → Int32) (L : Nat → Nat → Int64) (hw : PrW I A B nv nr) : Ci l D K ad yX1_hasVariable wsX1_hasVariable 0 0 [.ref (ad B), .int x] (I, G, A, L) (fun (r : Int32) (u : Mem) => r = (if ¬ x < 0 ∧ x < nI nv then 1 else 0) ∧ u = (I, G, A, L)) := by
  intro sz
  refine Met.ofW (cc := cX1_hasVariable) (maxL := 2) (ret := (some .boolean)) (by decide) rfl ?_
  intro p e s m args below meth c s₁ Bd hml hv0
  obtain ⟨rfl, hsz, hP, hK⟩ := hv0
  have hx := Bd.exec
  have hb := Bd.bytes
  have hr := Bd.returns
  have hts := atoms_spec (ws := wsX1_hasVariable) Bd.pre
  have hown : s.vm.findClass RX1 = some m.cls := findClass_of_methodNamed Bd.named
  have hlocks := Bd.notSynchronized
  have hi1 : ∀ w ∈ u_ws RX1 TX1 9, w ∈ wsX1_hasVariable := fun w h => List.mem_cons_of_mem _ (List.mem_append_right _ h)
  subst hsz
  have hap := vF_ap hap0 s.heap.size
  have hS : va_S (vF ad s.heap.size) s.heap s.heap [] := va_S.rf
  have hP : va_P D vwCl (VW K ad I G A L) s.heap := hP
  have hl := lv_entry ([.ref (ad B), .int x]) (n := 2) (Nat.le_of_ble_eq_true rfl)
  rw [lg_entry_eq]
  generalize (lg_sl ([.ref (ad B), .int x]) ++ List.replicate (2 - (lg_sl ([.ref (ad B), .int x])).length) Slot.unset).toArray = ls at hl ⊢
  have hl : lv_has ls 2 [(0, .ref (ad B)), (1, .int x)] := hl
  have hnv : nv ≤ 6 := hw.1
  have hnr : nr ≤ 8 := hw.2.1
  have hBv : I B 0 = nI nv := hw.2.2.1
  have hBr : I B 1 = nI nr := hw.2.2.2.1
  refine lv_iload_n hx hb dX1_hasVariable_0 rfl (lv_at hl 1 rfl) ?_
  refine lv_if_lt (tgt := 16) hx hb dX1_hasVariable_1 (by decide) (fun c_1 => ?_) (fun c_1 => ?_)
  · refine lv_iconst (v := 0) hx hb dX1_hasVariable_16 (by decide) ?_
    exact W.zret (v := 0) hx hb hr (by decide) (fun t ht hW => ⟨⟨0, (I, G, A, L), rfl, ⟨by first | (simp [c_1]; done), rfl⟩, by rw [ht]; exact hP, va_K.moved hW.alike hK⟩, hS.F ht⟩) hS.2.2 dX1_hasVariable_17
  · refine lv_iload_n hx hb dX1_hasVariable_4 rfl (lv_at hl 1 rfl) ?_
    refine lv_aload_n hx hb dX1_hasVariable_5 rfl (lv_at hl 0 rfl) ?_
    refine vgI hx hb hts hi1 hown hK hP (B) (by have := (pr_o hB).1; omega) (pr_o hB).2.1 (C := RX1) (T := TX1) (N := 9) rfl 0 (by decide) (by decide) (by decide) (by decide) (hts (.fieldLink RX1 9 "CrateHelpers$Problem" "variables" "I") (by decide +kernel)) (fun _ h9 => h9) dX1_hasVariable_6 ?_
    rw [hBv]
    refine lv_icmp_ge (tgt := 16) hx hb dX1_hasVariable_9 (by decide) (fun c_2 => ?_) (fun c_2 => ?_)
    · refine lv_iconst (v := 0) hx hb dX1_hasVariable_16 (by decide) ?_
      exact W.zret (v := 0) hx hb hr (by decide) (fun t ht hW => ⟨⟨0, (I, G, A, L), rfl, ⟨by first | (simp [c_1, (Int32.not_lt.mpr c_2)]; done) | exact absurd c_1 c_2 | exact absurd c_2 c_1, rfl⟩, by rw [ht]; exact hP, va_K.moved hW.alike hK⟩, hS.F ht⟩) hS.2.2 dX1_hasVariable_17
    · refine lv_iconst (v := 1) hx hb dX1_hasVariable_12 (by decide) ?_
      refine lv_goto (tgt := 17) hx hb dX1_hasVariable_13 (by decide) ?_
      exact W.zret (v := 1) hx hb hr (by decide) (fun t ht hW => ⟨⟨1, (I, G, A, L), rfl, ⟨by first | (simp [c_1, (Int32.not_le.mp c_2)]; done) | exact absurd c_1 c_2 | exact absurd c_2 c_1, rfl⟩, by rw [ht]; exact hP, va_K.moved hW.alike hK⟩, hS.F ht⟩) hS.2.2 dX1_hasVariable_17

set_option maxHeartbeats 4000000 in
set_option maxRecDepth 100000 in
theorem c_X1_hasRule (l : Launch) (D : va_G) (K : Nat → ClassId) (ad : Nat → Nat) (hap0 : apart ad (fun _ => True)) (B nv nr : Nat) (hB : PrAt B) (x : Int32) (I : Nat → Nat → Int32) (G : Nat → Nat → Nat) (A : Nat → Nat → Int32) (L : Nat → Nat → Int64) (hw : PrW I A B nv nr) : Ci l D K ad yX1_hasRule wsX1_hasRule 0 0 [.ref (ad B), .int x] (I, G, A, L) (fun (r : Int32) (u : Mem) => r = (if ¬ x < 0 ∧ x < nI nr then 1 else 0) ∧ u = (I, G, A, L)) := by
  intro sz
  refine Met.ofW (cc := cX1_hasRule) (maxL := 2) (ret := (some .boolean)) (by decide) rfl ?_
  intro p e s m args below meth c s₁ Bd hml hv0
  obtain ⟨rfl, hsz, hP, hK⟩ := hv0
  have hx := Bd.exec
  have hb := Bd.bytes
  have hr := Bd.returns
  have hts := atoms_spec (ws := wsX1_hasRule) Bd.pre
  have hown : s.vm.findClass RX1 = some m.cls := findClass_of_methodNamed Bd.named
  have hlocks := Bd.notSynchronized
  have hi1 : ∀ w ∈ u_ws RX1 TX1 9, w ∈ wsX1_hasRule := fun w h => List.mem_cons_of_mem _ (List.mem_append_right _ h)
  subst hsz
  have hap := vF_ap hap0 s.heap.size
  have hS : va_S (vF ad s.heap.size) s.heap s.heap [] := va_S.rf
  have hP : va_P D vwCl (VW K ad I G A L) s.heap := hP
  have hl := lv_entry ([.ref (ad B), .int x]) (n := 2) (Nat.le_of_ble_eq_true rfl)
  rw [lg_entry_eq]
  generalize (lg_sl ([.ref (ad B), .int x]) ++ List.replicate (2 - (lg_sl ([.ref (ad B), .int x])).length) Slot.unset).toArray = ls at hl ⊢
  have hl : lv_has ls 2 [(0, .ref (ad B)), (1, .int x)] := hl
  have hnv : nv ≤ 6 := hw.1
  have hnr : nr ≤ 8 := hw.2.1
  have hBv : I B 0 = nI nv := hw.2.2.1
  have hBr : I B 1 = nI nr := hw.2.2.2.1
  refine lv_iload_n hx hb dX1_hasRule_0 rfl (lv_at hl 1 rfl) ?_
  refine lv_if_lt (tgt := 16) hx hb dX1_hasRule_1 (by decide) (fun c_1 => ?_) (fun c_1 => ?_)
  · refine lv_iconst (v := 0) hx hb dX1_hasRule_16 (by decide) ?_
    exact W.zret (v := 0) hx hb hr (by decide) (fun t ht hW => ⟨⟨0, (I, G, A, L), rfl, ⟨by first | (simp [c_1]; done), rfl⟩, by rw [ht]; exact hP, va_K.moved hW.alike hK⟩, hS.F ht⟩) hS.2.2 dX1_hasRule_17
  · refine lv_iload_n hx hb dX1_hasRule_4 rfl (lv_at hl 1 rfl) ?_
    refine lv_aload_n hx hb dX1_hasRule_5 rfl (lv_at hl 0 rfl) ?_
    refine vgI hx hb hts hi1 hown hK hP (B) (by have := (pr_o hB).1; omega) (pr_o hB).2.1 (C := RX1) (T := TX1) (N := 9) rfl 1 (by decide) (by decide) (by decide) (by decide) (hts (.fieldLink RX1 15 "CrateHelpers$Problem" "ruleCount" "I") (by decide +kernel)) (fun _ h9 => h9) dX1_hasRule_6 ?_
    rw [hBr]
    refine lv_icmp_ge (tgt := 16) hx hb dX1_hasRule_9 (by decide) (fun c_2 => ?_) (fun c_2 => ?_)
    · refine lv_iconst (v := 0) hx hb dX1_hasRule_16 (by decide) ?_
      exact W.zret (v := 0) hx hb hr (by decide) (fun t ht hW => ⟨⟨0, (I, G, A, L), rfl, ⟨by first | (simp [c_1, (Int32.not_lt.mpr c_2)]; done) | exact absurd c_1 c_2 | exact absurd c_2 c_1, rfl⟩, by rw [ht]; exact hP, va_K.moved hW.alike hK⟩, hS.F ht⟩) hS.2.2 dX1_hasRule_17
    · refine lv_iconst (v := 1) hx hb dX1_hasRule_12 (by decide) ?_
      refine lv_goto (tgt := 17) hx hb dX1_hasRule_13 (by decide) ?_
      exact W.zret (v := 1) hx hb hr (by decide) (fun t ht hW => ⟨⟨1, (I, G, A, L), rfl, ⟨by first | (simp [c_1, (Int32.not_le.mp c_2)]; done) | exact absurd c_1 c_2 | exact absurd c_2 c_1, rfl⟩, by rw [ht]; exact hP, va_K.moved hW.alike hK⟩, hS.F ht⟩) hS.2.2 dX1_hasRule_17

set_option maxHeartbeats 4000000 in
set_option maxRecDepth 100000 in
theorem c_X1_hasValue (l : Launch) (D : va_G) (K : Nat → ClassId) (ad : Nat → Nat) (hap0 : apart ad (fun _ => True)) (B nv nr : Nat) (hB : PrAt B) (x y : Int32) (I : Nat → Nat → Int32) (G : Nat → Nat → Nat) (A : Nat → Nat → Int32) (L : Nat → Nat → Int64) (hw : PrW I A B nv nr) : Ci l D K ad yX1_hasValue wsX1_hasValue 1 40 [.ref (ad B), .int x, .int y] (I, G, A, L) (fun (r : Int32) (u : Mem) => r = (if (¬ x < 0 ∧ x < nI nv) ∧ ¬ y < 0 ∧ y < A (B + 1) x.toNatClampNeg then 1 else 0) ∧ u = (I, G, A, L)) := by
  intro sz
  refine Met.ofW (cc := cX1_hasValue) (maxL := 3) (ret := (some .boolean)) (by decide) rfl ?_
  intro p e s m args below meth c s₁ Bd hml hv0
  obtain ⟨rfl, hsz, hP, hK⟩ := hv0
  have hx := Bd.exec
  have hb := Bd.bytes
  have hr := Bd.returns
  have hts := atoms_spec (ws := wsX1_hasValue) Bd.pre
  have hown : s.vm.findClass RX1 = some m.cls := findClass_of_methodNamed Bd.named
  have hlocks := Bd.notSynchronized
  have hi1 : ∀ w ∈ u_ws RX1 TX1 9, w ∈ wsX1_hasValue := fun w h => List.mem_cons_of_mem _ (List.mem_append_right _ h)
  subst hsz
  have hap := vF_ap hap0 s.heap.size
  have hS : va_S (vF ad s.heap.size) s.heap s.heap [] := va_S.rf
  have hP : va_P D vwCl (VW K ad I G A L) s.heap := hP
  have hl := lv_entry ([.ref (ad B), .int x, .int y]) (n := 3) (Nat.le_of_ble_eq_true rfl)
  rw [lg_entry_eq]
  generalize (lg_sl ([.ref (ad B), .int x, .int y]) ++ List.replicate (3 - (lg_sl ([.ref (ad B), .int x, .int y])).length) Slot.unset).toArray = ls at hl ⊢
  have hl : lv_has ls 3 [(0, .ref (ad B)), (1, .int x), (2, .int y)] := hl
  have hnv : nv ≤ 6 := hw.1
  have hnr : nr ≤ 8 := hw.2.1
  have hBv : I B 0 = nI nv := hw.2.2.1
  have hBr : I B 1 = nI nr := hw.2.2.2.1
  refine lv_aload_n hx hb dX1_hasValue_0 rfl (lv_at hl 0 rfl) ?_
  refine lv_iload_n hx hb dX1_hasValue_1 rfl (lv_at hl 1 rfl) ?_
  refine vcV (As := [.int x]) (rest := []) ⟨hx, hb, hml, hown, hts⟩ (c_X1_hasVariable l D K ad hap0 B nv nr hB x I G A L hw) (cwV 1 hts gX1_hasValue_X1_hasVariable rfl rfl rfl (by decide +kernel) ⟨Nat.le_of_ble_eq_true rfl, Nat.le_of_ble_eq_true rfl⟩) hK hP hS (by have := (pr_o hB).1; omega) (pr_o hB).2.1 (by decide) rfl rfl rfl hl.1 (Nat.le_of_ble_eq_true rfl) (Nat.le_of_ble_eq_true rfl) (Nat.le_of_ble_eq_true rfl) dX1_hasValue_2 (fun r1 u2 H locs hw hP hS => ?_) rfl
  obtain ⟨hr1, rfl⟩ := hw
  have hP : va_P D vwCl (VW K ad I G A L) H := hP
  subst hr1
  by_cases hxv : ¬ x < 0 ∧ x < nI nv
  · rw [if_pos hxv]
    have hx1 : vp_in x (ln (B + 1)) := by rw [(pr_o hB).2.2.2.2.2.2.2.1]; exact in_lt hxv.1 hxv.2 hnv (by decide)
    refine lv_if_eq (tgt := 26) hx hb dX1_hasValue_5 (by decide) (fun c_3 => absurd c_3 (by decide)) (fun _ => ?_)
    refine lv_iload_n hx hb dX1_hasValue_8 rfl (lv_at hl 2 rfl) ?_
    refine lv_if_lt (tgt := 26) hx hb dX1_hasValue_9 (by decide) (fun c_4 => ?_) (fun c_4 => ?_)
    · refine lv_iconst (v := 0) hx hb dX1_hasValue_26 (by decide) ?_
      exact W.zret (v := 0) hx hb hr (by decide) (fun t ht hW => ⟨⟨0, (I, G, A, L), rfl, ⟨by first | (simp [hxv, c_4]; done), rfl⟩, by rw [ht]; exact hP, va_K.moved hW.alike hK⟩, hS.F ht⟩) hS.2.2 dX1_hasValue_27
    · refine lv_iload_n hx hb dX1_hasValue_12 rfl (lv_at hl 2 rfl) ?_
      refine lv_aload_n hx hb dX1_hasValue_13 rfl (lv_at hl 0 rfl) ?_
      refine vgS hx hb hts hi1 hown hK hP (B) (by have := (pr_o hB).1; omega) (pr_o hB).2.1 (C := RX1) (T := TX1) (N := 9) rfl 4 (by decide) (by decide) (by decide) (by decide) (B + 1) rfl (hts (.fieldLink RX1 25 "CrateHelpers$Problem" "sizes" "[I") (by decide +kernel)) (fun _ h9 => h9) dX1_hasValue_14 ?_
      refine lv_iload_n hx hb dX1_hasValue_17 rfl (lv_at hl 1 rfl) ?_
      refine xiald hx hb hK hP (B + 1) (by have := (pr_o hB).1; omega) (pr_o hB).2.2.1 hx1 dX1_hasValue_18 ?_
      refine lv_icmp_ge (tgt := 26) hx hb dX1_hasValue_19 (by decide) (fun c_5 => ?_) (fun c_5 => ?_)
      · refine lv_iconst (v := 0) hx hb dX1_hasValue_26 (by decide) ?_
        exact W.zret (v := 0) hx hb hr (by decide) (fun t ht hW => ⟨⟨0, (I, G, A, L), rfl, ⟨by first | (simp [hxv, c_4, (Int32.not_lt.mpr c_5)]; done) | exact absurd c_4 c_5 | exact absurd c_5 c_4, rfl⟩, by rw [ht]; exact hP, va_K.moved hW.alike hK⟩, hS.F ht⟩) hS.2.2 dX1_hasValue_27
      · refine lv_iconst (v := 1) hx hb dX1_hasValue_22 (by decide) ?_
        refine lv_goto (tgt := 27) hx hb dX1_hasValue_23 (by decide) ?_
        exact W.zret (v := 1) hx hb hr (by decide) (fun t ht hW => ⟨⟨1, (I, G, A, L), rfl, ⟨by first | (simp [hxv, c_4, (Int32.not_le.mp c_5)]; done) | exact absurd c_4 c_5 | exact absurd c_5 c_4, rfl⟩, by rw [ht]; exact hP, va_K.moved hW.alike hK⟩, hS.F ht⟩) hS.2.2 dX1_hasValue_27
  · rw [if_neg hxv]
    refine lv_if_eq (tgt := 26) hx hb dX1_hasValue_5 (by decide) (fun _ => ?_) (fun c_6 => absurd c_6 (by decide))
    refine lv_iconst (v := 0) hx hb dX1_hasValue_26 (by decide) ?_
    exact W.zret (v := 0) hx hb hr (by decide) (fun t ht hW => ⟨⟨0, (I, G, A, L), rfl, ⟨(if_neg (fun h => hxv h.1)).symm, rfl⟩, by rw [ht]; exact hP, va_K.moved hW.alike hK⟩, hS.F ht⟩) hS.2.2 dX1_hasValue_27

set_option maxHeartbeats 4000000 in
set_option maxRecDepth 100000 in
theorem c_X1_change (l : Launch) (D : va_G) (K : Nat → ClassId) (ad : Nat → Nat) (hap0 : apart ad (fun _ => True)) (B : Nat) (hB : PrAt B) (I : Nat → Nat → Int32) (G : Nat → Nat → Nat) (A : Nat → Nat → Int32) (L : Nat → Nat → Int64)  : Cv l D K ad yX1_change wsX1_change 0 0 [.ref (ad B)] (I, G, A, L) (fun (u : Mem) => u = (up2 (up2 I B 2 (I B 2 + 1)) B 3 0, G, A, L)) := by
  intro sz
  refine Met.ofW (cc := cX1_change) (maxL := 1) (ret := none) (by decide) rfl ?_
  intro p e s m args below meth c s₁ Bd hml hv0
  obtain ⟨rfl, hsz, hP, hK⟩ := hv0
  have hx := Bd.exec
  have hb := Bd.bytes
  have hr := Bd.returns
  have hts := atoms_spec (ws := wsX1_change) Bd.pre
  have hown : s.vm.findClass RX1 = some m.cls := findClass_of_methodNamed Bd.named
  have hlocks := Bd.notSynchronized
  have hi1 : ∀ w ∈ u_ws RX1 TX1 9, w ∈ wsX1_change := fun w h => List.mem_cons_of_mem _ (List.mem_append_right _ h)
  subst hsz
  have hap := vF_ap hap0 s.heap.size
  have hS : va_S (vF ad s.heap.size) s.heap s.heap [] := va_S.rf
  have hP : va_P D vwCl (VW K ad I G A L) s.heap := hP
  have hl := lv_entry ([.ref (ad B)]) (n := 1) (Nat.le_of_ble_eq_true rfl)
  rw [lg_entry_eq]
  generalize (lg_sl ([.ref (ad B)]) ++ List.replicate (1 - (lg_sl ([.ref (ad B)])).length) Slot.unset).toArray = ls at hl ⊢
  have hl : lv_has ls 1 [(0, .ref (ad B))] := hl
  refine lv_aload_n hx hb dX1_change_0 rfl (lv_at hl 0 rfl) ?_
  refine lv_dup hx hb dX1_change_1 rfl ?_
  refine vgI hx hb hts hi1 hown hK hP (B) (by have := (pr_o hB).1; omega) (pr_o hB).2.1 (C := RX1) (T := TX1) (N := 9) rfl 2 (by decide) (by decide) (by decide) (by decide) (hts (.fieldLink RX1 18 "CrateHelpers$Problem" "changes" "I") (by decide +kernel)) (fun _ h9 => h9) dX1_change_2 ?_
  refine lv_iconst (v := 1) hx hb dX1_change_5 (by decide) ?_
  refine lv_iadd hx hb dX1_change_6 ?_
  refine vpI (v := ((I B 2) + 1)) (ty := .int) hx hb hts hi1 tyX1 tyX1_ok nmX1 hown hK hP hap hS (B) (by have := (pr_o hB).1; omega) (pr_o hB).2.1 (C := RX1) (T := TX1) (N := 9) rfl 2 (by decide) (by decide) (by decide) (by decide) (hts (.fieldLink RX1 18 "CrateHelpers$Problem" "changes" "I") (by decide +kernel)) (fun _ h9 => h9) rfl (by decide +kernel) rfl rfl dX1_change_7 (fun H locs hP hS => ?_)
  obtain ⟨I1, eI1⟩ : ∃ z, z = up2 I B 2 ((I B 2) + 1) := ⟨_, rfl⟩
  rw [← eI1] at hP
  have hP : va_P D vwCl (VW K ad I1 G A L) H := hP
  refine lv_aload_n hx hb dX1_change_10 rfl (lv_at hl 0 rfl) ?_
  refine lv_iconst (v := 0) hx hb dX1_change_11 (by decide) ?_
  refine vpI (v := 0) (ty := .boolean) hx hb hts hi1 tyX1 tyX1_ok nmX1 hown hK hP hap hS (B) (by have := (pr_o hB).1; omega) (pr_o hB).2.1 (C := RX1) (T := TX1) (N := 9) rfl 3 (by decide) (by decide) (by decide) (by decide) (hts (.fieldLink RX1 21 "CrateHelpers$Problem" "hasEnded" "Z") (by decide +kernel)) (fun _ h9 => h9) rfl (by decide +kernel) rfl rfl dX1_change_12 (fun H locs hP hS => ?_)
  obtain ⟨I2, eI2⟩ : ∃ z, z = up2 I1 B 3 0 := ⟨_, rfl⟩
  rw [← eI2] at hP
  have hP : va_P D vwCl (VW K ad I2 G A L) H := hP
  exact W.vret hx hb hr (fun t ht hW => ⟨⟨(I2, G, A, L), rfl, by rw [eI2, eI1], by rw [ht]; exact hP, va_K.moved hW.alike hK⟩, hS.F ht⟩) hS.2.2 dX1_change_15

set_option maxHeartbeats 4000000 in
set_option maxRecDepth 100000 in
theorem c_X1_addVariable (l : Launch) (D : va_G) (K : Nat → ClassId) (ad : Nat → Nat) (hap0 : apart ad (fun _ => True)) (B nv nr : Nat) (hB : PrAt B) (n k : Int32) (h6 : nv < 6) (I : Nat → Nat → Int32) (G : Nat → Nat → Nat) (A : Nat → Nat → Int32) (L : Nat → Nat → Int64) (hw : PrW I A B nv nr) : Ci l D K ad yX1_addVariable wsX1_addVariable 1 40 [.ref (ad B), .int n, .int k] (I, G, A, L) (fun (r : Int32) (u : Mem) => r = nI nv ∧ u = (up2 (up2 (up2 I B 2 (I B 2 + 1)) B 3 0) B 0 (nI nv + 1), G, up2 (up2 A (B + 1) nv n) (B + 2) nv k, L)) := by
  intro sz
  refine Met.ofW (cc := cX1_addVariable) (maxL := 3) (ret := (some .int)) (by decide) rfl ?_
  intro p e s m args below meth c s₁ Bd hml hv0
  obtain ⟨rfl, hsz, hP, hK⟩ := hv0
  have hx := Bd.exec
  have hb := Bd.bytes
  have hr := Bd.returns
  have hts := atoms_spec (ws := wsX1_addVariable) Bd.pre
  have hown : s.vm.findClass RX1 = some m.cls := findClass_of_methodNamed Bd.named
  have hlocks := Bd.notSynchronized
  have hi1 : ∀ w ∈ u_ws RX1 TX1 9, w ∈ wsX1_addVariable := fun w h => List.mem_cons_of_mem _ (List.mem_append_right _ h)
  subst hsz
  have hap := vF_ap hap0 s.heap.size
  have hS : va_S (vF ad s.heap.size) s.heap s.heap [] := va_S.rf
  have hP : va_P D vwCl (VW K ad I G A L) s.heap := hP
  have hl := lv_entry ([.ref (ad B), .int n, .int k]) (n := 3) (Nat.le_of_ble_eq_true rfl)
  rw [lg_entry_eq]
  generalize (lg_sl ([.ref (ad B), .int n, .int k]) ++ List.replicate (3 - (lg_sl ([.ref (ad B), .int n, .int k])).length) Slot.unset).toArray = ls at hl ⊢
  have hl : lv_has ls 3 [(0, .ref (ad B)), (1, .int n), (2, .int k)] := hl
  have hnv : nv ≤ 6 := hw.1
  have hnr : nr ≤ 8 := hw.2.1
  have hBv : I B 0 = nI nv := hw.2.2.1
  have hBr : I B 1 = nI nr := hw.2.2.2.1
  have hin1 : vp_in (nI nv) (ln (B + 1)) := by rw [(pr_o hB).2.2.2.2.2.2.2.1]; exact vp_in_nI h6 (by omega)
  have hi2n : vp_in (nI nv) (ln (B + 2)) := by rw [(pr_o hB).2.2.2.2.2.2.2.2.1]; exact vp_in_nI h6 (by omega)
  refine lv_aload_n hx hb dX1_addVariable_0 rfl (lv_at hl 0 rfl) ?_
  refine vcVv (As := []) (rest := []) ⟨hx, hb, hml, hown, hts⟩ (c_X1_change l D K ad hap0 B hB I G A L) (cwV 0 hts gX1_addVariable_X1_change rfl rfl rfl (by decide +kernel) ⟨Nat.le_of_ble_eq_true rfl, Nat.le_of_ble_eq_true rfl⟩) hK hP hS (by have := (pr_o hB).1; omega) (pr_o hB).2.1 (by decide) rfl rfl rfl hl.1 (Nat.le_of_ble_eq_true rfl) (Nat.le_of_ble_eq_true rfl) (Nat.le_of_ble_eq_true rfl) dX1_addVariable_1 (fun u2 H locs hw hP hS => ?_) rfl
  obtain ⟨I3, G4, A5, L6⟩ := u2
  have hP : va_P D vwCl (VW K ad I3 G4 A5 L6) H := hP
  injection hw with h1 h2
  injection h2 with h2 h3
  injection h3 with h3 h4
  rw [h2, h3, h4] at hP
  have eI3 : I3 = up2 (up2 I B 2 (I B 2 + 1)) B 3 0 := h1
  have hP : va_P D vwCl (VW K ad I3 G A L) H := hP
  have hBv9 : I3 B 0 = nI nv := by rw [eI3, up2_k (by decide), up2_k (by decide)]; exact hBv
  have hBr9 : I3 B 1 = nI nr := by rw [eI3, up2_k (by decide), up2_k (by decide)]; exact hBr
  refine lv_aload_n hx hb dX1_addVariable_4 rfl (lv_at hl 0 rfl) ?_
  refine vgS hx hb hts hi1 hown hK hP (B) (by have := (pr_o hB).1; omega) (pr_o hB).2.1 (C := RX1) (T := TX1) (N := 9) rfl 4 (by decide) (by decide) (by decide) (by decide) (B + 1) rfl (hts (.fieldLink RX1 25 "CrateHelpers$Problem" "sizes" "[I") (by decide +kernel)) (fun _ h9 => h9) dX1_addVariable_5 ?_
  refine lv_aload_n hx hb dX1_addVariable_8 rfl (lv_at hl 0 rfl) ?_
  refine vgI hx hb hts hi1 hown hK hP (B) (by have := (pr_o hB).1; omega) (pr_o hB).2.1 (C := RX1) (T := TX1) (N := 9) rfl 0 (by decide) (by decide) (by decide) (by decide) (hts (.fieldLink RX1 9 "CrateHelpers$Problem" "variables" "I") (by decide +kernel)) (fun _ h9 => h9) dX1_addVariable_9 ?_
  rw [hBv9]
  refine lv_iload_n hx hb dX1_addVariable_12 rfl (lv_at hl 1 rfl) ?_
  refine xiast hx hb hK hP hap hS (B + 1) (by have := (pr_o hB).1; omega) (pr_o hB).2.2.1 hin1 dX1_addVariable_13 (fun H locs hP hS => ?_)
  rw [nI_clamp (n := nv) (by omega)] at hP
  obtain ⟨A7, eA7⟩ : ∃ z, z = up2 A (B + 1) nv n := ⟨_, rfl⟩
  rw [← eA7] at hP
  have hP : va_P D vwCl (VW K ad I3 G A7 L) H := hP
  refine lv_aload_n hx hb dX1_addVariable_14 rfl (lv_at hl 0 rfl) ?_
  refine vgS hx hb hts hi1 hown hK hP (B) (by have := (pr_o hB).1; omega) (pr_o hB).2.1 (C := RX1) (T := TX1) (N := 9) rfl 5 (by decide) (by decide) (by decide) (by decide) (B + 2) rfl (hts (.fieldLink RX1 29 "CrateHelpers$Problem" "kinds" "[I") (by decide +kernel)) (fun _ h9 => h9) dX1_addVariable_15 ?_
  refine lv_aload_n hx hb dX1_addVariable_18 rfl (lv_at hl 0 rfl) ?_
  refine vgI hx hb hts hi1 hown hK hP (B) (by have := (pr_o hB).1; omega) (pr_o hB).2.1 (C := RX1) (T := TX1) (N := 9) rfl 0 (by decide) (by decide) (by decide) (by decide) (hts (.fieldLink RX1 9 "CrateHelpers$Problem" "variables" "I") (by decide +kernel)) (fun _ h9 => h9) dX1_addVariable_19 ?_
  rw [hBv9]
  refine lv_iload_n hx hb dX1_addVariable_22 rfl (lv_at hl 2 rfl) ?_
  refine xiast hx hb hK hP hap hS (B + 2) (by have := (pr_o hB).1; omega) (pr_o hB).2.2.2.1 hi2n dX1_addVariable_23 (fun H locs hP hS => ?_)
  rw [nI_clamp (n := nv) (by omega)] at hP
  obtain ⟨A8, eA8⟩ : ∃ z, z = up2 A7 (B + 2) nv k := ⟨_, rfl⟩
  rw [← eA8] at hP
  have hP : va_P D vwCl (VW K ad I3 G A8 L) H := hP
  refine lv_aload_n hx hb dX1_addVariable_24 rfl (lv_at hl 0 rfl) ?_
  refine lv_dup hx hb dX1_addVariable_25 rfl ?_
  refine vgI hx hb hts hi1 hown hK hP (B) (by have := (pr_o hB).1; omega) (pr_o hB).2.1 (C := RX1) (T := TX1) (N := 9) rfl 0 (by decide) (by decide) (by decide) (by decide) (hts (.fieldLink RX1 9 "CrateHelpers$Problem" "variables" "I") (by decide +kernel)) (fun _ h9 => h9) dX1_addVariable_26 ?_
  rw [hBv9]
  refine lv_dup_x1 hx hb dX1_addVariable_29 rfl rfl ?_
  refine lv_iconst (v := 1) hx hb dX1_addVariable_30 (by decide) ?_
  refine lv_iadd hx hb dX1_addVariable_31 ?_
  refine vpI (v := ((nI nv) + 1)) (ty := .int) hx hb hts hi1 tyX1 tyX1_ok nmX1 hown hK hP hap hS (B) (by have := (pr_o hB).1; omega) (pr_o hB).2.1 (C := RX1) (T := TX1) (N := 9) rfl 0 (by decide) (by decide) (by decide) (by decide) (hts (.fieldLink RX1 9 "CrateHelpers$Problem" "variables" "I") (by decide +kernel)) (fun _ h9 => h9) rfl (by decide +kernel) rfl rfl dX1_addVariable_32 (fun H locs hP hS => ?_)
  obtain ⟨I9, eI9⟩ : ∃ z, z = up2 I3 B 0 ((nI nv) + 1) := ⟨_, rfl⟩
  rw [← eI9] at hP
  have hP : va_P D vwCl (VW K ad I9 G A8 L) H := hP
  exact W.iret (v := (nI nv)) hx hb hr (fun t ht hW => ⟨⟨(nI nv), (I9, G, A8, L), rfl, ⟨rfl, by rw [eI9, eA8, eA7, eI3]⟩, by rw [ht]; exact hP, va_K.moved hW.alike hK⟩, hS.F ht⟩) hS.2.2 dX1_addVariable_35

theorem sw_ne2 {x : Int32} (h : x.toInt < 0 ∨ 2 < x.toInt) : ¬ x = 0 ∧ ¬ x = 1 ∧ ¬ x = 2 := by
  refine ⟨?_, ?_, ?_⟩ <;> (rintro rfl; revert h; decide)

set_option maxHeartbeats 4000000 in
set_option maxRecDepth 100000 in
theorem c_X1_setCost (l : Launch) (D : va_G) (K : Nat → ClassId) (ad : Nat → Nat) (hap0 : apart ad (fun _ => True)) (B nv nr : Nat) (hB : PrAt B) (x y : Nat) (w : Int32) (hx6 : x < 6) (hy6 : y < 6) (I : Nat → Nat → Int32) (G : Nat → Nat → Nat) (A : Nat → Nat → Int32) (L : Nat → Nat → Int64) (hw : PrW I A B nv nr) : Ci l D K ad yX1_setCost wsX1_setCost 1 40 [.ref (ad B), .int (nI x), .int (nI y), .int w] (I, G, A, L) (fun (r : Int32) (u : Mem) => r = (if A (B + 2) x = 0 then w.toInt8.toInt32 else if A (B + 2) x = 1 then w.toInt16.toInt32 else if A (B + 2) x = 2 then (w.toUInt32 % 65536).toInt32 else w) ∧ u = (up2 (up2 I B 2 (I B 2 + 1)) B 3 0, G, up2 A (B + 4 + x) y (if A (B + 2) x = 0 then w.toInt8.toInt32 else if A (B + 2) x = 1 then w.toInt16.toInt32 else if A (B + 2) x = 2 then (w.toUInt32 % 65536).toInt32 else w), L)) := by
  intro sz
  refine Met.ofW (cc := cX1_setCost) (maxL := 5) (ret := (some .int)) (by decide) rfl ?_
  intro p e s m args below meth c s₁ Bd hml hv0
  obtain ⟨rfl, hsz, hP, hK⟩ := hv0
  have hx := Bd.exec
  have hb := Bd.bytes
  have hr := Bd.returns
  have hts := atoms_spec (ws := wsX1_setCost) Bd.pre
  have hown : s.vm.findClass RX1 = some m.cls := findClass_of_methodNamed Bd.named
  have hlocks := Bd.notSynchronized
  have hi1 : ∀ w ∈ u_ws RX1 TX1 9, w ∈ wsX1_setCost := fun w h => List.mem_cons_of_mem _ (List.mem_append_right _ h)
  subst hsz
  have hap := vF_ap hap0 s.heap.size
  have hS : va_S (vF ad s.heap.size) s.heap s.heap [] := va_S.rf
  have hP : va_P D vwCl (VW K ad I G A L) s.heap := hP
  have hl := lv_entry ([.ref (ad B), .int (nI x), .int (nI y), .int w]) (n := 5) (Nat.le_of_ble_eq_true rfl)
  rw [lg_entry_eq]
  generalize (lg_sl ([.ref (ad B), .int (nI x), .int (nI y), .int w]) ++ List.replicate (5 - (lg_sl ([.ref (ad B), .int (nI x), .int (nI y), .int w])).length) Slot.unset).toArray = ls at hl ⊢
  have hl : lv_has ls 5 [(0, .ref (ad B)), (1, .int (nI x)), (2, .int (nI y)), (3, .int w)] := hl
  have hnv : nv ≤ 6 := hw.1
  have hnr : nr ≤ 8 := hw.2.1
  have hBv : I B 0 = nI nv := hw.2.2.1
  have hBr : I B 1 = nI nr := hw.2.2.2.1
  have hin2 : vp_in (nI x) (ln (B + 2)) := by rw [(pr_o hB).2.2.2.2.2.2.2.2.1]; exact vp_in_nI hx6 (by omega)
  have hin3 : vp_in (nI x) (ln (B + 3)) := by rw [(pr_o hB).2.2.2.2.2.2.2.2.2.1]; exact vp_in_nI hx6 (by omega)
  have hin4 : vp_in (nI y) (ln (B + 4 + x)) := by rw [(pr_row hB hx6).2]; exact vp_in_nI hy6 (by omega)
  refine lv_aload_n hx hb dX1_setCost_0 rfl (lv_at hl 0 rfl) ?_
  refine vcVv (As := []) (rest := []) ⟨hx, hb, hml, hown, hts⟩ (c_X1_change l D K ad hap0 B hB I G A L) (cwV 0 hts gX1_setCost_X1_change rfl rfl rfl (by decide +kernel) ⟨Nat.le_of_ble_eq_true rfl, Nat.le_of_ble_eq_true rfl⟩) hK hP hS (by have := (pr_o hB).1; omega) (pr_o hB).2.1 (by decide) rfl rfl rfl hl.1 (Nat.le_of_ble_eq_true rfl) (Nat.le_of_ble_eq_true rfl) (Nat.le_of_ble_eq_true rfl) dX1_setCost_1 (fun u2 H locs hw hP hS => ?_) rfl
  obtain ⟨I3, G4, A5, L6⟩ := u2
  have hP : va_P D vwCl (VW K ad I3 G4 A5 L6) H := hP
  injection hw with h1 h2
  injection h2 with h2 h3
  injection h3 with h3 h4
  rw [h2, h3, h4] at hP
  have eI3 : I3 = up2 (up2 I B 2 (I B 2 + 1)) B 3 0 := h1
  have hP : va_P D vwCl (VW K ad I3 G A L) H := hP
  have hBv9 : I3 B 0 = nI nv := by rw [eI3, up2_k (by decide), up2_k (by decide)]; exact hBv
  have hBr9 : I3 B 1 = nI nr := by rw [eI3, up2_k (by decide), up2_k (by decide)]; exact hBr
  refine lv_iload_n hx hb dX1_setCost_4 rfl (lv_at hl 3 rfl) ?_
  refine lv_istore (lv' := [(4, .int w), (0, .ref (ad B)), (1, .int (nI x)), (2, .int (nI y)), (3, .int w)]) hx hb dX1_setCost_5 hl (by decide) rfl (fun ls hl => ?_)
  refine lv_aload_n hx hb dX1_setCost_7 rfl (lv_at hl 1 rfl) ?_
  refine vgS hx hb hts hi1 hown hK hP (B) (by have := (pr_o hB).1; omega) (pr_o hB).2.1 (C := RX1) (T := TX1) (N := 9) rfl 5 (by decide) (by decide) (by decide) (by decide) (B + 2) rfl (hts (.fieldLink RX1 29 "CrateHelpers$Problem" "kinds" "[I") (by decide +kernel)) (fun _ h9 => h9) dX1_setCost_8 ?_
  refine lv_iload_n hx hb dX1_setCost_11 rfl (lv_at hl 2 rfl) ?_
  refine xiald hx hb hK hP (B + 2) (by have := (pr_o hB).1; omega) (pr_o hB).2.2.2.1 hin2 dX1_setCost_12 ?_
  rw [nI_clamp (n := x) (by omega)]
  rcases sw_2 (A (B + 2) x) with hs7 | hs7 | hs7 | hs7
  · rw [hs7]
    refine lv_tableIn (off := 27) (tgt := 40) hx hb dX1_setCost_13 (by decide) (by decide) (by decide) (by decide) ?_
    refine lv_iload_n hx hb dX1_setCost_40 rfl (lv_at hl 4 rfl) ?_
    refine lv_i2b hx hb dX1_setCost_41 rfl ?_
    refine lv_istore (lv' := [(4, .int w.toInt8.toInt32), (0, .ref (ad B)), (1, .int (nI x)), (2, .int (nI y)), (3, .int w)]) hx hb dX1_setCost_42 hl (by decide) rfl (fun ls hl => ?_)
    refine lv_goto (tgt := 61) hx hb dX1_setCost_44 (by decide) ?_
    refine lv_aload_n hx hb dX1_setCost_61 rfl (lv_at hl 1 rfl) ?_
    refine vgS hx hb hts hi1 hown hK hP (B) (by have := (pr_o hB).1; omega) (pr_o hB).2.1 (C := RX1) (T := TX1) (N := 9) rfl 6 (by decide) (by decide) (by decide) (by decide) (B + 3) rfl (hts (.fieldLink RX1 34 "CrateHelpers$Problem" "prices" "[[I") (by decide +kernel)) (fun _ h9 => h9) dX1_setCost_62 ?_
    refine lv_iload_n hx hb dX1_setCost_65 rfl (lv_at hl 2 rfl) ?_
    refine xgald hx hb hK hP (B + 3) (by have := (pr_o hB).1; omega) (pr_o hB).2.2.2.2.1 hin3 (B + 4 + x) (by rw [rf15 (pr_o hB).2.2.2.2.1]; rw [nI_clamp (by omega)]) dX1_setCost_66 ?_
    refine lv_iload_n hx hb dX1_setCost_67 rfl (lv_at hl 3 rfl) ?_
    refine lv_iload hx hb dX1_setCost_68 (lv_at hl 0 rfl) ?_
    refine xiast hx hb hK hP hap hS (B + 4 + x) (by have := (pr_o hB).1; omega) (pr_row hB hx6).1 hin4 dX1_setCost_70 (fun H locs hP hS => ?_)
    rw [nI_clamp (n := y) (by omega)] at hP
    obtain ⟨A8, eA8⟩ : ∃ z, z = up2 A (B + 4 + x) y w.toInt8.toInt32 := ⟨_, rfl⟩
    rw [← eA8] at hP
    have hP : va_P D vwCl (VW K ad I3 G A8 L) H := hP
    refine lv_iload hx hb dX1_setCost_71 (lv_at hl 0 rfl) ?_
    exact W.iret (v := w.toInt8.toInt32) hx hb hr (fun t ht hW => ⟨⟨w.toInt8.toInt32, (I3, G, A8, L), rfl, ⟨by simp [hs7], by rw [eA8, eI3]; simp [hs7]⟩, by rw [ht]; exact hP, va_K.moved hW.alike hK⟩, hS.F ht⟩) hS.2.2 dX1_setCost_73
  · rw [hs7]
    refine lv_tableIn (off := 34) (tgt := 47) hx hb dX1_setCost_13 (by decide) (by decide) (by decide) (by decide) ?_
    refine lv_iload_n hx hb dX1_setCost_47 rfl (lv_at hl 4 rfl) ?_
    refine lv_i2s hx hb dX1_setCost_48 rfl ?_
    refine lv_istore (lv' := [(4, .int w.toInt16.toInt32), (0, .ref (ad B)), (1, .int (nI x)), (2, .int (nI y)), (3, .int w)]) hx hb dX1_setCost_49 hl (by decide) rfl (fun ls hl => ?_)
    refine lv_goto (tgt := 61) hx hb dX1_setCost_51 (by decide) ?_
    refine lv_aload_n hx hb dX1_setCost_61 rfl (lv_at hl 1 rfl) ?_
    refine vgS hx hb hts hi1 hown hK hP (B) (by have := (pr_o hB).1; omega) (pr_o hB).2.1 (C := RX1) (T := TX1) (N := 9) rfl 6 (by decide) (by decide) (by decide) (by decide) (B + 3) rfl (hts (.fieldLink RX1 34 "CrateHelpers$Problem" "prices" "[[I") (by decide +kernel)) (fun _ h9 => h9) dX1_setCost_62 ?_
    refine lv_iload_n hx hb dX1_setCost_65 rfl (lv_at hl 2 rfl) ?_
    refine xgald hx hb hK hP (B + 3) (by have := (pr_o hB).1; omega) (pr_o hB).2.2.2.2.1 hin3 (B + 4 + x) (by rw [rf15 (pr_o hB).2.2.2.2.1]; rw [nI_clamp (by omega)]) dX1_setCost_66 ?_
    refine lv_iload_n hx hb dX1_setCost_67 rfl (lv_at hl 3 rfl) ?_
    refine lv_iload hx hb dX1_setCost_68 (lv_at hl 0 rfl) ?_
    refine xiast hx hb hK hP hap hS (B + 4 + x) (by have := (pr_o hB).1; omega) (pr_row hB hx6).1 hin4 dX1_setCost_70 (fun H locs hP hS => ?_)
    rw [nI_clamp (n := y) (by omega)] at hP
    obtain ⟨A9, eA9⟩ : ∃ z, z = up2 A (B + 4 + x) y w.toInt16.toInt32 := ⟨_, rfl⟩
    rw [← eA9] at hP
    have hP : va_P D vwCl (VW K ad I3 G A9 L) H := hP
    refine lv_iload hx hb dX1_setCost_71 (lv_at hl 0 rfl) ?_
    exact W.iret (v := w.toInt16.toInt32) hx hb hr (fun t ht hW => ⟨⟨w.toInt16.toInt32, (I3, G, A9, L), rfl, ⟨by simp [hs7], by rw [eA9, eI3]; simp [hs7]⟩, by rw [ht]; exact hP, va_K.moved hW.alike hK⟩, hS.F ht⟩) hS.2.2 dX1_setCost_73
  · rw [hs7]
    refine lv_tableIn (off := 41) (tgt := 54) hx hb dX1_setCost_13 (by decide) (by decide) (by decide) (by decide) ?_
    refine lv_iload_n hx hb dX1_setCost_54 rfl (lv_at hl 4 rfl) ?_
    refine lv_i2c hx hb dX1_setCost_55 rfl ?_
    refine lv_istore (lv' := [(4, .int ((w.toUInt32 % 65536).toInt32)), (0, .ref (ad B)), (1, .int (nI x)), (2, .int (nI y)), (3, .int w)]) hx hb dX1_setCost_56 hl (by decide) rfl (fun ls hl => ?_)
    refine lv_goto (tgt := 61) hx hb dX1_setCost_58 (by decide) ?_
    refine lv_aload_n hx hb dX1_setCost_61 rfl (lv_at hl 1 rfl) ?_
    refine vgS hx hb hts hi1 hown hK hP (B) (by have := (pr_o hB).1; omega) (pr_o hB).2.1 (C := RX1) (T := TX1) (N := 9) rfl 6 (by decide) (by decide) (by decide) (by decide) (B + 3) rfl (hts (.fieldLink RX1 34 "CrateHelpers$Problem" "prices" "[[I") (by decide +kernel)) (fun _ h9 => h9) dX1_setCost_62 ?_
    refine lv_iload_n hx hb dX1_setCost_65 rfl (lv_at hl 2 rfl) ?_
    refine xgald hx hb hK hP (B + 3) (by have := (pr_o hB).1; omega) (pr_o hB).2.2.2.2.1 hin3 (B + 4 + x) (by rw [rf15 (pr_o hB).2.2.2.2.1]; rw [nI_clamp (by omega)]) dX1_setCost_66 ?_
    refine lv_iload_n hx hb dX1_setCost_67 rfl (lv_at hl 3 rfl) ?_
    refine lv_iload hx hb dX1_setCost_68 (lv_at hl 0 rfl) ?_
    refine xiast hx hb hK hP hap hS (B + 4 + x) (by have := (pr_o hB).1; omega) (pr_row hB hx6).1 hin4 dX1_setCost_70 (fun H locs hP hS => ?_)
    rw [nI_clamp (n := y) (by omega)] at hP
    obtain ⟨A10, eA10⟩ : ∃ z, z = up2 A (B + 4 + x) y (((w.toUInt32 % 65536).toInt32)) := ⟨_, rfl⟩
    rw [← eA10] at hP
    have hP : va_P D vwCl (VW K ad I3 G A10 L) H := hP
    refine lv_iload hx hb dX1_setCost_71 (lv_at hl 0 rfl) ?_
    exact W.iret (v := ((w.toUInt32 % 65536).toInt32)) hx hb hr (fun t ht hW => ⟨⟨((w.toUInt32 % 65536).toInt32), (I3, G, A10, L), rfl, ⟨by simp [hs7], by rw [eA10, eI3]; simp [hs7]⟩, by rw [ht]; exact hP, va_K.moved hW.alike hK⟩, hS.F ht⟩) hS.2.2 dX1_setCost_73
  · refine lv_tableOut (tgt := 61) hx hb dX1_setCost_13 hs7 (by decide) ?_
    refine lv_aload_n hx hb dX1_setCost_61 rfl (lv_at hl 1 rfl) ?_
    refine vgS hx hb hts hi1 hown hK hP (B) (by have := (pr_o hB).1; omega) (pr_o hB).2.1 (C := RX1) (T := TX1) (N := 9) rfl 6 (by decide) (by decide) (by decide) (by decide) (B + 3) rfl (hts (.fieldLink RX1 34 "CrateHelpers$Problem" "prices" "[[I") (by decide +kernel)) (fun _ h9 => h9) dX1_setCost_62 ?_
    refine lv_iload_n hx hb dX1_setCost_65 rfl (lv_at hl 2 rfl) ?_
    refine xgald hx hb hK hP (B + 3) (by have := (pr_o hB).1; omega) (pr_o hB).2.2.2.2.1 hin3 (B + 4 + x) (by rw [rf15 (pr_o hB).2.2.2.2.1]; rw [nI_clamp (by omega)]) dX1_setCost_66 ?_
    refine lv_iload_n hx hb dX1_setCost_67 rfl (lv_at hl 3 rfl) ?_
    refine lv_iload hx hb dX1_setCost_68 (lv_at hl 0 rfl) ?_
    refine xiast hx hb hK hP hap hS (B + 4 + x) (by have := (pr_o hB).1; omega) (pr_row hB hx6).1 hin4 dX1_setCost_70 (fun H locs hP hS => ?_)
    rw [nI_clamp (n := y) (by omega)] at hP
    obtain ⟨A11, eA11⟩ : ∃ z, z = up2 A (B + 4 + x) y w := ⟨_, rfl⟩
    rw [← eA11] at hP
    have hP : va_P D vwCl (VW K ad I3 G A11 L) H := hP
    refine lv_iload hx hb dX1_setCost_71 (lv_at hl 0 rfl) ?_
    exact W.iret (v := w) hx hb hr (fun t ht hW => ⟨⟨w, (I3, G, A11, L), rfl, ⟨by simp [sw_ne2 hs7], by rw [eA11, eI3]; simp [sw_ne2 hs7]⟩, by rw [ht]; exact hP, va_K.moved hW.alike hK⟩, hS.F ht⟩) hS.2.2 dX1_setCost_73

set_option maxHeartbeats 4000000 in
set_option maxRecDepth 100000 in
theorem c_X1_addRule (l : Launch) (D : va_G) (K : Nat → ClassId) (ad : Nat → Nat) (hap0 : apart ad (fun _ => True)) (B nv nr : Nat) (hB : PrAt B) (k w : Int32) (h8 : nr < 8) (I : Nat → Nat → Int32) (G : Nat → Nat → Nat) (A : Nat → Nat → Int32) (L : Nat → Nat → Int64) (hw : PrW I A B nv nr) : Ci l D K ad yX1_addRule wsX1_addRule 1 40 [.ref (ad B), .int k, .int w] (I, G, A, L) (fun (r : Int32) (u : Mem) => r = nI nr ∧ u = (up2 (up2 (up2 (up2 (up2 I B 2 (I B 2 + 1)) B 3 0) (B + 12 + 5 * nr) 0 k) (B + 12 + 5 * nr) 1 w) B 1 (nI nr + 1), G, A, L)) := by
  intro sz
  refine Met.ofW (cc := cX1_addRule) (maxL := 3) (ret := (some .int)) (by decide) rfl ?_
  intro p e s m args below meth c s₁ Bd hml hv0
  obtain ⟨rfl, hsz, hP, hK⟩ := hv0
  have hx := Bd.exec
  have hb := Bd.bytes
  have hr := Bd.returns
  have hts := atoms_spec (ws := wsX1_addRule) Bd.pre
  have hown : s.vm.findClass RX1 = some m.cls := findClass_of_methodNamed Bd.named
  have hlocks := Bd.notSynchronized
  have hi1 : ∀ w ∈ u_ws RX1 TX1 9, w ∈ wsX1_addRule := fun w h => List.mem_cons_of_mem _ (List.mem_append_left _ (List.mem_append_right _ h))
  have hi2 : ∀ w ∈ u_ws RX2 TX2 7, w ∈ wsX1_addRule := fun w h => List.mem_cons_of_mem _ (List.mem_append_right _ h)
  subst hsz
  have hap := vF_ap hap0 s.heap.size
  have hS : va_S (vF ad s.heap.size) s.heap s.heap [] := va_S.rf
  have hP : va_P D vwCl (VW K ad I G A L) s.heap := hP
  have hl := lv_entry ([.ref (ad B), .int k, .int w]) (n := 3) (Nat.le_of_ble_eq_true rfl)
  rw [lg_entry_eq]
  generalize (lg_sl ([.ref (ad B), .int k, .int w]) ++ List.replicate (3 - (lg_sl ([.ref (ad B), .int k, .int w])).length) Slot.unset).toArray = ls at hl ⊢
  have hl : lv_has ls 3 [(0, .ref (ad B)), (1, .int k), (2, .int w)] := hl
  have hnv : nv ≤ 6 := hw.1
  have hnr : nr ≤ 8 := hw.2.1
  have hBv : I B 0 = nI nv := hw.2.2.1
  have hBr : I B 1 = nI nr := hw.2.2.2.1
  have hin : vp_in (nI nr) (ln (B + 10)) := by rw [(pr_o hB).2.2.2.2.2.2.2.2.2.2.1]; exact vp_in_nI h8 (by omega)
  refine lv_aload_n hx hb dX1_addRule_0 rfl (lv_at hl 0 rfl) ?_
  refine vcVv (As := []) (rest := []) ⟨hx, hb, hml, hown, hts⟩ (c_X1_change l D K ad hap0 B hB I G A L) (cwV 0 hts gX1_addRule_X1_change rfl rfl rfl (by decide +kernel) ⟨Nat.le_of_ble_eq_true rfl, Nat.le_of_ble_eq_true rfl⟩) hK hP hS (by have := (pr_o hB).1; omega) (pr_o hB).2.1 (by decide) rfl rfl rfl hl.1 (Nat.le_of_ble_eq_true rfl) (Nat.le_of_ble_eq_true rfl) (Nat.le_of_ble_eq_true rfl) dX1_addRule_1 (fun u2 H locs hw hP hS => ?_) rfl
  obtain ⟨I3, G4, A5, L6⟩ := u2
  have hP : va_P D vwCl (VW K ad I3 G4 A5 L6) H := hP
  injection hw with h1 h2
  injection h2 with h2 h3
  injection h3 with h3 h4
  rw [h2, h3, h4] at hP
  have eI3 : I3 = up2 (up2 I B 2 (I B 2 + 1)) B 3 0 := h1
  have hP : va_P D vwCl (VW K ad I3 G A L) H := hP
  refine lv_aload_n hx hb dX1_addRule_4 rfl (lv_at hl 0 rfl) ?_
  refine vgS hx hb hts hi1 hown hK hP (B) (by have := (pr_o hB).1; omega) (pr_o hB).2.1 (C := RX1) (T := TX1) (N := 9) rfl 7 (by decide) (by decide) (by decide) (by decide) (B + 10) rfl (hts (.fieldLink RX1 39 "CrateHelpers$Problem" "rules" "[LCrateHelpers$Rule;") (by decide +kernel)) (fun _ h9 => h9) dX1_addRule_5 ?_
  refine lv_aload_n hx hb dX1_addRule_8 rfl (lv_at hl 0 rfl) ?_
  refine vgI hx hb hts hi1 hown hK hP (B) (by have := (pr_o hB).1; omega) (pr_o hB).2.1 (C := RX1) (T := TX1) (N := 9) rfl 1 (by decide) (by decide) (by decide) (by decide) (hts (.fieldLink RX1 15 "CrateHelpers$Problem" "ruleCount" "I") (by decide +kernel)) (fun _ h9 => h9) dX1_addRule_9 ?_
  rw [show I3 B 1 = nI nr from by { rw [eI3]; simp only [up2]; rw [if_neg (by omega), if_neg (by omega)]; exact hBr }]
  refine xaald hx hb hK hP (B + 10) (by have := (pr_o hB).1; omega) 6 14 (pr_o hB).2.2.2.2.2.1 (by decide) rfl hin (B + 12 + 5 * nr) (by rw [rf14 (pr_o hB).2.2.2.2.2.1]; rw [nI_clamp (by omega)]) dX1_addRule_12 ?_
  refine lv_iload_n hx hb dX1_addRule_13 rfl (lv_at hl 1 rfl) ?_
  refine vpI (v := k) (ty := .int) hx hb hts hi2 tyX2 tyX2_ok nmX2 hown hK hP hap hS (B + 12 + 5 * nr) (by have := (pr_ru (r := nr) hB h8).1; omega) (pr_ru (r := nr) hB h8).2.1 (C := RX2) (T := TX2) (N := 7) rfl 0 (by decide) (by decide) (by decide) (by decide) (hts (.fieldLink RX1 54 "CrateHelpers$Rule" "kind" "I") (by decide +kernel)) (fun _ h9 => h9) rfl (by decide +kernel) rfl rfl dX1_addRule_14 (fun H locs hP hS => ?_)
  obtain ⟨I7, eI7⟩ : ∃ z, z = up2 I3 (B + 12 + 5 * nr) 0 k := ⟨_, rfl⟩
  rw [← eI7] at hP
  have hP : va_P D vwCl (VW K ad I7 G A L) H := hP
  refine lv_aload_n hx hb dX1_addRule_17 rfl (lv_at hl 0 rfl) ?_
  refine vgS hx hb hts hi1 hown hK hP (B) (by have := (pr_o hB).1; omega) (pr_o hB).2.1 (C := RX1) (T := TX1) (N := 9) rfl 7 (by decide) (by decide) (by decide) (by decide) (B + 10) rfl (hts (.fieldLink RX1 39 "CrateHelpers$Problem" "rules" "[LCrateHelpers$Rule;") (by decide +kernel)) (fun _ h9 => h9) dX1_addRule_18 ?_
  refine lv_aload_n hx hb dX1_addRule_21 rfl (lv_at hl 0 rfl) ?_
  refine vgI hx hb hts hi1 hown hK hP (B) (by have := (pr_o hB).1; omega) (pr_o hB).2.1 (C := RX1) (T := TX1) (N := 9) rfl 1 (by decide) (by decide) (by decide) (by decide) (hts (.fieldLink RX1 15 "CrateHelpers$Problem" "ruleCount" "I") (by decide +kernel)) (fun _ h9 => h9) dX1_addRule_22 ?_
  rw [show I7 B 1 = nI nr from by { rw [eI7, eI3]; simp only [up2]; rw [if_neg (by omega), if_neg (by omega), if_neg (by omega)]; exact hBr }]
  refine xaald hx hb hK hP (B + 10) (by have := (pr_o hB).1; omega) 6 14 (pr_o hB).2.2.2.2.2.1 (by decide) rfl hin (B + 12 + 5 * nr) (by rw [rf14 (pr_o hB).2.2.2.2.2.1]; rw [nI_clamp (by omega)]) dX1_addRule_25 ?_
  refine lv_iload_n hx hb dX1_addRule_26 rfl (lv_at hl 2 rfl) ?_
  refine vpI (v := w) (ty := .int) hx hb hts hi2 tyX2 tyX2_ok nmX2 hown hK hP hap hS (B + 12 + 5 * nr) (by have := (pr_ru (r := nr) hB h8).1; omega) (pr_ru (r := nr) hB h8).2.1 (C := RX2) (T := TX2) (N := 7) rfl 1 (by decide) (by decide) (by decide) (by decide) (hts (.fieldLink RX1 57 "CrateHelpers$Rule" "c" "I") (by decide +kernel)) (fun _ h9 => h9) rfl (by decide +kernel) rfl rfl dX1_addRule_27 (fun H locs hP hS => ?_)
  obtain ⟨I8, eI8⟩ : ∃ z, z = up2 I7 (B + 12 + 5 * nr) 1 w := ⟨_, rfl⟩
  rw [← eI8] at hP
  have hP : va_P D vwCl (VW K ad I8 G A L) H := hP
  refine lv_aload_n hx hb dX1_addRule_30 rfl (lv_at hl 0 rfl) ?_
  refine lv_dup hx hb dX1_addRule_31 rfl ?_
  refine vgI hx hb hts hi1 hown hK hP (B) (by have := (pr_o hB).1; omega) (pr_o hB).2.1 (C := RX1) (T := TX1) (N := 9) rfl 1 (by decide) (by decide) (by decide) (by decide) (hts (.fieldLink RX1 15 "CrateHelpers$Problem" "ruleCount" "I") (by decide +kernel)) (fun _ h9 => h9) dX1_addRule_32 ?_
  rw [show I8 B 1 = nI nr from by { rw [eI8, eI7, eI3]; simp only [up2]; rw [if_neg (by omega), if_neg (by omega), if_neg (by omega), if_neg (by omega)]; exact hBr }]
  refine lv_dup_x1 hx hb dX1_addRule_35 rfl rfl ?_
  refine lv_iconst (v := 1) hx hb dX1_addRule_36 (by decide) ?_
  refine lv_iadd hx hb dX1_addRule_37 ?_
  refine vpI (v := ((nI nr) + 1)) (ty := .int) hx hb hts hi1 tyX1 tyX1_ok nmX1 hown hK hP hap hS (B) (by have := (pr_o hB).1; omega) (pr_o hB).2.1 (C := RX1) (T := TX1) (N := 9) rfl 1 (by decide) (by decide) (by decide) (by decide) (hts (.fieldLink RX1 15 "CrateHelpers$Problem" "ruleCount" "I") (by decide +kernel)) (fun _ h9 => h9) rfl (by decide +kernel) rfl rfl dX1_addRule_38 (fun H locs hP hS => ?_)
  obtain ⟨I9, eI9⟩ : ∃ z, z = up2 I8 B 1 ((nI nr) + 1) := ⟨_, rfl⟩
  rw [← eI9] at hP
  have hP : va_P D vwCl (VW K ad I9 G A L) H := hP
  exact W.iret (v := (nI nr)) hx hb hr (fun t ht hW => ⟨⟨(nI nr), (I9, G, A, L), rfl, ⟨rfl, by rw [eI9, eI8, eI7, eI3]⟩, by rw [ht]; exact hP, va_K.moved hW.alike hK⟩, hS.F ht⟩) hS.2.2 dX1_addRule_41

set_option maxHeartbeats 4000000 in
set_option maxRecDepth 100000 in
theorem c_X1_setNumber (l : Launch) (D : va_G) (K : Nat → ClassId) (ad : Nat → Nat) (hap0 : apart ad (fun _ => True)) (B nv nr : Nat) (hB : PrAt B) (i : Nat) (w : Int32) (h8 : i < 8) (I : Nat → Nat → Int32) (G : Nat → Nat → Nat) (A : Nat → Nat → Int32) (L : Nat → Nat → Int64) (hw : PrW I A B nv nr) : Ci l D K ad yX1_setNumber wsX1_setNumber 1 40 [.ref (ad B), .int (nI i), .int w] (I, G, A, L) (fun (r : Int32) (u : Mem) => r = I (B + 12 + 5 * i) 1 ∧ u = (up2 (up2 (up2 I B 2 (I B 2 + 1)) B 3 0) (B + 12 + 5 * i) 1 w, G, A, L)) := by
  intro sz
  refine Met.ofW (cc := cX1_setNumber) (maxL := 4) (ret := (some .int)) (by decide) rfl ?_
  intro p e s m args below meth c s₁ Bd hml hv0
  obtain ⟨rfl, hsz, hP, hK⟩ := hv0
  have hx := Bd.exec
  have hb := Bd.bytes
  have hr := Bd.returns
  have hts := atoms_spec (ws := wsX1_setNumber) Bd.pre
  have hown : s.vm.findClass RX1 = some m.cls := findClass_of_methodNamed Bd.named
  have hlocks := Bd.notSynchronized
  have hi1 : ∀ w ∈ u_ws RX1 TX1 9, w ∈ wsX1_setNumber := fun w h => List.mem_cons_of_mem _ (List.mem_append_left _ (List.mem_append_right _ h))
  have hi2 : ∀ w ∈ u_ws RX2 TX2 7, w ∈ wsX1_setNumber := fun w h => List.mem_cons_of_mem _ (List.mem_append_right _ h)
  subst hsz
  have hap := vF_ap hap0 s.heap.size
  have hS : va_S (vF ad s.heap.size) s.heap s.heap [] := va_S.rf
  have hP : va_P D vwCl (VW K ad I G A L) s.heap := hP
  have hl := lv_entry ([.ref (ad B), .int (nI i), .int w]) (n := 4) (Nat.le_of_ble_eq_true rfl)
  rw [lg_entry_eq]
  generalize (lg_sl ([.ref (ad B), .int (nI i), .int w]) ++ List.replicate (4 - (lg_sl ([.ref (ad B), .int (nI i), .int w])).length) Slot.unset).toArray = ls at hl ⊢
  have hl : lv_has ls 4 [(0, .ref (ad B)), (1, .int (nI i)), (2, .int w)] := hl
  have hnv : nv ≤ 6 := hw.1
  have hnr : nr ≤ 8 := hw.2.1
  have hBv : I B 0 = nI nv := hw.2.2.1
  have hBr : I B 1 = nI nr := hw.2.2.2.1
  have hin : vp_in (nI i) (ln (B + 10)) := by rw [(pr_o hB).2.2.2.2.2.2.2.2.2.2.1]; exact vp_in_nI h8 (by omega)
  refine lv_aload_n hx hb dX1_setNumber_0 rfl (lv_at hl 0 rfl) ?_
  refine vcVv (As := []) (rest := []) ⟨hx, hb, hml, hown, hts⟩ (c_X1_change l D K ad hap0 B hB I G A L) (cwV 0 hts gX1_setNumber_X1_change rfl rfl rfl (by decide +kernel) ⟨Nat.le_of_ble_eq_true rfl, Nat.le_of_ble_eq_true rfl⟩) hK hP hS (by have := (pr_o hB).1; omega) (pr_o hB).2.1 (by decide) rfl rfl rfl hl.1 (Nat.le_of_ble_eq_true rfl) (Nat.le_of_ble_eq_true rfl) (Nat.le_of_ble_eq_true rfl) dX1_setNumber_1 (fun u2 H locs hw hP hS => ?_) rfl
  obtain ⟨I3, G4, A5, L6⟩ := u2
  have hP : va_P D vwCl (VW K ad I3 G4 A5 L6) H := hP
  injection hw with h1 h2
  injection h2 with h2 h3
  injection h3 with h3 h4
  rw [h2, h3, h4] at hP
  have eI3 : I3 = up2 (up2 I B 2 (I B 2 + 1)) B 3 0 := h1
  have hP : va_P D vwCl (VW K ad I3 G A L) H := hP
  refine lv_aload_n hx hb dX1_setNumber_4 rfl (lv_at hl 0 rfl) ?_
  refine vgS hx hb hts hi1 hown hK hP (B) (by have := (pr_o hB).1; omega) (pr_o hB).2.1 (C := RX1) (T := TX1) (N := 9) rfl 7 (by decide) (by decide) (by decide) (by decide) (B + 10) rfl (hts (.fieldLink RX1 39 "CrateHelpers$Problem" "rules" "[LCrateHelpers$Rule;") (by decide +kernel)) (fun _ h9 => h9) dX1_setNumber_5 ?_
  refine lv_iload_n hx hb dX1_setNumber_8 rfl (lv_at hl 1 rfl) ?_
  refine xaald hx hb hK hP (B + 10) (by have := (pr_o hB).1; omega) 6 14 (pr_o hB).2.2.2.2.2.1 (by decide) rfl hin (B + 12 + 5 * i) (by rw [rf14 (pr_o hB).2.2.2.2.2.1]; rw [nI_clamp (by omega)]) dX1_setNumber_9 ?_
  refine vgI hx hb hts hi2 hown hK hP (B + 12 + 5 * i) (by have := (pr_ru (r := i) hB h8).1; omega) (pr_ru (r := i) hB h8).2.1 (C := RX2) (T := TX2) (N := 7) rfl 1 (by decide) (by decide) (by decide) (by decide) (hts (.fieldLink RX1 57 "CrateHelpers$Rule" "c" "I") (by decide +kernel)) (fun _ h9 => h9) dX1_setNumber_10 ?_
  refine lv_istore_n (lv' := [(3, .int (I3 (B + 12 + 5 * i) 1)), (0, .ref (ad B)), (1, .int (nI i)), (2, .int w)]) hx hb dX1_setNumber_13 rfl hl (by decide) rfl (fun ls hl => ?_)
  refine lv_aload_n hx hb dX1_setNumber_14 rfl (lv_at hl 1 rfl) ?_
  refine vgS hx hb hts hi1 hown hK hP (B) (by have := (pr_o hB).1; omega) (pr_o hB).2.1 (C := RX1) (T := TX1) (N := 9) rfl 7 (by decide) (by decide) (by decide) (by decide) (B + 10) rfl (hts (.fieldLink RX1 39 "CrateHelpers$Problem" "rules" "[LCrateHelpers$Rule;") (by decide +kernel)) (fun _ h9 => h9) dX1_setNumber_15 ?_
  refine lv_iload_n hx hb dX1_setNumber_18 rfl (lv_at hl 2 rfl) ?_
  refine xaald hx hb hK hP (B + 10) (by have := (pr_o hB).1; omega) 6 14 (pr_o hB).2.2.2.2.2.1 (by decide) rfl hin (B + 12 + 5 * i) (by rw [rf14 (pr_o hB).2.2.2.2.2.1]; rw [nI_clamp (by omega)]) dX1_setNumber_19 ?_
  refine lv_iload_n hx hb dX1_setNumber_20 rfl (lv_at hl 3 rfl) ?_
  refine vpI (v := w) (ty := .int) hx hb hts hi2 tyX2 tyX2_ok nmX2 hown hK hP hap hS (B + 12 + 5 * i) (by have := (pr_ru (r := i) hB h8).1; omega) (pr_ru (r := i) hB h8).2.1 (C := RX2) (T := TX2) (N := 7) rfl 1 (by decide) (by decide) (by decide) (by decide) (hts (.fieldLink RX1 57 "CrateHelpers$Rule" "c" "I") (by decide +kernel)) (fun _ h9 => h9) rfl (by decide +kernel) rfl rfl dX1_setNumber_21 (fun H locs hP hS => ?_)
  obtain ⟨I7, eI7⟩ : ∃ z, z = up2 I3 (B + 12 + 5 * i) 1 w := ⟨_, rfl⟩
  rw [← eI7] at hP
  have hP : va_P D vwCl (VW K ad I7 G A L) H := hP
  refine lv_iload_n hx hb dX1_setNumber_24 rfl (lv_at hl 0 rfl) ?_
  exact W.iret (v := (I3 (B + 12 + 5 * i) 1)) hx hb hr (fun t ht hW => ⟨⟨(I3 (B + 12 + 5 * i) 1), (I7, G, A, L), rfl, ⟨by rw [eI3]; simp only [up2]; rw [if_neg (by omega), if_neg (by omega)], by rw [eI7, eI3]⟩, by rw [ht]; exact hP, va_K.moved hW.alike hK⟩, hS.F ht⟩) hS.2.2 dX1_setNumber_25
