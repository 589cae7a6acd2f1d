/-- do all hold from i on, within k steps? (1: they do) -/
def all1 (p : Nat → Bool) : Nat → Nat → Int32
  | 0, _ => 1
  | k + 1, i => if p i = true then all1 p k (i + 1) else 0
theorem all1_01 (p : Nat → Bool) : ∀ k i, all1 p k i = 0 ∨ all1 p k i = 1
  | 0, _ => Or.inr rfl
  | k + 1, i => by
    unfold all1
    by_cases h : p i = true
    · rw [if_pos h]; exact all1_01 p k (i + 1)
    · rw [if_neg h]; exact Or.inl rfl
/-- a rule treats two variables alike -/
def tal (I A : Nat → Nat → Int32) (q x y : Nat) : Int32 := if (A (q + 3) x = 0 ∧ A (q + 3) y = 0) ∨ (I q 0 ≠ 6 ∧ A (q + 3) x ≠ 0 ∧ A (q + 3) y ≠ 0 ∧ A (q + 4) x = A (q + 4) y) then 1 else 0
theorem tal_01 (I A : Nat → Nat → Int32) (q x y : Nat) : tal I A q x y = 0 ∨ tal I A q x y = 1 := by unfold tal; split; exact Or.inr rfl; exact Or.inl rfl
def peq (A : Nat → Nat → Int32) (B x y i : Nat) : Bool := decide (A (B + 4 + x) i = A (B + 4 + y) i)
def pta (I A : Nat → Nat → Int32) (B x y i : Nat) : Bool := decide (¬ tal I A (B + 12 + 5 * i) x y = 0)
/-- twins (1: they are); sx: how many values x has -/
def twn (I A : Nat → Nat → Int32) (B nr sx x y : Nat) : Int32 := if A (B + 1) x = A (B + 1) y ∧ all1 (peq A B x y) sx 0 = 1 then all1 (pta I A B x y) nr 0 else 0
theorem fl_z {f r : Int32} {p : Nat → Bool} {i : Nat} (h : (if f = 0 then 0 else all1 p 0 i) = r) (hf : f = 0 ∨ f = 1) : f = r := by rcases hf with rfl | rfl <;> exact h

set_option maxHeartbeats 4000000 in
set_option maxRecDepth 100000 in
theorem c_X1_areTwins (l : Launch) (D : va_G) (K : Nat → ClassId) (ad : Nat → Nat) (hap0 : apart ad (fun _ => True)) (B nv nr : Nat) (hB : PrAt B) (x y sx : Nat) (hxv : x < nv) (hyv : y < nv) (hs6 : sx ≤ 6) (I : Nat → Nat → Int32) (G : Nat → Nat → Nat) (A : Nat → Nat → Int32) (L : Nat → Nat → Int64) (hw : PrW I A B nv nr) (hsx : A (B + 1) x = nI sx) : Ci l D K ad yX1_areTwins wsX1_areTwins 2 80 [.ref (ad B), .int (nI x), .int (nI y)] (I, G, A, L) (fun (r : Int32) (u : Mem) => r = twn I A B nr sx x y ∧ u = (I, G, A, L)) := by
  intro sz
  refine Met.ofW (cc := cX1_areTwins) (maxL := 5) (ret := (some .boolean)) (by decide) rfl ?_
  intro p e s m args below meth c s₁ Bd hml hv0
  obtain ⟨rfl, hsz, hP, hK⟩ := hv0
  have hx := Bd.exec
  have hb := Bd.bytes
  have hr := Bd.returns
  have hts := atoms_spec (ws := wsX1_areTwins) Bd.pre
  have hown : s.vm.findClass RX1 = some m.cls := findClass_of_methodNamed Bd.named
  have hlocks := Bd.notSynchronized
  have hi1 : ∀ w ∈ u_ws RX1 TX1 9, w ∈ wsX1_areTwins := fun w h => List.mem_cons_of_mem _ (List.mem_append_left _ (List.mem_append_right _ h))
  have hi2 : ∀ w ∈ u_ws RX2 TX2 7, w ∈ wsX1_areTwins := fun w h => List.mem_cons_of_mem _ (List.mem_append_right _ h)
  subst hsz
  have hap := vF_ap hap0 s.heap.size
  have hS : va_S (vF ad s.heap.size) s.heap s.heap [] := va_S.rf
  have hP : va_P D vwCl (VW K ad I G A L) s.heap := hP
  have hl := lv_entry ([.ref (ad B), .int (nI x), .int (nI y)]) (n := 5) (Nat.le_of_ble_eq_true rfl)
  rw [lg_entry_eq]
  generalize (lg_sl ([.ref (ad B), .int (nI x), .int (nI y)]) ++ List.replicate (5 - (lg_sl ([.ref (ad B), .int (nI x), .int (nI y)])).length) Slot.unset).toArray = ls at hl ⊢
  have hl : lv_has ls 5 [(0, .ref (ad B)), (1, .int (nI x)), (2, .int (nI y))] := hl
  have hnv : nv ≤ 6 := hw.1
  have hnr : nr ≤ 8 := hw.2.1
  have hBv : I B 0 = nI nv := hw.2.2.1
  have hBr : I B 1 = nI nr := hw.2.2.2.1
  have hx1 : vp_in (nI x) (ln (B + 1)) := by rw [(pr_o hB).2.2.2.2.2.2.2.1]; exact vp_in_nI (by omega) (by omega)
  have hy1 : vp_in (nI y) (ln (B + 1)) := by rw [(pr_o hB).2.2.2.2.2.2.2.1]; exact vp_in_nI (by omega) (by omega)
  have hx3 : vp_in (nI x) (ln (B + 3)) := by rw [(pr_o hB).2.2.2.2.2.2.2.2.2.1]; exact vp_in_nI (by omega) (by omega)
  have hy3 : vp_in (nI y) (ln (B + 3)) := by rw [(pr_o hB).2.2.2.2.2.2.2.2.2.1]; exact vp_in_nI (by omega) (by omega)
  refine lv_aload_n hx hb dX1_areTwins_0 rfl (lv_at hl 0 rfl) ?_
  refine vgS hx hb hts hi1 hown hK hP (B) (by have := (pr_o hB).1; omega) (pr_o hB).2.1 (C := RX1) (T := TX1) (N := 9) rfl 4 (by decide) (by decide) (by decide) (by decide) (B + 1) rfl (hts (.fieldLink RX1 25 "CrateHelpers$Problem" "sizes" "[I") (by decide +kernel)) (fun _ h9 => h9) dX1_areTwins_1 ?_
  refine lv_iload_n hx hb dX1_areTwins_4 rfl (lv_at hl 1 rfl) ?_
  refine xiald hx hb hK hP (B + 1) (by have := (pr_o hB).1; omega) (pr_o hB).2.2.1 hx1 dX1_areTwins_5 ?_
  rw [nI_clamp (n := x) (by omega)]
  refine lv_aload_n hx hb dX1_areTwins_6 rfl (lv_at hl 0 rfl) ?_
  refine vgS hx hb hts hi1 hown hK hP (B) (by have := (pr_o hB).1; omega) (pr_o hB).2.1 (C := RX1) (T := TX1) (N := 9) rfl 4 (by decide) (by decide) (by decide) (by decide) (B + 1) rfl (hts (.fieldLink RX1 25 "CrateHelpers$Problem" "sizes" "[I") (by decide +kernel)) (fun _ h9 => h9) dX1_areTwins_7 ?_
  refine lv_iload_n hx hb dX1_areTwins_10 rfl (lv_at hl 2 rfl) ?_
  refine xiald hx hb hK hP (B + 1) (by have := (pr_o hB).1; omega) (pr_o hB).2.2.1 hy1 dX1_areTwins_11 ?_
  rw [nI_clamp (n := y) (by omega)]
  refine lv_icmp_ne (tgt := 19) hx hb dX1_areTwins_12 (by decide) (fun c_1 => ?_) (fun c_1 => ?_)
  · refine lv_iconst (v := 0) hx hb dX1_areTwins_19 (by decide) ?_
    refine lv_istore_n (lv' := [(3, .int 0), (0, .ref (ad B)), (1, .int (nI x)), (2, .int (nI y))]) hx hb dX1_areTwins_20 rfl hl (by decide) rfl (fun ls hl => ?_)
    refine lv_iconst (v := 0) hx hb dX1_areTwins_21 (by decide) ?_
    refine lv_istore (lv' := [(4, .int 0), (3, .int 0), (0, .ref (ad B)), (1, .int (nI x)), (2, .int (nI y))]) hx hb dX1_areTwins_22 hl (by decide) rfl (fun ls hl => ?_)
    have kx2 : ∀ (f : Int32), f = (if A (B + 1) x = A (B + 1) y then all1 (peq A B x y) sx 0 else 0) ∧ (f = 0 ∨ f = 1) → ∀ (H : Heap) (locs : List Loc), va_P D vwCl (VW K ad I G A L) H → va_S (vF ad s.heap.size) s.heap H locs → ∀ (ls : Array Slot), lv_has ls 5 [(3, .int f), (0, .ref (ad B)), (1, .int (nI x)), (2, .int (nI y))] → W p l e ({ frames := 2, cells := 0, slots := 0, locals := 80 }) s m ([.ref (ad B), .int (nI x), .int (nI y)] : List Value).toArray below meth c H locs 0 0 (MQ below (va_Qi (fun (r : Int32) (u : Mem) => r = twn I A B nr sx x y ∧ u = (I, G, A, L)) (vB D K ad) (vF ad s.heap.size)) ([.ref (ad B), .int (nI x), .int (nI y)] : List Value).toArray s 0 0 (vF ad s.heap.size)) (F0 m 72 ls []) := by
      intro f hinv2 H locs hP hS ls hl
      refine lv_iconst (v := 0) hx hb dX1_areTwins_72 (by decide) ?_
      refine lv_istore (lv' := [(4, .int 0), (3, .int f), (0, .ref (ad B)), (1, .int (nI x)), (2, .int (nI y))]) hx hb dX1_areTwins_73 hl (by decide) rfl (fun ls hl => ?_)
      have kx3 : ∀ (f : Int32), f = twn I A B nr sx x y ∧ (f = 0 ∨ f = 1) → ∀ (H : Heap) (locs : List Loc), va_P D vwCl (VW K ad I G A L) H → va_S (vF ad s.heap.size) s.heap H locs → ∀ (ls : Array Slot), lv_has ls 5 [(3, .int f), (0, .ref (ad B)), (1, .int (nI x)), (2, .int (nI y))] → W p l e ({ frames := 2, cells := 0, slots := 0, locals := 80 }) s m ([.ref (ad B), .int (nI x), .int (nI y)] : List Value).toArray below meth c H locs 0 0 (MQ below (va_Qi (fun (r : Int32) (u : Mem) => r = twn I A B nr sx x y ∧ u = (I, G, A, L)) (vB D K ad) (vF ad s.heap.size)) ([.ref (ad B), .int (nI x), .int (nI y)] : List Value).toArray s 0 0 (vF ad s.heap.size)) (F0 m 107 ls []) := by
        intro f hinv3 H locs hP hS ls hl
        refine lv_iload_n hx hb dX1_areTwins_107 rfl (lv_at hl 0 rfl) ?_
        exact W.zret (v := f) hx hb hr (nar01 hinv3.2) (fun t ht hW => ⟨⟨f, (I, G, A, L), rfl, ⟨hinv3.1, rfl⟩, by rw [ht]; exact hP, va_K.moved hW.alike hK⟩, hS.F ht⟩) hS.2.2 dX1_areTwins_108
      have lp3 : ∀ (k3 i : Nat) (f : Int32), i + k3 = nr → (if f = 0 then 0 else all1 (pta I A B x y) k3 i) = twn I A B nr sx x y ∧ (f = 0 ∨ f = 1) → ∀ (H : Heap) (locs : List Loc), va_P D vwCl (VW K ad I G A L) H → va_S (vF ad s.heap.size) s.heap H locs → ∀ (ls : Array Slot), lv_has ls 5 [(4, .int (nI i)), (3, .int f), (0, .ref (ad B)), (1, .int (nI x)), (2, .int (nI y))] → W p l e ({ frames := 2, cells := 0, slots := 0, locals := 80 }) s m ([.ref (ad B), .int (nI x), .int (nI y)] : List Value).toArray below meth c H locs 0 0 (MQ below (va_Qi (fun (r : Int32) (u : Mem) => r = twn I A B nr sx x y ∧ u = (I, G, A, L)) (vB D K ad) (vF ad s.heap.size)) ([.ref (ad B), .int (nI x), .int (nI y)] : List Value).toArray s 0 0 (vF ad s.heap.size)) (F0 m 75 ls []) := by
        intro k3
        induction k3 with
        | zero =>
          intro i f hk3 hinv3 H locs hP hS ls hl
          obtain rfl : nr = i := by omega
          refine lv_iload hx hb dX1_areTwins_75 (lv_at hl 0 rfl) ?_
          refine lv_aload_n hx hb dX1_areTwins_77 rfl (lv_at hl 2 rfl) ?_
          refine vgI hx hb hts hi1 hown hK hP (B) (by have := (pr_o hB).1; omega) (pr_o hB).2.1 (C := RX1) (T := TX1) (N := 9) rfl 1 (by decide) (by decide) (by decide) (by decide) (hts (.fieldLink RX1 15 "CrateHelpers$Problem" "ruleCount" "I") (by decide +kernel)) (fun _ h9 => h9) dX1_areTwins_78 ?_
          rw [hBr]
          refine lv_icmp_ge (tgt := 107) hx hb dX1_areTwins_81 (by decide) (fun _ => ?_) (fun c_4 => absurd (nI_le (Nat.le_refl _) (by omega)) c_4)
          exact kx3 f (⟨fl_z hinv3.1 hinv3.2, hinv3.2⟩) H locs hP hS ls (lv_sub hl [1, 2, 3, 4] rfl)
        | succ k3 ih3 =>
          intro i f hk3 hinv3 H locs hP hS ls hl
          have hlt3 : i < nr := by omega
          have hin3 : vp_in (nI i) (ln (B + 10)) := by rw [(pr_o hB).2.2.2.2.2.2.2.2.2.2.1]; exact vp_in_nI (by omega) (by omega)
          refine lv_iload hx hb dX1_areTwins_75 (lv_at hl 0 rfl) ?_
          refine lv_aload_n hx hb dX1_areTwins_77 rfl (lv_at hl 2 rfl) ?_
          refine vgI hx hb hts hi1 hown hK hP (B) (by have := (pr_o hB).1; omega) (pr_o hB).2.1 (C := RX1) (T := TX1) (N := 9) rfl 1 (by decide) (by decide) (by decide) (by decide) (hts (.fieldLink RX1 15 "CrateHelpers$Problem" "ruleCount" "I") (by decide +kernel)) (fun _ h9 => h9) dX1_areTwins_78 ?_
          rw [hBr]
          refine lv_icmp_ge (tgt := 107) hx hb dX1_areTwins_81 (by decide) (fun c_5 => absurd c_5 (nI_ge (by omega) (by omega))) (fun _ => ?_)
          refine lv_iload_n hx hb dX1_areTwins_84 rfl (lv_at hl 1 rfl) ?_
          refine lv_if_eq (tgt := 107) hx hb dX1_areTwins_85 (by decide) (fun c_6 => ?_) (fun c_6 => ?_)
          · exact kx3 f (⟨by rw [← hinv3.1, if_pos c_6]; exact c_6, hinv3.2⟩) H locs hP hS ls (lv_sub hl [1, 2, 3, 4] rfl)
          · refine lv_aload_n hx hb dX1_areTwins_88 rfl (lv_at hl 2 rfl) ?_
            refine vgS hx hb hts hi1 hown hK hP (B) (by have := (pr_o hB).1; omega) (pr_o hB).2.1 (C := RX1) (T := TX1) (N := 9) rfl 7 (by decide) (by decide) (by decide) (by decide) (B + 10) rfl (hts (.fieldLink RX1 39 "CrateHelpers$Problem" "rules" "[LCrateHelpers$Rule;") (by decide +kernel)) (fun _ h9 => h9) dX1_areTwins_89 ?_
            refine lv_iload hx hb dX1_areTwins_92 (lv_at hl 0 rfl) ?_
            refine xaald hx hb hK hP (B + 10) (by have := (pr_o hB).1; omega) 6 14 (pr_o hB).2.2.2.2.2.1 (by decide) rfl hin3 (B + 12 + 5 * i) (by rw [rf14 (pr_o hB).2.2.2.2.2.1]; rw [nI_clamp (by omega)]) dX1_areTwins_94 ?_
            refine lv_iload_n hx hb dX1_areTwins_95 rfl (lv_at hl 3 rfl) ?_
            refine lv_iload_n hx hb dX1_areTwins_96 rfl (lv_at hl 4 rfl) ?_
            refine vcV (As := [.int (nI x), .int (nI y)]) (rest := []) ⟨hx, hb, hml, hown, hts⟩ (c_X2_treatsAlike l D K ad hap0 (B + 12 + 5 * i) x y (pr_ru hB (by omega)) (by omega) (by omega) I G A L) (cwV 2 hts gX1_areTwins_X2_treatsAlike rfl rfl rfl (by decide +kernel) ⟨Nat.le_of_ble_eq_true rfl, Nat.le_of_ble_eq_true rfl⟩) hK hP hS (by have := (pr_ru (r := i) hB (by omega)).1; omega) (pr_ru (r := i) hB (by omega)).2.1 (by decide) rfl rfl rfl hl.1 (Nat.le_of_ble_eq_true rfl) (Nat.le_of_ble_eq_true rfl) (Nat.le_of_ble_eq_true rfl) dX1_areTwins_97 (fun r7 u8 H locs hw hP hS => ?_) rfl
            obtain ⟨hr7, rfl⟩ := hw
            have hP : va_P D vwCl (VW K ad I G A L) H := hP
            subst hr7
            refine lv_istore_n (lv' := [(3, .int (tal I A (B + 12 + 5 * i) x y)), (4, .int (nI i)), (0, .ref (ad B)), (1, .int (nI x)), (2, .int (nI y))]) hx hb dX1_areTwins_100 rfl hl (by decide) rfl (fun ls hl => ?_)
            refine lv_iinc (v := (nI (i + 1))) (lv' := [(4, .int (nI (i + 1))), (3, .int (tal I A (B + 12 + 5 * i) x y)), (0, .ref (ad B)), (1, .int (nI x)), (2, .int (nI y))]) hx hb dX1_areTwins_101 hl (k := 1) rfl (nI_1 i) (by decide) rfl (fun ls hl => ?_)
            refine lv_goto (tgt := 75) hx hb dX1_areTwins_104 (by decide) ?_
            exact ih3 (i + 1) (tal I A (B + 12 + 5 * i) x y) (by omega) (⟨by rw [← hinv3.1, if_neg c_6]; by_cases h9 : (tal I A (B + 12 + 5 * i) x y) = 0 <;> simp [all1, pta, h9], tal_01 _ _ _ _ _⟩) H locs hP hS ls (lv_sub hl [0, 1, 2, 3, 4] rfl)
      exact lp3 (nr) 0 f (by omega) (⟨by rw [hinv2.1]; unfold twn; by_cases h1 : A (B + 1) x = A (B + 1) y <;> rcases all1_01 (peq A B x y) sx 0 with h2 | h2 <;> simp [h1, h2], hinv2.2⟩) _ _ hP hS ls (lv_sub hl [0, 1, 2, 3, 4] rfl)
    have lp2 : ∀ (k2 i : Nat) (f : Int32), i + k2 = sx → (if f = 0 then 0 else all1 (peq A B x y) k2 i) = (if A (B + 1) x = A (B + 1) y then all1 (peq A B x y) sx 0 else 0) ∧ (f = 0 ∨ f = 1) → ∀ (H : Heap) (locs : List Loc), va_P D vwCl (VW K ad I G A L) H → va_S (vF ad s.heap.size) s.heap H locs → ∀ (ls : Array Slot), lv_has ls 5 [(4, .int (nI i)), (3, .int f), (0, .ref (ad B)), (1, .int (nI x)), (2, .int (nI y))] → W p l e ({ frames := 2, cells := 0, slots := 0, locals := 80 }) s m ([.ref (ad B), .int (nI x), .int (nI y)] : List Value).toArray below meth c H locs 0 0 (MQ below (va_Qi (fun (r : Int32) (u : Mem) => r = twn I A B nr sx x y ∧ u = (I, G, A, L)) (vB D K ad) (vF ad s.heap.size)) ([.ref (ad B), .int (nI x), .int (nI y)] : List Value).toArray s 0 0 (vF ad s.heap.size)) (F0 m 24 ls []) := by
      intro k2
      induction k2 with
      | zero =>
        intro i f hk2 hinv2 H locs hP hS ls hl
        obtain rfl : sx = i := by omega
        refine lv_iload hx hb dX1_areTwins_24 (lv_at hl 0 rfl) ?_
        refine lv_aload_n hx hb dX1_areTwins_26 rfl (lv_at hl 2 rfl) ?_
        refine vgS hx hb hts hi1 hown hK hP (B) (by have := (pr_o hB).1; omega) (pr_o hB).2.1 (C := RX1) (T := TX1) (N := 9) rfl 4 (by decide) (by decide) (by decide) (by decide) (B + 1) rfl (hts (.fieldLink RX1 25 "CrateHelpers$Problem" "sizes" "[I") (by decide +kernel)) (fun _ h9 => h9) dX1_areTwins_27 ?_
        refine lv_iload_n hx hb dX1_areTwins_30 rfl (lv_at hl 3 rfl) ?_
        refine xiald hx hb hK hP (B + 1) (by have := (pr_o hB).1; omega) (pr_o hB).2.2.1 hx1 dX1_areTwins_31 ?_
        rw [nI_clamp (n := x) (by omega)]
        rw [hsx]
        refine lv_icmp_ge (tgt := 72) hx hb dX1_areTwins_32 (by decide) (fun _ => ?_) (fun c_9 => absurd (nI_le (Nat.le_refl _) (by omega)) c_9)
        exact kx2 f (⟨fl_z hinv2.1 hinv2.2, hinv2.2⟩) H locs hP hS ls (lv_sub hl [1, 2, 3, 4] rfl)
      | succ k2 ih2 =>
        intro i f hk2 hinv2 H locs hP hS ls hl
        have hlt2 : i < sx := by omega
        have hi42 : vp_in (nI i) (ln (B + 4 + x)) := by rw [(pr_row hB (by omega)).2]; exact vp_in_nI (by omega) (by omega)
        have hj42 : vp_in (nI i) (ln (B + 4 + y)) := by rw [(pr_row hB (by omega)).2]; exact vp_in_nI (by omega) (by omega)
        refine lv_iload hx hb dX1_areTwins_24 (lv_at hl 0 rfl) ?_
        refine lv_aload_n hx hb dX1_areTwins_26 rfl (lv_at hl 2 rfl) ?_
        refine vgS hx hb hts hi1 hown hK hP (B) (by have := (pr_o hB).1; omega) (pr_o hB).2.1 (C := RX1) (T := TX1) (N := 9) rfl 4 (by decide) (by decide) (by decide) (by decide) (B + 1) rfl (hts (.fieldLink RX1 25 "CrateHelpers$Problem" "sizes" "[I") (by decide +kernel)) (fun _ h9 => h9) dX1_areTwins_27 ?_
        refine lv_iload_n hx hb dX1_areTwins_30 rfl (lv_at hl 3 rfl) ?_
        refine xiald hx hb hK hP (B + 1) (by have := (pr_o hB).1; omega) (pr_o hB).2.2.1 hx1 dX1_areTwins_31 ?_
        rw [nI_clamp (n := x) (by omega)]
        rw [hsx]
        refine lv_icmp_ge (tgt := 72) hx hb dX1_areTwins_32 (by decide) (fun c_10 => absurd c_10 (nI_ge (by omega) (by omega))) (fun _ => ?_)
        refine lv_iload_n hx hb dX1_areTwins_35 rfl (lv_at hl 1 rfl) ?_
        refine lv_if_eq (tgt := 72) hx hb dX1_areTwins_36 (by decide) (fun c_11 => ?_) (fun c_11 => ?_)
        · exact kx2 f (⟨by rw [← hinv2.1, if_pos c_11]; exact c_11, hinv2.2⟩) H locs hP hS ls (lv_sub hl [1, 2, 3, 4] rfl)
        · refine lv_aload_n hx hb dX1_areTwins_39 rfl (lv_at hl 2 rfl) ?_
          refine vgS hx hb hts hi1 hown hK hP (B) (by have := (pr_o hB).1; omega) (pr_o hB).2.1 (C := RX1) (T := TX1) (N := 9) rfl 6 (by decide) (by decide) (by decide) (by decide) (B + 3) rfl (hts (.fieldLink RX1 34 "CrateHelpers$Problem" "prices" "[[I") (by decide +kernel)) (fun _ h9 => h9) dX1_areTwins_40 ?_
          refine lv_iload_n hx hb dX1_areTwins_43 rfl (lv_at hl 3 rfl) ?_
          refine xgald hx hb hK hP (B + 3) (by have := (pr_o hB).1; omega) (pr_o hB).2.2.2.2.1 hx3 (B + 4 + x) (by rw [rf15 (pr_o hB).2.2.2.2.1]; rw [nI_clamp (by omega)]) dX1_areTwins_44 ?_
          refine lv_iload hx hb dX1_areTwins_45 (lv_at hl 0 rfl) ?_
          refine xiald hx hb hK hP (B + 4 + x) (by have := (pr_o hB).1; omega) (pr_row (x := x) hB (by omega)).1 hi42 dX1_areTwins_47 ?_
          rw [nI_clamp (n := i) (by omega)]
          refine lv_aload_n hx hb dX1_areTwins_48 rfl (lv_at hl 2 rfl) ?_
          refine vgS hx hb hts hi1 hown hK hP (B) (by have := (pr_o hB).1; omega) (pr_o hB).2.1 (C := RX1) (T := TX1) (N := 9) rfl 6 (by decide) (by decide) (by decide) (by decide) (B + 3) rfl (hts (.fieldLink RX1 34 "CrateHelpers$Problem" "prices" "[[I") (by decide +kernel)) (fun _ h9 => h9) dX1_areTwins_49 ?_
          refine lv_iload_n hx hb dX1_areTwins_52 rfl (lv_at hl 4 rfl) ?_
          refine xgald hx hb hK hP (B + 3) (by have := (pr_o hB).1; omega) (pr_o hB).2.2.2.2.1 hy3 (B + 4 + y) (by rw [rf15 (pr_o hB).2.2.2.2.1]; rw [nI_clamp (by omega)]) dX1_areTwins_53 ?_
          refine lv_iload hx hb dX1_areTwins_54 (lv_at hl 0 rfl) ?_
          refine xiald hx hb hK hP (B + 4 + y) (by have := (pr_o hB).1; omega) (pr_row (x := y) hB (by omega)).1 hj42 dX1_areTwins_56 ?_
          rw [nI_clamp (n := i) (by omega)]
          refine lv_icmp_ne (tgt := 64) hx hb dX1_areTwins_57 (by decide) (fun c_12 => ?_) (fun c_12 => ?_)
          · refine lv_iconst (v := 0) hx hb dX1_areTwins_64 (by decide) ?_
            refine lv_istore_n (lv' := [(3, .int 0), (4, .int (nI i)), (0, .ref (ad B)), (1, .int (nI x)), (2, .int (nI y))]) hx hb dX1_areTwins_65 rfl hl (by decide) rfl (fun ls hl => ?_)
            refine lv_iinc (v := (nI (i + 1))) (lv' := [(4, .int (nI (i + 1))), (3, .int 0), (0, .ref (ad B)), (1, .int (nI x)), (2, .int (nI y))]) hx hb dX1_areTwins_66 hl (k := 1) rfl (nI_1 i) (by decide) rfl (fun ls hl => ?_)
            refine lv_goto (tgt := 24) hx hb dX1_areTwins_69 (by decide) ?_
            exact ih2 (i + 1) 0 (by omega) (⟨by rw [← hinv2.1, if_neg c_11]; simp [all1, peq, c_12], by decide⟩) H locs hP hS ls (lv_sub hl [0, 1, 2, 3, 4] rfl)
          · refine lv_iconst (v := 1) hx hb dX1_areTwins_60 (by decide) ?_
            refine lv_goto (tgt := 65) hx hb dX1_areTwins_61 (by decide) ?_
            refine lv_istore_n (lv' := [(3, .int 1), (4, .int (nI i)), (0, .ref (ad B)), (1, .int (nI x)), (2, .int (nI y))]) hx hb dX1_areTwins_65 rfl hl (by decide) rfl (fun ls hl => ?_)
            refine lv_iinc (v := (nI (i + 1))) (lv' := [(4, .int (nI (i + 1))), (3, .int 1), (0, .ref (ad B)), (1, .int (nI x)), (2, .int (nI y))]) hx hb dX1_areTwins_66 hl (k := 1) rfl (nI_1 i) (by decide) rfl (fun ls hl => ?_)
            refine lv_goto (tgt := 24) hx hb dX1_areTwins_69 (by decide) ?_
            exact ih2 (i + 1) 1 (by omega) (⟨by rw [← hinv2.1, if_neg c_11]; simp [all1, peq, c_12], by decide⟩) H locs hP hS ls (lv_sub hl [0, 1, 2, 3, 4] rfl)
    exact lp2 (sx) 0 0 (by omega) (⟨by simp [c_1], by decide⟩) _ _ hP hS ls (lv_sub hl [0, 1, 2, 3, 4] rfl)
  · refine lv_iconst (v := 1) hx hb dX1_areTwins_15 (by decide) ?_
    refine lv_goto (tgt := 20) hx hb dX1_areTwins_16 (by decide) ?_
    refine lv_istore_n (lv' := [(3, .int 1), (0, .ref (ad B)), (1, .int (nI x)), (2, .int (nI y))]) hx hb dX1_areTwins_20 rfl hl (by decide) rfl (fun ls hl => ?_)
    refine lv_iconst (v := 0) hx hb dX1_areTwins_21 (by decide) ?_
    refine lv_istore (lv' := [(4, .int 0), (3, .int 1), (0, .ref (ad B)), (1, .int (nI x)), (2, .int (nI y))]) hx hb dX1_areTwins_22 hl (by decide) rfl (fun ls hl => ?_)
    have kx13 : ∀ (f : Int32), f = (if A (B + 1) x = A (B + 1) y then all1 (peq A B x y) sx 0 else 0) ∧ (f = 0 ∨ f = 1) → ∀ (H : Heap) (locs : List Loc), va_P D vwCl (VW K ad I G A L) H → va_S (vF ad s.heap.size) s.heap H locs → ∀ (ls : Array Slot), lv_has ls 5 [(3, .int f), (0, .ref (ad B)), (1, .int (nI x)), (2, .int (nI y))] → W p l e ({ frames := 2, cells := 0, slots := 0, locals := 80 }) s m ([.ref (ad B), .int (nI x), .int (nI y)] : List Value).toArray below meth c H locs 0 0 (MQ below (va_Qi (fun (r : Int32) (u : Mem) => r = twn I A B nr sx x y ∧ u = (I, G, A, L)) (vB D K ad) (vF ad s.heap.size)) ([.ref (ad B), .int (nI x), .int (nI y)] : List Value).toArray s 0 0 (vF ad s.heap.size)) (F0 m 72 ls []) := by
      intro f hinv13 H locs hP hS ls hl
      refine lv_iconst (v := 0) hx hb dX1_areTwins_72 (by decide) ?_
      refine lv_istore (lv' := [(4, .int 0), (3, .int f), (0, .ref (ad B)), (1, .int (nI x)), (2, .int (nI y))]) hx hb dX1_areTwins_73 hl (by decide) rfl (fun ls hl => ?_)
      have kx14 : ∀ (f : Int32), f = twn I A B nr sx x y ∧ (f = 0 ∨ f = 1) → ∀ (H : Heap) (locs : List Loc), va_P D vwCl (VW K ad I G A L) H → va_S (vF ad s.heap.size) s.heap H locs → ∀ (ls : Array Slot), lv_has ls 5 [(3, .int f), (0, .ref (ad B)), (1, .int (nI x)), (2, .int (nI y))] → W p l e ({ frames := 2, cells := 0, slots := 0, locals := 80 }) s m ([.ref (ad B), .int (nI x), .int (nI y)] : List Value).toArray below meth c H locs 0 0 (MQ below (va_Qi (fun (r : Int32) (u : Mem) => r = twn I A B nr sx x y ∧ u = (I, G, A, L)) (vB D K ad) (vF ad s.heap.size)) ([.ref (ad B), .int (nI x), .int (nI y)] : List Value).toArray s 0 0 (vF ad s.heap.size)) (F0 m 107 ls []) := by
        intro f hinv14 H locs hP hS ls hl
        refine lv_iload_n hx hb dX1_areTwins_107 rfl (lv_at hl 0 rfl) ?_
        exact W.zret (v := f) hx hb hr (nar01 hinv14.2) (fun t ht hW => ⟨⟨f, (I, G, A, L), rfl, ⟨hinv14.1, rfl⟩, by rw [ht]; exact hP, va_K.moved hW.alike hK⟩, hS.F ht⟩) hS.2.2 dX1_areTwins_108
      have lp14 : ∀ (k14 i : Nat) (f : Int32), i + k14 = nr → (if f = 0 then 0 else all1 (pta I A B x y) k14 i) = twn I A B nr sx x y ∧ (f = 0 ∨ f = 1) → ∀ (H : Heap) (locs : List Loc), va_P D vwCl (VW K ad I G A L) H → va_S (vF ad s.heap.size) s.heap H locs → ∀ (ls : Array Slot), lv_has ls 5 [(4, .int (nI i)), (3, .int f), (0, .ref (ad B)), (1, .int (nI x)), (2, .int (nI y))] → W p l e ({ frames := 2, cells := 0, slots := 0, locals := 80 }) s m ([.ref (ad B), .int (nI x), .int (nI y)] : List Value).toArray below meth c H locs 0 0 (MQ below (va_Qi (fun (r : Int32) (u : Mem) => r = twn I A B nr sx x y ∧ u = (I, G, A, L)) (vB D K ad) (vF ad s.heap.size)) ([.ref (ad B), .int (nI x), .int (nI y)] : List Value).toArray s 0 0 (vF ad s.heap.size)) (F0 m 75 ls []) := by
        intro k14
        induction k14 with
        | zero =>
          intro i f hk14 hinv14 H locs hP hS ls hl
          obtain rfl : nr = i := by omega
          refine lv_iload hx hb dX1_areTwins_75 (lv_at hl 0 rfl) ?_
          refine lv_aload_n hx hb dX1_areTwins_77 rfl (lv_at hl 2 rfl) ?_
          refine vgI hx hb hts hi1 hown hK hP (B) (by have := (pr_o hB).1; omega) (pr_o hB).2.1 (C := RX1) (T := TX1) (N := 9) rfl 1 (by decide) (by decide) (by decide) (by decide) (hts (.fieldLink RX1 15 "CrateHelpers$Problem" "ruleCount" "I") (by decide +kernel)) (fun _ h9 => h9) dX1_areTwins_78 ?_
          rw [hBr]
          refine lv_icmp_ge (tgt := 107) hx hb dX1_areTwins_81 (by decide) (fun _ => ?_) (fun c_15 => absurd (nI_le (Nat.le_refl _) (by omega)) c_15)
          exact kx14 f (⟨fl_z hinv14.1 hinv14.2, hinv14.2⟩) H locs hP hS ls (lv_sub hl [1, 2, 3, 4] rfl)
        | succ k14 ih14 =>
          intro i f hk14 hinv14 H locs hP hS ls hl
          have hlt14 : i < nr := by omega
          have hin14 : vp_in (nI i) (ln (B + 10)) := by rw [(pr_o hB).2.2.2.2.2.2.2.2.2.2.1]; exact vp_in_nI (by omega) (by omega)
          refine lv_iload hx hb dX1_areTwins_75 (lv_at hl 0 rfl) ?_
          refine lv_aload_n hx hb dX1_areTwins_77 rfl (lv_at hl 2 rfl) ?_
          refine vgI hx hb hts hi1 hown hK hP (B) (by have := (pr_o hB).1; omega) (pr_o hB).2.1 (C := RX1) (T := TX1) (N := 9) rfl 1 (by decide) (by decide) (by decide) (by decide) (hts (.fieldLink RX1 15 "CrateHelpers$Problem" "ruleCount" "I") (by decide +kernel)) (fun _ h9 => h9) dX1_areTwins_78 ?_
          rw [hBr]
          refine lv_icmp_ge (tgt := 107) hx hb dX1_areTwins_81 (by decide) (fun c_16 => absurd c_16 (nI_ge (by omega) (by omega))) (fun _ => ?_)
          refine lv_iload_n hx hb dX1_areTwins_84 rfl (lv_at hl 1 rfl) ?_
          refine lv_if_eq (tgt := 107) hx hb dX1_areTwins_85 (by decide) (fun c_17 => ?_) (fun c_17 => ?_)
          · exact kx14 f (⟨by rw [← hinv14.1, if_pos c_17]; exact c_17, hinv14.2⟩) H locs hP hS ls (lv_sub hl [1, 2, 3, 4] rfl)
          · refine lv_aload_n hx hb dX1_areTwins_88 rfl (lv_at hl 2 rfl) ?_
            refine vgS hx hb hts hi1 hown hK hP (B) (by have := (pr_o hB).1; omega) (pr_o hB).2.1 (C := RX1) (T := TX1) (N := 9) rfl 7 (by decide) (by decide) (by decide) (by decide) (B + 10) rfl (hts (.fieldLink RX1 39 "CrateHelpers$Problem" "rules" "[LCrateHelpers$Rule;") (by decide +kernel)) (fun _ h9 => h9) dX1_areTwins_89 ?_
            refine lv_iload hx hb dX1_areTwins_92 (lv_at hl 0 rfl) ?_
            refine xaald hx hb hK hP (B + 10) (by have := (pr_o hB).1; omega) 6 14 (pr_o hB).2.2.2.2.2.1 (by decide) rfl hin14 (B + 12 + 5 * i) (by rw [rf14 (pr_o hB).2.2.2.2.2.1]; rw [nI_clamp (by omega)]) dX1_areTwins_94 ?_
            refine lv_iload_n hx hb dX1_areTwins_95 rfl (lv_at hl 3 rfl) ?_
            refine lv_iload_n hx hb dX1_areTwins_96 rfl (lv_at hl 4 rfl) ?_
            refine vcV (As := [.int (nI x), .int (nI y)]) (rest := []) ⟨hx, hb, hml, hown, hts⟩ (c_X2_treatsAlike l D K ad hap0 (B + 12 + 5 * i) x y (pr_ru hB (by omega)) (by omega) (by omega) I G A L) (cwV 2 hts gX1_areTwins_X2_treatsAlike rfl rfl rfl (by decide +kernel) ⟨Nat.le_of_ble_eq_true rfl, Nat.le_of_ble_eq_true rfl⟩) hK hP hS (by have := (pr_ru (r := i) hB (by omega)).1; omega) (pr_ru (r := i) hB (by omega)).2.1 (by decide) rfl rfl rfl hl.1 (Nat.le_of_ble_eq_true rfl) (Nat.le_of_ble_eq_true rfl) (Nat.le_of_ble_eq_true rfl) dX1_areTwins_97 (fun r18 u19 H locs hw hP hS => ?_) rfl
            obtain ⟨hr18, rfl⟩ := hw
            have hP : va_P D vwCl (VW K ad I G A L) H := hP
            subst hr18
            refine lv_istore_n (lv' := [(3, .int (tal I A (B + 12 + 5 * i) x y)), (4, .int (nI i)), (0, .ref (ad B)), (1, .int (nI x)), (2, .int (nI y))]) hx hb dX1_areTwins_100 rfl hl (by decide) rfl (fun ls hl => ?_)
            refine lv_iinc (v := (nI (i + 1))) (lv' := [(4, .int (nI (i + 1))), (3, .int (tal I A (B + 12 + 5 * i) x y)), (0, .ref (ad B)), (1, .int (nI x)), (2, .int (nI y))]) hx hb dX1_areTwins_101 hl (k := 1) rfl (nI_1 i) (by decide) rfl (fun ls hl => ?_)
            refine lv_goto (tgt := 75) hx hb dX1_areTwins_104 (by decide) ?_
            exact ih14 (i + 1) (tal I A (B + 12 + 5 * i) x y) (by omega) (⟨by rw [← hinv14.1, if_neg c_17]; by_cases h9 : (tal I A (B + 12 + 5 * i) x y) = 0 <;> simp [all1, pta, h9], tal_01 _ _ _ _ _⟩) H locs hP hS ls (lv_sub hl [0, 1, 2, 3, 4] rfl)
      exact lp14 (nr) 0 f (by omega) (⟨by rw [hinv13.1]; unfold twn; by_cases h1 : A (B + 1) x = A (B + 1) y <;> rcases all1_01 (peq A B x y) sx 0 with h2 | h2 <;> simp [h1, h2], hinv13.2⟩) _ _ hP hS ls (lv_sub hl [0, 1, 2, 3, 4] rfl)
    have lp13 : ∀ (k13 i : Nat) (f : Int32), i + k13 = sx → (if f = 0 then 0 else all1 (peq A B x y) k13 i) = (if A (B + 1) x = A (B + 1) y then all1 (peq A B x y) sx 0 else 0) ∧ (f = 0 ∨ f = 1) → ∀ (H : Heap) (locs : List Loc), va_P D vwCl (VW K ad I G A L) H → va_S (vF ad s.heap.size) s.heap H locs → ∀ (ls : Array Slot), lv_has ls 5 [(4, .int (nI i)), (3, .int f), (0, .ref (ad B)), (1, .int (nI x)), (2, .int (nI y))] → W p l e ({ frames := 2, cells := 0, slots := 0, locals := 80 }) s m ([.ref (ad B), .int (nI x), .int (nI y)] : List Value).toArray below meth c H locs 0 0 (MQ below (va_Qi (fun (r : Int32) (u : Mem) => r = twn I A B nr sx x y ∧ u = (I, G, A, L)) (vB D K ad) (vF ad s.heap.size)) ([.ref (ad B), .int (nI x), .int (nI y)] : List Value).toArray s 0 0 (vF ad s.heap.size)) (F0 m 24 ls []) := by
      intro k13
      induction k13 with
      | zero =>
        intro i f hk13 hinv13 H locs hP hS ls hl
        obtain rfl : sx = i := by omega
        refine lv_iload hx hb dX1_areTwins_24 (lv_at hl 0 rfl) ?_
        refine lv_aload_n hx hb dX1_areTwins_26 rfl (lv_at hl 2 rfl) ?_
        refine vgS hx hb hts hi1 hown hK hP (B) (by have := (pr_o hB).1; omega) (pr_o hB).2.1 (C := RX1) (T := TX1) (N := 9) rfl 4 (by decide) (by decide) (by decide) (by decide) (B + 1) rfl (hts (.fieldLink RX1 25 "CrateHelpers$Problem" "sizes" "[I") (by decide +kernel)) (fun _ h9 => h9) dX1_areTwins_27 ?_
        refine lv_iload_n hx hb dX1_areTwins_30 rfl (lv_at hl 3 rfl) ?_
        refine xiald hx hb hK hP (B + 1) (by have := (pr_o hB).1; omega) (pr_o hB).2.2.1 hx1 dX1_areTwins_31 ?_
        rw [nI_clamp (n := x) (by omega)]
        rw [hsx]
        refine lv_icmp_ge (tgt := 72) hx hb dX1_areTwins_32 (by decide) (fun _ => ?_) (fun c_20 => absurd (nI_le (Nat.le_refl _) (by omega)) c_20)
        exact kx13 f (⟨fl_z hinv13.1 hinv13.2, hinv13.2⟩) H locs hP hS ls (lv_sub hl [1, 2, 3, 4] rfl)
      | succ k13 ih13 =>
        intro i f hk13 hinv13 H locs hP hS ls hl
        have hlt13 : i < sx := by omega
        have hi413 : vp_in (nI i) (ln (B + 4 + x)) := by rw [(pr_row hB (by omega)).2]; exact vp_in_nI (by omega) (by omega)
        have hj413 : vp_in (nI i) (ln (B + 4 + y)) := by rw [(pr_row hB (by omega)).2]; exact vp_in_nI (by omega) (by omega)
        refine lv_iload hx hb dX1_areTwins_24 (lv_at hl 0 rfl) ?_
        refine lv_aload_n hx hb dX1_areTwins_26 rfl (lv_at hl 2 rfl) ?_
        refine vgS hx hb hts hi1 hown hK hP (B) (by have := (pr_o hB).1; omega) (pr_o hB).2.1 (C := RX1) (T := TX1) (N := 9) rfl 4 (by decide) (by decide) (by decide) (by decide) (B + 1) rfl (hts (.fieldLink RX1 25 "CrateHelpers$Problem" "sizes" "[I") (by decide +kernel)) (fun _ h9 => h9) dX1_areTwins_27 ?_
        refine lv_iload_n hx hb dX1_areTwins_30 rfl (lv_at hl 3 rfl) ?_
        refine xiald hx hb hK hP (B + 1) (by have := (pr_o hB).1; omega) (pr_o hB).2.2.1 hx1 dX1_areTwins_31 ?_
        rw [nI_clamp (n := x) (by omega)]
        rw [hsx]
        refine lv_icmp_ge (tgt := 72) hx hb dX1_areTwins_32 (by decide) (fun c_21 => absurd c_21 (nI_ge (by omega) (by omega))) (fun _ => ?_)
        refine lv_iload_n hx hb dX1_areTwins_35 rfl (lv_at hl 1 rfl) ?_
        refine lv_if_eq (tgt := 72) hx hb dX1_areTwins_36 (by decide) (fun c_22 => ?_) (fun c_22 => ?_)
        · exact kx13 f (⟨by rw [← hinv13.1, if_pos c_22]; exact c_22, hinv13.2⟩) H locs hP hS ls (lv_sub hl [1, 2, 3, 4] rfl)
        · refine lv_aload_n hx hb dX1_areTwins_39 rfl (lv_at hl 2 rfl) ?_
          refine vgS hx hb hts hi1 hown hK hP (B) (by have := (pr_o hB).1; omega) (pr_o hB).2.1 (C := RX1) (T := TX1) (N := 9) rfl 6 (by decide) (by decide) (by decide) (by decide) (B + 3) rfl (hts (.fieldLink RX1 34 "CrateHelpers$Problem" "prices" "[[I") (by decide +kernel)) (fun _ h9 => h9) dX1_areTwins_40 ?_
          refine lv_iload_n hx hb dX1_areTwins_43 rfl (lv_at hl 3 rfl) ?_
          refine xgald hx hb hK hP (B + 3) (by have := (pr_o hB).1; omega) (pr_o hB).2.2.2.2.1 hx3 (B + 4 + x) (by rw [rf15 (pr_o hB).2.2.2.2.1]; rw [nI_clamp (by omega)]) dX1_areTwins_44 ?_
          refine lv_iload hx hb dX1_areTwins_45 (lv_at hl 0 rfl) ?_
          refine xiald hx hb hK hP (B + 4 + x) (by have := (pr_o hB).1; omega) (pr_row (x := x) hB (by omega)).1 hi413 dX1_areTwins_47 ?_
          rw [nI_clamp (n := i) (by omega)]
          refine lv_aload_n hx hb dX1_areTwins_48 rfl (lv_at hl 2 rfl) ?_
          refine vgS hx hb hts hi1 hown hK hP (B) (by have := (pr_o hB).1; omega) (pr_o hB).2.1 (C := RX1) (T := TX1) (N := 9) rfl 6 (by decide) (by decide) (by decide) (by decide) (B + 3) rfl (hts (.fieldLink RX1 34 "CrateHelpers$Problem" "prices" "[[I") (by decide +kernel)) (fun _ h9 => h9) dX1_areTwins_49 ?_
          refine lv_iload_n hx hb dX1_areTwins_52 rfl (lv_at hl 4 rfl) ?_
          refine xgald hx hb hK hP (B + 3) (by have := (pr_o hB).1; omega) (pr_o hB).2.2.2.2.1 hy3 (B + 4 + y) (by rw [rf15 (pr_o hB).2.2.2.2.1]; rw [nI_clamp (by omega)]) dX1_areTwins_53 ?_
          refine lv_iload hx hb dX1_areTwins_54 (lv_at hl 0 rfl) ?_
          refine xiald hx hb hK hP (B + 4 + y) (by have := (pr_o hB).1; omega) (pr_row (x := y) hB (by omega)).1 hj413 dX1_areTwins_56 ?_
          rw [nI_clamp (n := i) (by omega)]
          refine lv_icmp_ne (tgt := 64) hx hb dX1_areTwins_57 (by decide) (fun c_23 => ?_) (fun c_23 => ?_)
          · refine lv_iconst (v := 0) hx hb dX1_areTwins_64 (by decide) ?_
            refine lv_istore_n (lv' := [(3, .int 0), (4, .int (nI i)), (0, .ref (ad B)), (1, .int (nI x)), (2, .int (nI y))]) hx hb dX1_areTwins_65 rfl hl (by decide) rfl (fun ls hl => ?_)
            refine lv_iinc (v := (nI (i + 1))) (lv' := [(4, .int (nI (i + 1))), (3, .int 0), (0, .ref (ad B)), (1, .int (nI x)), (2, .int (nI y))]) hx hb dX1_areTwins_66 hl (k := 1) rfl (nI_1 i) (by decide) rfl (fun ls hl => ?_)
            refine lv_goto (tgt := 24) hx hb dX1_areTwins_69 (by decide) ?_
            exact ih13 (i + 1) 0 (by omega) (⟨by rw [← hinv13.1, if_neg c_22]; simp [all1, peq, c_23], by decide⟩) H locs hP hS ls (lv_sub hl [0, 1, 2, 3, 4] rfl)
          · refine lv_iconst (v := 1) hx hb dX1_areTwins_60 (by decide) ?_
            refine lv_goto (tgt := 65) hx hb dX1_areTwins_61 (by decide) ?_
            refine lv_istore_n (lv' := [(3, .int 1), (4, .int (nI i)), (0, .ref (ad B)), (1, .int (nI x)), (2, .int (nI y))]) hx hb dX1_areTwins_65 rfl hl (by decide) rfl (fun ls hl => ?_)
            refine lv_iinc (v := (nI (i + 1))) (lv' := [(4, .int (nI (i + 1))), (3, .int 1), (0, .ref (ad B)), (1, .int (nI x)), (2, .int (nI y))]) hx hb dX1_areTwins_66 hl (k := 1) rfl (nI_1 i) (by decide) rfl (fun ls hl => ?_)
            refine lv_goto (tgt := 24) hx hb dX1_areTwins_69 (by decide) ?_
            exact ih13 (i + 1) 1 (by omega) (⟨by rw [← hinv13.1, if_neg c_22]; simp [all1, peq, c_23], by decide⟩) H locs hP hS ls (lv_sub hl [0, 1, 2, 3, 4] rfl)
    exact lp13 (sx) 0 1 (by omega) (⟨by simp [c_1], by decide⟩) _ _ hP hS ls (lv_sub hl [0, 1, 2, 3, 4] rfl)
