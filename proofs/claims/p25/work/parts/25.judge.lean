/-! THE JUDGE -/
def JuAt (J : Nat) : Prop := J < 58 ∧ J < NS ∧ kd J = 0
/-- the row at v: d values that the variables have, then none -/
def RoW (A : Nat → Nat → Int32) (B v d : Nat) : Prop := (∀ i, i < d → vp_in (A v i) (szo A B i)) ∧ ∀ i, d ≤ i → i < 6 → A v i = -1
/-- what variable i adds to the bound (-1000000: nothing can be) -/
def lbd (I A : Nat → Nat → Int32) (B v nr d i : Nat) : Int32 := if i < d then A (B + 4 + i) (A v i).toNatClampNeg else lcs I A B v i nr (szo A B i) 0 (-1000000)
def bnd (I A : Nat → Nat → Int32) (B v nr d : Nat) : Nat → Nat → Int32 → Int32 × Int32 × Int32
  | 0, _, a => (0, -9, a)
  | k + 1, i, a => if lbd I A B v nr d i = -1000000 then (3, nI i, -1000000) else bnd I A B v nr d k (i + 1) (a + lbd I A B v nr d i)
/-- what the node is, why, and its bound -/
def lk (I A : Nat → Nat → Int32) (B v nv nr d : Nat) (mt : Int32) : Int32 × Int32 × Int32 := if fbk I A B v nr = -9 then (if mt = 0 ∨ d = 0 ∨ ftw I A B v nr (d - 1) = -9 then bnd I A B v nr d nv 0 0 else (2, ftw I A B v nr (d - 1), -1000000)) else (1, fbk I A B v nr, -1000000)

set_option maxHeartbeats 4000000 in
set_option maxRecDepth 100000 in
theorem c_X0_close (l : Launch) (D : va_G) (K : Nat → ClassId) (ad : Nat → Nat) (hap0 : apart ad (fun _ => True)) (J : Nat) (a b : Int32) (hJ : JuAt J) (I : Nat → Nat → Int32) (G : Nat → Nat → Nat) (A : Nat → Nat → Int32) (L : Nat → Nat → Int64)  : Cv l D K ad yX0_close wsX0_close 0 0 [.ref (ad J), .int a, .int b] (I, G, A, L) (fun (u : Mem) => u = (up2 (up2 (up2 I J 0 a) J 1 b) J 2 (-1000000), G, A, L)) := by
  intro sz
  refine Met.ofW (cc := cX0_close) (maxL := 3) (ret := none) (by decide) rfl ?_
  intro p e s m args below meth c s₁ Bd hml hv0
  obtain ⟨rfl, hsz, hP, hK⟩ := hv0
  have hx := Bd.exec
  have hb := Bd.bytes
  have hr := Bd.returns
  have hts := atoms_spec (ws := wsX0_close) Bd.pre
  have hown : s.vm.findClass RX0 = some m.cls := findClass_of_methodNamed Bd.named
  have hlocks := Bd.notSynchronized
  have hi0 : ∀ w ∈ u_ws RX0 TX0 3, w ∈ wsX0_close := fun w h => List.mem_cons_of_mem _ (List.mem_append_right _ h)
  subst hsz
  have hap := vF_ap hap0 s.heap.size
  have hS : va_S (vF ad s.heap.size) s.heap s.heap [] := va_S.rf
  have hP : va_P D vwCl (VW K ad I G A L) s.heap := hP
  have hl := lv_entry ([.ref (ad J), .int a, .int b]) (n := 3) (Nat.le_of_ble_eq_true rfl)
  rw [lg_entry_eq]
  generalize (lg_sl ([.ref (ad J), .int a, .int b]) ++ List.replicate (3 - (lg_sl ([.ref (ad J), .int a, .int b])).length) Slot.unset).toArray = ls at hl ⊢
  have hl : lv_has ls 3 [(0, .ref (ad J)), (1, .int a), (2, .int b)] := hl
  refine lv_aload_n hx hb dX0_close_0 rfl (lv_at hl 0 rfl) ?_
  refine lv_iload_n hx hb dX0_close_1 rfl (lv_at hl 1 rfl) ?_
  refine vpI (v := a) (ty := .int) hx hb hts hi0 tyX0 tyX0_ok nmX0 hown hK hP hap hS (J) hJ.2.1 hJ.2.2 (C := RX0) (T := TX0) (N := 3) rfl 0 (by decide) (by decide) (by decide) (by decide) (hts (.fieldLink RX0 9 "CrateHelpers$Judge" "what" "I") (by decide +kernel)) (fun _ h9 => h9) rfl (by decide +kernel) rfl rfl dX0_close_2 (fun H locs hP hS => ?_)
  obtain ⟨I1, eI1⟩ : ∃ z, z = up2 I J 0 a := ⟨_, rfl⟩
  rw [← eI1] at hP
  have hP : va_P D vwCl (VW K ad I1 G A L) H := hP
  refine lv_aload_n hx hb dX0_close_5 rfl (lv_at hl 0 rfl) ?_
  refine lv_iload_n hx hb dX0_close_6 rfl (lv_at hl 2 rfl) ?_
  refine vpI (v := b) (ty := .int) hx hb hts hi0 tyX0 tyX0_ok nmX0 hown hK hP hap hS (J) hJ.2.1 hJ.2.2 (C := RX0) (T := TX0) (N := 3) rfl 1 (by decide) (by decide) (by decide) (by decide) (hts (.fieldLink RX0 15 "CrateHelpers$Judge" "why" "I") (by decide +kernel)) (fun _ h9 => h9) rfl (by decide +kernel) rfl rfl dX0_close_7 (fun H locs hP hS => ?_)
  obtain ⟨I2, eI2⟩ : ∃ z, z = up2 I1 J 1 b := ⟨_, rfl⟩
  rw [← eI2] at hP
  have hP : va_P D vwCl (VW K ad I2 G A L) H := hP
  refine lv_aload_n hx hb dX0_close_10 rfl (lv_at hl 0 rfl) ?_
  refine lv_ldc (v := (-1000000)) hx hb hown (hts (.constant RX0 18 (-1000000)) (by decide +kernel)) dX0_close_11 ?_
  refine vpI (v := (-1000000)) (ty := .int) hx hb hts hi0 tyX0 tyX0_ok nmX0 hown hK hP hap hS (J) hJ.2.1 hJ.2.2 (C := RX0) (T := TX0) (N := 3) rfl 2 (by decide) (by decide) (by decide) (by decide) (hts (.fieldLink RX0 19 "CrateHelpers$Judge" "bound" "I") (by decide +kernel)) (fun _ h9 => h9) rfl (by decide +kernel) rfl rfl dX0_close_13 (fun H locs hP hS => ?_)
  obtain ⟨I3, eI3⟩ : ∃ z, z = up2 I2 J 2 (-1000000) := ⟨_, rfl⟩
  rw [← eI3] at hP
  have hP : va_P D vwCl (VW K ad I3 G A L) H := hP
  exact W.vret hx hb hr (fun t ht hW => ⟨⟨(I3, G, A, L), rfl, by rw [eI3, eI2, eI1], by rw [ht]; exact hP, va_K.moved hW.alike hK⟩, hS.F ht⟩) hS.2.2 dX0_close_16

set_option maxHeartbeats 4000000 in
set_option maxRecDepth 100000 in
theorem c_X0_look (l : Launch) (D : va_G) (K : Nat → ClassId) (ad : Nat → Nat) (hap0 : apart ad (fun _ => True)) (J B v nv nr d : Nat) (mt : Int32) (hJ : JuAt J) (hB : PrAt B) (hv : IA v 6) (hvB : v < 58) (hdv : d ≤ nv) (I : Nat → Nat → Int32) (G : Nat → Nat → Nat) (A : Nat → Nat → Int32) (L : Nat → Nat → Int64) (hw : PrW I A B nv nr) (hro : RoW A B v d) : Cv l D K ad yX0_look wsX0_look 4 150 [.ref (ad J), .ref (ad B), .ref (ad v), .int (nI d), .int mt] (I, G, A, L) (fun (u : Mem) => u = (up2 (up2 (up2 I J 0 (lk I A B v nv nr d mt).1) J 1 (lk I A B v nv nr d mt).2.1) J 2 (lk I A B v nv nr d mt).2.2, G, A, L)) := by
  intro sz
  refine Met.ofW (cc := cX0_look) (maxL := 10) (ret := none) (by decide) rfl ?_
  intro p e s m args below meth c s₁ Bd hml hv0
  obtain ⟨rfl, hsz, hP, hK⟩ := hv0
  have hx := Bd.exec
  have hb := Bd.bytes
  have hr := Bd.returns
  have hts := atoms_spec (ws := wsX0_look) Bd.pre
  have hown : s.vm.findClass RX0 = some m.cls := findClass_of_methodNamed Bd.named
  have hlocks := Bd.notSynchronized
  have hi1 : ∀ w ∈ u_ws RX1 TX1 9, w ∈ wsX0_look := fun w h => List.mem_cons_of_mem _ (List.mem_append_left _ (List.mem_append_left _ (List.mem_append_right _ h)))
  have hi0 : ∀ w ∈ u_ws RX0 TX0 3, w ∈ wsX0_look := fun w h => List.mem_cons_of_mem _ (List.mem_append_left _ (List.mem_append_right _ h))
  have hi2 : ∀ w ∈ u_ws RX2 TX2 7, w ∈ wsX0_look := fun w h => List.mem_cons_of_mem _ (List.mem_append_right _ h)
  subst hsz
  have hap := vF_ap hap0 s.heap.size
  have hS : va_S (vF ad s.heap.size) s.heap s.heap [] := va_S.rf
  have hP : va_P D vwCl (VW K ad I G A L) s.heap := hP
  have hl := lv_entry ([.ref (ad J), .ref (ad B), .ref (ad v), .int (nI d), .int mt]) (n := 10) (Nat.le_of_ble_eq_true rfl)
  rw [lg_entry_eq]
  generalize (lg_sl ([.ref (ad J), .ref (ad B), .ref (ad v), .int (nI d), .int mt]) ++ List.replicate (10 - (lg_sl ([.ref (ad J), .ref (ad B), .ref (ad v), .int (nI d), .int mt])).length) Slot.unset).toArray = ls at hl ⊢
  have hl : lv_has ls 10 [(0, .ref (ad J)), (1, .ref (ad B)), (2, .ref (ad v)), (3, .int (nI d)), (4, .int mt)] := hl
  have hnv : nv ≤ 6 := hw.1
  have hnr : nr ≤ 8 := hw.2.1
  have hBv : I B 0 = nI nv := hw.2.2.1
  have hBr : I B 1 = nI nr := hw.2.2.2.1
  refine lv_aload_n hx hb dX0_look_0 rfl (lv_at hl 1 rfl) ?_
  refine lv_aload_n hx hb dX0_look_1 rfl (lv_at hl 2 rfl) ?_
  refine vcV (As := [.ref (ad v)]) (rest := []) ⟨hx, hb, hml, hown, hts⟩ (c_X1_firstBroken l D K ad hap0 B v nv nr hB hv I G A L hw) (cwV 1 hts gX0_look_X1_firstBroken rfl rfl rfl (by decide +kernel) ⟨Nat.le_of_ble_eq_true rfl, Nat.le_of_ble_eq_true rfl⟩) hK hP hS (by have := (pr_o hB).1; omega) (pr_o hB).2.1 (by decide) rfl rfl rfl hl.1 (Nat.le_of_ble_eq_true rfl) (Nat.le_of_ble_eq_true rfl) (Nat.le_of_ble_eq_true rfl) dX0_look_2 (fun r1 u2 H locs hw hP hS => ?_) rfl
  obtain ⟨hr1, rfl⟩ := hw
  have hP : va_P D vwCl (VW K ad I G A L) H := hP
  subst hr1
  refine lv_istore (lv' := [(5, .int (fbk I A B v nr)), (0, .ref (ad J)), (1, .ref (ad B)), (2, .ref (ad v)), (3, .int (nI d)), (4, .int mt)]) hx hb dX0_look_5 hl (by decide) rfl (fun ls hl => ?_)
  refine lv_iload hx hb dX0_look_7 (lv_at hl 0 rfl) ?_
  refine lv_bipush (v := (-9)) hx hb dX0_look_9 (by decide) ?_
  refine lv_icmp_eq (tgt := 22) hx hb dX0_look_11 (by decide) (fun c_3 => ?_) (fun c_3 => ?_)
  · refine lv_iload hx hb dX0_look_22 (lv_at hl 5 rfl) ?_
    refine lv_if_eq (tgt := 38) hx hb dX0_look_24 (by decide) (fun c_4 => ?_) (fun c_4 => ?_)
    · refine lv_bipush (v := (-9)) hx hb dX0_look_38 (by decide) ?_
      refine lv_istore (lv' := [(6, .int (-9)), (5, .int (fbk I A B v nr)), (0, .ref (ad J)), (1, .ref (ad B)), (2, .ref (ad v)), (3, .int (nI d)), (4, .int mt)]) hx hb dX0_look_40 hl (by decide) rfl (fun ls hl => ?_)
      refine lv_iload hx hb dX0_look_42 (lv_at hl 0 rfl) ?_
      refine lv_bipush (v := (-9)) hx hb dX0_look_44 (by decide) ?_
      refine lv_icmp_eq (tgt := 57) hx hb dX0_look_46 (by decide) (fun _ => ?_) (fun c_5 => absurd c_5 (by decide))
      refine lv_iconst (v := 0) hx hb dX0_look_57 (by decide) ?_
      refine lv_istore (lv' := [(7, .int 0), (6, .int (-9)), (5, .int (fbk I A B v nr)), (0, .ref (ad J)), (1, .ref (ad B)), (2, .ref (ad v)), (3, .int (nI d)), (4, .int mt)]) hx hb dX0_look_58 hl (by decide) rfl (fun ls hl => ?_)
      refine lv_iconst (v := 0) hx hb dX0_look_60 (by decide) ?_
      refine lv_istore (lv' := [(8, .int 0), (7, .int 0), (6, .int (-9)), (5, .int (fbk I A B v nr)), (0, .ref (ad J)), (1, .ref (ad B)), (2, .ref (ad v)), (3, .int (nI d)), (4, .int mt)]) hx hb dX0_look_61 hl (by decide) rfl (fun ls hl => ?_)
      have kx6 : ∀ (a : Int32), lk I A B v nv nr d mt = (0, -9, a) → ∀ (H : Heap) (locs : List Loc), va_P D vwCl (VW K ad I G A L) H → va_S (vF ad s.heap.size) s.heap H locs → ∀ (ls : Array Slot), lv_has ls 10 [(7, .int a), (0, .ref (ad J)), (1, .ref (ad B)), (2, .ref (ad v)), (3, .int (nI d)), (4, .int mt)] → W p l e ({ frames := 4, cells := 0, slots := 0, locals := 150 }) s m ([.ref (ad J), .ref (ad B), .ref (ad v), .int (nI d), .int mt] : List Value).toArray below meth c H locs 0 0 (MQ below (va_Qv (fun (u : Mem) => u = (up2 (up2 (up2 I J 0 (lk I A B v nv nr d mt).1) J 1 (lk I A B v nv nr d mt).2.1) J 2 (lk I A B v nv nr d mt).2.2, G, A, L)) (vB D K ad) (vF ad s.heap.size)) ([.ref (ad J), .ref (ad B), .ref (ad v), .int (nI d), .int mt] : List Value).toArray s 0 0 (vF ad s.heap.size)) (F0 m 130 ls []) := by
        intro a hinv6 H locs hP hS ls hl
        refine lv_aload_n hx hb dX0_look_130 rfl (lv_at hl 1 rfl) ?_
        refine lv_iconst (v := 0) hx hb dX0_look_131 (by decide) ?_
        refine vpI (v := 0) (ty := .int) hx hb hts hi0 tyX0 tyX0_ok nmX0 hown hK hP hap hS (J) hJ.2.1 hJ.2.2 (C := RX0) (T := TX0) (N := 3) rfl 0 (by decide) (by decide) (by decide) (by decide) (hts (.fieldLink RX0 9 "CrateHelpers$Judge" "what" "I") (by decide +kernel)) (fun _ h9 => h9) rfl (by decide +kernel) rfl rfl dX0_look_132 (fun H locs hP hS => ?_)
        obtain ⟨I7, eI7⟩ : ∃ z, z = up2 I J 0 0 := ⟨_, rfl⟩
        rw [← eI7] at hP
        have hP : va_P D vwCl (VW K ad I7 G A L) H := hP
        refine lv_aload_n hx hb dX0_look_135 rfl (lv_at hl 1 rfl) ?_
        refine lv_bipush (v := (-9)) hx hb dX0_look_136 (by decide) ?_
        refine vpI (v := (-9)) (ty := .int) hx hb hts hi0 tyX0 tyX0_ok nmX0 hown hK hP hap hS (J) hJ.2.1 hJ.2.2 (C := RX0) (T := TX0) (N := 3) rfl 1 (by decide) (by decide) (by decide) (by decide) (hts (.fieldLink RX0 15 "CrateHelpers$Judge" "why" "I") (by decide +kernel)) (fun _ h9 => h9) rfl (by decide +kernel) rfl rfl dX0_look_138 (fun H locs hP hS => ?_)
        obtain ⟨I8, eI8⟩ : ∃ z, z = up2 I7 J 1 (-9) := ⟨_, rfl⟩
        rw [← eI8] at hP
        have hP : va_P D vwCl (VW K ad I8 G A L) H := hP
        refine lv_aload_n hx hb dX0_look_141 rfl (lv_at hl 1 rfl) ?_
        refine lv_iload hx hb dX0_look_142 (lv_at hl 0 rfl) ?_
        refine vpI (v := a) (ty := .int) hx hb hts hi0 tyX0 tyX0_ok nmX0 hown hK hP hap hS (J) hJ.2.1 hJ.2.2 (C := RX0) (T := TX0) (N := 3) rfl 2 (by decide) (by decide) (by decide) (by decide) (hts (.fieldLink RX0 19 "CrateHelpers$Judge" "bound" "I") (by decide +kernel)) (fun _ h9 => h9) rfl (by decide +kernel) rfl rfl dX0_look_144 (fun H locs hP hS => ?_)
        obtain ⟨I9, eI9⟩ : ∃ z, z = up2 I8 J 2 a := ⟨_, rfl⟩
        rw [← eI9] at hP
        have hP : va_P D vwCl (VW K ad I9 G A L) H := hP
        exact W.vret hx hb hr (fun t ht hW => ⟨⟨(I9, G, A, L), rfl, by rw [eI9, eI8, eI7, hinv6], by rw [ht]; exact hP, va_K.moved hW.alike hK⟩, hS.F ht⟩) hS.2.2 dX0_look_147
      have lp6 : ∀ (k6 i : Nat) (a : Int32), i + k6 = nv → bnd I A B v nr d k6 i a = lk I A B v nv nr d mt → ∀ (H : Heap) (locs : List Loc), va_P D vwCl (VW K ad I G A L) H → va_S (vF ad s.heap.size) s.heap H locs → ∀ (ls : Array Slot), lv_has ls 10 [(8, .int (nI i)), (7, .int a), (0, .ref (ad J)), (1, .ref (ad B)), (2, .ref (ad v)), (3, .int (nI d)), (4, .int mt)] → W p l e ({ frames := 4, cells := 0, slots := 0, locals := 150 }) s m ([.ref (ad J), .ref (ad B), .ref (ad v), .int (nI d), .int mt] : List Value).toArray below meth c H locs 0 0 (MQ below (va_Qv (fun (u : Mem) => u = (up2 (up2 (up2 I J 0 (lk I A B v nv nr d mt).1) J 1 (lk I A B v nv nr d mt).2.1) J 2 (lk I A B v nv nr d mt).2.2, G, A, L)) (vB D K ad) (vF ad s.heap.size)) ([.ref (ad J), .ref (ad B), .ref (ad v), .int (nI d), .int mt] : List Value).toArray s 0 0 (vF ad s.heap.size)) (F0 m 63 ls []) := by
        intro k6
        induction k6 with
        | zero =>
          intro i a hk6 hinv6 H locs hP hS ls hl
          obtain rfl : nv = i := by omega
          refine lv_iload hx hb dX0_look_63 (lv_at hl 0 rfl) ?_
          refine lv_aload_n hx hb dX0_look_65 rfl (lv_at hl 3 rfl) ?_
          refine vgI hx hb hts hi1 hown hK hP (B) (by have := (pr_o hB).1; omega) (pr_o hB).2.1 (C := RX1) (T := TX1) (N := 9) rfl 0 (by decide) (by decide) (by decide) (by decide) (hts (.fieldLink RX0 36 "CrateHelpers$Problem" "variables" "I") (by decide +kernel)) (fun _ h9 => h9) dX0_look_66 ?_
          rw [hBv]
          refine lv_icmp_ge (tgt := 130) hx hb dX0_look_69 (by decide) (fun _ => ?_) (fun c_10 => absurd (nI_le (Nat.le_refl _) (by omega)) c_10)
          exact kx6 a (hinv6.symm) H locs hP hS ls (lv_sub hl [1, 2, 3, 4, 5, 6] rfl)
        | succ k6 ih6 =>
          intro i a hk6 hinv6 H locs hP hS ls hl
          have hlt6 : i < nv := by omega
          have hiv : vp_in (nI i) (ln v) := by rw [hv.2.2]; exact vp_in_nI (by omega) (by omega)
          have hi3 : vp_in (nI i) (ln (B + 3)) := by rw [(pr_o hB).2.2.2.2.2.2.2.2.2.1]; exact vp_in_nI (by omega) (by omega)
          refine lv_iload hx hb dX0_look_63 (lv_at hl 0 rfl) ?_
          refine lv_aload_n hx hb dX0_look_65 rfl (lv_at hl 3 rfl) ?_
          refine vgI hx hb hts hi1 hown hK hP (B) (by have := (pr_o hB).1; omega) (pr_o hB).2.1 (C := RX1) (T := TX1) (N := 9) rfl 0 (by decide) (by decide) (by decide) (by decide) (hts (.fieldLink RX0 36 "CrateHelpers$Problem" "variables" "I") (by decide +kernel)) (fun _ h9 => h9) dX0_look_66 ?_
          rw [hBv]
          refine lv_icmp_ge (tgt := 130) hx hb dX0_look_69 (by decide) (fun c_11 => absurd c_11 (nI_ge (by omega) (by omega))) (fun _ => ?_)
          refine lv_iload hx hb dX0_look_72 (lv_at hl 0 rfl) ?_
          refine lv_iload_n hx hb dX0_look_74 rfl (lv_at hl 5 rfl) ?_
          refine lv_icmp_ge (tgt := 93) hx hb dX0_look_75 (by decide) (fun c_12 => ?_) (fun c_12 => ?_)
          · have hdi : d ≤ i := (nI_leI (by omega) (by omega)).mp c_12
            have hlb : lbd I A B v nr d i = lcs I A B v i nr (szo A B i) 0 (-1000000) := if_neg (by omega)
            refine lv_aload_n hx hb dX0_look_93 rfl (lv_at hl 3 rfl) ?_
            refine lv_aload_n hx hb dX0_look_94 rfl (lv_at hl 4 rfl) ?_
            refine lv_iload hx hb dX0_look_95 (lv_at hl 0 rfl) ?_
            refine vcV (As := [.ref (ad v), .int (nI i)]) (rest := []) ⟨hx, hb, hml, hown, hts⟩ (c_X1_leastCost l D K ad hap0 B v nv nr i (szo A B i) hB hv hvB (by omega) (pr_sz hw (by omega)).2.2 I G A L hw (pr_sz hw (by omega)).1 (hro.2 i hdi (by omega))) (cwV 2 hts gX0_look_X1_leastCost rfl rfl rfl (by decide +kernel) ⟨Nat.le_of_ble_eq_true rfl, Nat.le_of_ble_eq_true rfl⟩) hK hP hS (by have := (pr_o hB).1; omega) (pr_o hB).2.1 (by decide) rfl rfl rfl hl.1 (Nat.le_of_ble_eq_true rfl) (Nat.le_of_ble_eq_true rfl) (Nat.le_of_ble_eq_true rfl) dX0_look_97 (fun r13 u14 H locs hw hP hS => ?_) rfl
            obtain ⟨hr13, rfl⟩ := hw
            have hP : va_P D vwCl (VW K ad I G A L) H := hP
            subst hr13
            refine lv_istore (lv' := [(9, .int (lcs I A B v i nr (szo A B i) 0 (-1000000))), (8, .int (nI i)), (7, .int a), (0, .ref (ad J)), (1, .ref (ad B)), (2, .ref (ad v)), (3, .int (nI d)), (4, .int mt)]) hx hb dX0_look_100 hl (by decide) rfl (fun ls hl => ?_)
            refine lv_iload hx hb dX0_look_102 (lv_at hl 0 rfl) ?_
            refine lv_ldc (v := (-1000000)) hx hb hown (hts (.constant RX0 18 (-1000000)) (by decide +kernel)) dX0_look_104 ?_
            refine lv_icmp_ne (tgt := 117) hx hb dX0_look_106 (by decide) (fun c_15 => ?_) (fun c_15 => ?_)
            · refine lv_iload hx hb dX0_look_117 (lv_at hl 2 rfl) ?_
              refine lv_iload hx hb dX0_look_119 (lv_at hl 0 rfl) ?_
              refine lv_iadd hx hb dX0_look_121 ?_
              refine lv_istore (lv' := [(7, .int (a + (lcs I A B v i nr (szo A B i) 0 (-1000000)))), (9, .int (lcs I A B v i nr (szo A B i) 0 (-1000000))), (8, .int (nI i)), (0, .ref (ad J)), (1, .ref (ad B)), (2, .ref (ad v)), (3, .int (nI d)), (4, .int mt)]) hx hb dX0_look_122 hl (by decide) rfl (fun ls hl => ?_)
              refine lv_iinc (v := (nI (i + 1))) (lv' := [(8, .int (nI (i + 1))), (7, .int (a + (lcs I A B v i nr (szo A B i) 0 (-1000000)))), (9, .int (lcs I A B v i nr (szo A B i) 0 (-1000000))), (0, .ref (ad J)), (1, .ref (ad B)), (2, .ref (ad v)), (3, .int (nI d)), (4, .int mt)]) hx hb dX0_look_124 hl (k := 2) rfl (nI_1 i) (by decide) rfl (fun ls hl => ?_)
              refine lv_goto (tgt := 63) hx hb dX0_look_127 (by decide) ?_
              exact ih6 (i + 1) (a + (lcs I A B v i nr (szo A B i) 0 (-1000000))) (by omega) (by rw [← hinv6]; simp [bnd, hlb, c_15]) H locs hP hS ls (lv_sub hl [0, 1, 3, 4, 5, 6, 7] rfl)
            · refine lv_aload_n hx hb dX0_look_109 rfl (lv_at hl 3 rfl) ?_
              refine lv_iconst (v := 3) hx hb dX0_look_110 (by decide) ?_
              refine lv_iload hx hb dX0_look_111 (lv_at hl 1 rfl) ?_
              refine vcVv (As := [.int 3, .int (nI i)]) (rest := []) ⟨hx, hb, hml, hown, hts⟩ (c_X0_close l D K ad hap0 J 3 (nI i) hJ I G A L) (cwV 2 hts gX0_look_X0_close rfl rfl rfl (by decide +kernel) ⟨Nat.le_of_ble_eq_true rfl, Nat.le_of_ble_eq_true rfl⟩) hK hP hS hJ.2.1 hJ.2.2 (by decide) rfl rfl rfl hl.1 (Nat.le_of_ble_eq_true rfl) (Nat.le_of_ble_eq_true rfl) (Nat.le_of_ble_eq_true rfl) dX0_look_113 (fun u17 H locs hw hP hS => ?_) rfl
              obtain ⟨I18, G19, A20, L21⟩ := u17
              have hP : va_P D vwCl (VW K ad I18 G19 A20 L21) H := hP
              exact W.vret hx hb hr (fun t ht hW => ⟨⟨(I18, G19, A20, L21), rfl, hw.trans (by rw [show lk I A B v nv nr d mt = (3, (nI i), -1000000) from by rw [← hinv6]; simp [bnd, hlb, c_15]]), by rw [ht]; exact hP, va_K.moved hW.alike hK⟩, hS.F ht⟩) hS.2.2 dX0_look_116
          · have hdi : i < d := by { rcases Nat.lt_or_ge i d with h | h; exact h; exact absurd (nI_le h (by omega)) c_12 }
            have hlb : lbd I A B v nr d i = A (B + 4 + i) (A v i).toNatClampNeg := if_pos hdi
            have hi4 : vp_in (A v i) (ln (B + 4 + i)) := by rw [(pr_row (x := i) hB (by omega)).2]; exact in_le (hro.1 i hdi) (pr_sz hw (by omega)).2.2
            refine lv_aload_n hx hb dX0_look_78 rfl (lv_at hl 3 rfl) ?_
            refine vgS hx hb hts hi1 hown hK hP (B) (by have := (pr_o hB).1; omega) (pr_o hB).2.1 (C := RX1) (T := TX1) (N := 9) rfl 6 (by decide) (by decide) (by decide) (by decide) (B + 3) rfl (hts (.fieldLink RX0 39 "CrateHelpers$Problem" "prices" "[[I") (by decide +kernel)) (fun _ h9 => h9) dX0_look_79 ?_
            refine lv_iload hx hb dX0_look_82 (lv_at hl 0 rfl) ?_
            refine xgald hx hb hK hP (B + 3) (by have := (pr_o hB).1; omega) (pr_o hB).2.2.2.2.1 hi3 (B + 4 + i) (by rw [rf15 (pr_o hB).2.2.2.2.1]; rw [nI_clamp (by omega)]) dX0_look_84 ?_
            refine lv_aload_n hx hb dX0_look_85 rfl (lv_at hl 4 rfl) ?_
            refine lv_iload hx hb dX0_look_86 (lv_at hl 0 rfl) ?_
            refine xiald hx hb hK hP (v) hv.1 hv.2.1 hiv dX0_look_88 ?_
            rw [nI_clamp (n := i) (by omega)]
            refine xiald hx hb hK hP (B + 4 + i) (by have := (pr_o hB).1; omega) (pr_row (x := i) hB (by omega)).1 hi4 dX0_look_89 ?_
            refine lv_goto (tgt := 100) hx hb dX0_look_90 (by decide) ?_
            refine lv_istore (lv' := [(9, .int (A (B + 4 + i) ((A v i).toNatClampNeg))), (8, .int (nI i)), (7, .int a), (0, .ref (ad J)), (1, .ref (ad B)), (2, .ref (ad v)), (3, .int (nI d)), (4, .int mt)]) hx hb dX0_look_100 hl (by decide) rfl (fun ls hl => ?_)
            refine lv_iload hx hb dX0_look_102 (lv_at hl 0 rfl) ?_
            refine lv_ldc (v := (-1000000)) hx hb hown (hts (.constant RX0 18 (-1000000)) (by decide +kernel)) dX0_look_104 ?_
            refine lv_icmp_ne (tgt := 117) hx hb dX0_look_106 (by decide) (fun c_22 => ?_) (fun c_22 => ?_)
            · refine lv_iload hx hb dX0_look_117 (lv_at hl 2 rfl) ?_
              refine lv_iload hx hb dX0_look_119 (lv_at hl 0 rfl) ?_
              refine lv_iadd hx hb dX0_look_121 ?_
              refine lv_istore (lv' := [(7, .int (a + (A (B + 4 + i) ((A v i).toNatClampNeg)))), (9, .int (A (B + 4 + i) ((A v i).toNatClampNeg))), (8, .int (nI i)), (0, .ref (ad J)), (1, .ref (ad B)), (2, .ref (ad v)), (3, .int (nI d)), (4, .int mt)]) hx hb dX0_look_122 hl (by decide) rfl (fun ls hl => ?_)
              refine lv_iinc (v := (nI (i + 1))) (lv' := [(8, .int (nI (i + 1))), (7, .int (a + (A (B + 4 + i) ((A v i).toNatClampNeg)))), (9, .int (A (B + 4 + i) ((A v i).toNatClampNeg))), (0, .ref (ad J)), (1, .ref (ad B)), (2, .ref (ad v)), (3, .int (nI d)), (4, .int mt)]) hx hb dX0_look_124 hl (k := 2) rfl (nI_1 i) (by decide) rfl (fun ls hl => ?_)
              refine lv_goto (tgt := 63) hx hb dX0_look_127 (by decide) ?_
              exact ih6 (i + 1) (a + (A (B + 4 + i) ((A v i).toNatClampNeg))) (by omega) (by rw [← hinv6]; simp [bnd, hlb, c_22]) H locs hP hS ls (lv_sub hl [0, 1, 3, 4, 5, 6, 7] rfl)
            · refine lv_aload_n hx hb dX0_look_109 rfl (lv_at hl 3 rfl) ?_
              refine lv_iconst (v := 3) hx hb dX0_look_110 (by decide) ?_
              refine lv_iload hx hb dX0_look_111 (lv_at hl 1 rfl) ?_
              refine vcVv (As := [.int 3, .int (nI i)]) (rest := []) ⟨hx, hb, hml, hown, hts⟩ (c_X0_close l D K ad hap0 J 3 (nI i) hJ I G A L) (cwV 2 hts gX0_look_X0_close rfl rfl rfl (by decide +kernel) ⟨Nat.le_of_ble_eq_true rfl, Nat.le_of_ble_eq_true rfl⟩) hK hP hS hJ.2.1 hJ.2.2 (by decide) rfl rfl rfl hl.1 (Nat.le_of_ble_eq_true rfl) (Nat.le_of_ble_eq_true rfl) (Nat.le_of_ble_eq_true rfl) dX0_look_113 (fun u24 H locs hw hP hS => ?_) rfl
              obtain ⟨I25, G26, A27, L28⟩ := u24
              have hP : va_P D vwCl (VW K ad I25 G26 A27 L28) H := hP
              exact W.vret hx hb hr (fun t ht hW => ⟨⟨(I25, G26, A27, L28), rfl, hw.trans (by rw [show lk I A B v nv nr d mt = (3, (nI i), -1000000) from by rw [← hinv6]; simp [bnd, hlb, c_22]]), by rw [ht]; exact hP, va_K.moved hW.alike hK⟩, hS.F ht⟩) hS.2.2 dX0_look_116
      exact lp6 (nv) 0 0 (by omega) (by simp [lk, c_3, c_4]) _ _ hP hS ls (lv_sub hl [0, 1, 4, 5, 6, 7, 8] rfl)
    · refine lv_aload_n hx hb dX0_look_27 rfl (lv_at hl 2 rfl) ?_
      refine lv_aload_n hx hb dX0_look_28 rfl (lv_at hl 3 rfl) ?_
      refine lv_iload_n hx hb dX0_look_29 rfl (lv_at hl 4 rfl) ?_
      refine lv_iconst (v := 1) hx hb dX0_look_30 (by decide) ?_
      refine lv_isub hx hb dX0_look_31 ?_
      by_cases hd0 : d = 0
      · rw [show (nI d) - 1 = (-1 : Int32) by rw [hd0]; decide]
        refine vcV (As := [.ref (ad v), .int (-1)]) (rest := []) ⟨hx, hb, hml, hown, hts⟩ (c_X1_firstTwin0 l D K ad hap0 B v I G A L) (cwV 2 hts gX0_look_X1_firstTwin rfl rfl rfl (by decide +kernel) ⟨Nat.le_of_ble_eq_true rfl, Nat.le_of_ble_eq_true rfl⟩) hK hP hS (by have := (pr_o hB).1; omega) (pr_o hB).2.1 (by decide) rfl rfl rfl hl.1 (Nat.le_of_ble_eq_true rfl) (Nat.le_of_ble_eq_true rfl) (Nat.le_of_ble_eq_true rfl) dX0_look_32 (fun r29 u30 H locs hw hP hS => ?_) rfl
        obtain ⟨hr29, rfl⟩ := hw
        have hP : va_P D vwCl (VW K ad I G A L) H := hP
        subst hr29
        refine lv_goto (tgt := 40) hx hb dX0_look_35 (by decide) ?_
        refine lv_istore (lv' := [(6, .int (-9)), (5, .int (fbk I A B v nr)), (0, .ref (ad J)), (1, .ref (ad B)), (2, .ref (ad v)), (3, .int (nI d)), (4, .int mt)]) hx hb dX0_look_40 hl (by decide) rfl (fun ls hl => ?_)
        refine lv_iload hx hb dX0_look_42 (lv_at hl 0 rfl) ?_
        refine lv_bipush (v := (-9)) hx hb dX0_look_44 (by decide) ?_
        refine lv_icmp_eq (tgt := 57) hx hb dX0_look_46 (by decide) (fun _ => ?_) (fun c_31 => absurd c_31 (by decide))
        refine lv_iconst (v := 0) hx hb dX0_look_57 (by decide) ?_
        refine lv_istore (lv' := [(7, .int 0), (6, .int (-9)), (5, .int (fbk I A B v nr)), (0, .ref (ad J)), (1, .ref (ad B)), (2, .ref (ad v)), (3, .int (nI d)), (4, .int mt)]) hx hb dX0_look_58 hl (by decide) rfl (fun ls hl => ?_)
        refine lv_iconst (v := 0) hx hb dX0_look_60 (by decide) ?_
        refine lv_istore (lv' := [(8, .int 0), (7, .int 0), (6, .int (-9)), (5, .int (fbk I A B v nr)), (0, .ref (ad J)), (1, .ref (ad B)), (2, .ref (ad v)), (3, .int (nI d)), (4, .int mt)]) hx hb dX0_look_61 hl (by decide) rfl (fun ls hl => ?_)
        have kx32 : ∀ (a : Int32), lk I A B v nv nr d mt = (0, -9, a) → ∀ (H : Heap) (locs : List Loc), va_P D vwCl (VW K ad I G A L) H → va_S (vF ad s.heap.size) s.heap H locs → ∀ (ls : Array Slot), lv_has ls 10 [(7, .int a), (0, .ref (ad J)), (1, .ref (ad B)), (2, .ref (ad v)), (3, .int (nI d)), (4, .int mt)] → W p l e ({ frames := 4, cells := 0, slots := 0, locals := 150 }) s m ([.ref (ad J), .ref (ad B), .ref (ad v), .int (nI d), .int mt] : List Value).toArray below meth c H locs 0 0 (MQ below (va_Qv (fun (u : Mem) => u = (up2 (up2 (up2 I J 0 (lk I A B v nv nr d mt).1) J 1 (lk I A B v nv nr d mt).2.1) J 2 (lk I A B v nv nr d mt).2.2, G, A, L)) (vB D K ad) (vF ad s.heap.size)) ([.ref (ad J), .ref (ad B), .ref (ad v), .int (nI d), .int mt] : List Value).toArray s 0 0 (vF ad s.heap.size)) (F0 m 130 ls []) := by
          intro a hinv32 H locs hP hS ls hl
          refine lv_aload_n hx hb dX0_look_130 rfl (lv_at hl 1 rfl) ?_
          refine lv_iconst (v := 0) hx hb dX0_look_131 (by decide) ?_
          refine vpI (v := 0) (ty := .int) hx hb hts hi0 tyX0 tyX0_ok nmX0 hown hK hP hap hS (J) hJ.2.1 hJ.2.2 (C := RX0) (T := TX0) (N := 3) rfl 0 (by decide) (by decide) (by decide) (by decide) (hts (.fieldLink RX0 9 "CrateHelpers$Judge" "what" "I") (by decide +kernel)) (fun _ h9 => h9) rfl (by decide +kernel) rfl rfl dX0_look_132 (fun H locs hP hS => ?_)
          obtain ⟨I33, eI33⟩ : ∃ z, z = up2 I J 0 0 := ⟨_, rfl⟩
          rw [← eI33] at hP
          have hP : va_P D vwCl (VW K ad I33 G A L) H := hP
          refine lv_aload_n hx hb dX0_look_135 rfl (lv_at hl 1 rfl) ?_
          refine lv_bipush (v := (-9)) hx hb dX0_look_136 (by decide) ?_
          refine vpI (v := (-9)) (ty := .int) hx hb hts hi0 tyX0 tyX0_ok nmX0 hown hK hP hap hS (J) hJ.2.1 hJ.2.2 (C := RX0) (T := TX0) (N := 3) rfl 1 (by decide) (by decide) (by decide) (by decide) (hts (.fieldLink RX0 15 "CrateHelpers$Judge" "why" "I") (by decide +kernel)) (fun _ h9 => h9) rfl (by decide +kernel) rfl rfl dX0_look_138 (fun H locs hP hS => ?_)
          obtain ⟨I34, eI34⟩ : ∃ z, z = up2 I33 J 1 (-9) := ⟨_, rfl⟩
          rw [← eI34] at hP
          have hP : va_P D vwCl (VW K ad I34 G A L) H := hP
          refine lv_aload_n hx hb dX0_look_141 rfl (lv_at hl 1 rfl) ?_
          refine lv_iload hx hb dX0_look_142 (lv_at hl 0 rfl) ?_
          refine vpI (v := a) (ty := .int) hx hb hts hi0 tyX0 tyX0_ok nmX0 hown hK hP hap hS (J) hJ.2.1 hJ.2.2 (C := RX0) (T := TX0) (N := 3) rfl 2 (by decide) (by decide) (by decide) (by decide) (hts (.fieldLink RX0 19 "CrateHelpers$Judge" "bound" "I") (by decide +kernel)) (fun _ h9 => h9) rfl (by decide +kernel) rfl rfl dX0_look_144 (fun H locs hP hS => ?_)
          obtain ⟨I35, eI35⟩ : ∃ z, z = up2 I34 J 2 a := ⟨_, rfl⟩
          rw [← eI35] at hP
          have hP : va_P D vwCl (VW K ad I35 G A L) H := hP
          exact W.vret hx hb hr (fun t ht hW => ⟨⟨(I35, G, A, L), rfl, by rw [eI35, eI34, eI33, hinv32], by rw [ht]; exact hP, va_K.moved hW.alike hK⟩, hS.F ht⟩) hS.2.2 dX0_look_147
        have lp32 : ∀ (k32 i : Nat) (a : Int32), i + k32 = nv → bnd I A B v nr d k32 i a = lk I A B v nv nr d mt → ∀ (H : Heap) (locs : List Loc), va_P D vwCl (VW K ad I G A L) H → va_S (vF ad s.heap.size) s.heap H locs → ∀ (ls : Array Slot), lv_has ls 10 [(8, .int (nI i)), (7, .int a), (0, .ref (ad J)), (1, .ref (ad B)), (2, .ref (ad v)), (3, .int (nI d)), (4, .int mt)] → W p l e ({ frames := 4, cells := 0, slots := 0, locals := 150 }) s m ([.ref (ad J), .ref (ad B), .ref (ad v), .int (nI d), .int mt] : List Value).toArray below meth c H locs 0 0 (MQ below (va_Qv (fun (u : Mem) => u = (up2 (up2 (up2 I J 0 (lk I A B v nv nr d mt).1) J 1 (lk I A B v nv nr d mt).2.1) J 2 (lk I A B v nv nr d mt).2.2, G, A, L)) (vB D K ad) (vF ad s.heap.size)) ([.ref (ad J), .ref (ad B), .ref (ad v), .int (nI d), .int mt] : List Value).toArray s 0 0 (vF ad s.heap.size)) (F0 m 63 ls []) := by
          intro k32
          induction k32 with
          | zero =>
            intro i a hk32 hinv32 H locs hP hS ls hl
            obtain rfl : nv = i := by omega
            refine lv_iload hx hb dX0_look_63 (lv_at hl 0 rfl) ?_
            refine lv_aload_n hx hb dX0_look_65 rfl (lv_at hl 3 rfl) ?_
            refine vgI hx hb hts hi1 hown hK hP (B) (by have := (pr_o hB).1; omega) (pr_o hB).2.1 (C := RX1) (T := TX1) (N := 9) rfl 0 (by decide) (by decide) (by decide) (by decide) (hts (.fieldLink RX0 36 "CrateHelpers$Problem" "variables" "I") (by decide +kernel)) (fun _ h9 => h9) dX0_look_66 ?_
            rw [hBv]
            refine lv_icmp_ge (tgt := 130) hx hb dX0_look_69 (by decide) (fun _ => ?_) (fun c_36 => absurd (nI_le (Nat.le_refl _) (by omega)) c_36)
            exact kx32 a (hinv32.symm) H locs hP hS ls (lv_sub hl [1, 2, 3, 4, 5, 6] rfl)
          | succ k32 ih32 =>
            intro i a hk32 hinv32 H locs hP hS ls hl
            have hlt32 : i < nv := by omega
            have hiv : vp_in (nI i) (ln v) := by rw [hv.2.2]; exact vp_in_nI (by omega) (by omega)
            have hi3 : vp_in (nI i) (ln (B + 3)) := by rw [(pr_o hB).2.2.2.2.2.2.2.2.2.1]; exact vp_in_nI (by omega) (by omega)
            refine lv_iload hx hb dX0_look_63 (lv_at hl 0 rfl) ?_
            refine lv_aload_n hx hb dX0_look_65 rfl (lv_at hl 3 rfl) ?_
            refine vgI hx hb hts hi1 hown hK hP (B) (by have := (pr_o hB).1; omega) (pr_o hB).2.1 (C := RX1) (T := TX1) (N := 9) rfl 0 (by decide) (by decide) (by decide) (by decide) (hts (.fieldLink RX0 36 "CrateHelpers$Problem" "variables" "I") (by decide +kernel)) (fun _ h9 => h9) dX0_look_66 ?_
            rw [hBv]
            refine lv_icmp_ge (tgt := 130) hx hb dX0_look_69 (by decide) (fun c_37 => absurd c_37 (nI_ge (by omega) (by omega))) (fun _ => ?_)
            refine lv_iload hx hb dX0_look_72 (lv_at hl 0 rfl) ?_
            refine lv_iload_n hx hb dX0_look_74 rfl (lv_at hl 5 rfl) ?_
            refine lv_icmp_ge (tgt := 93) hx hb dX0_look_75 (by decide) (fun c_38 => ?_) (fun c_38 => ?_)
            · have hdi : d ≤ i := (nI_leI (by omega) (by omega)).mp c_38
              have hlb : lbd I A B v nr d i = lcs I A B v i nr (szo A B i) 0 (-1000000) := if_neg (by omega)
              refine lv_aload_n hx hb dX0_look_93 rfl (lv_at hl 3 rfl) ?_
              refine lv_aload_n hx hb dX0_look_94 rfl (lv_at hl 4 rfl) ?_
              refine lv_iload hx hb dX0_look_95 (lv_at hl 0 rfl) ?_
              refine vcV (As := [.ref (ad v), .int (nI i)]) (rest := []) ⟨hx, hb, hml, hown, hts⟩ (c_X1_leastCost l D K ad hap0 B v nv nr i (szo A B i) hB hv hvB (by omega) (pr_sz hw (by omega)).2.2 I G A L hw (pr_sz hw (by omega)).1 (hro.2 i hdi (by omega))) (cwV 2 hts gX0_look_X1_leastCost rfl rfl rfl (by decide +kernel) ⟨Nat.le_of_ble_eq_true rfl, Nat.le_of_ble_eq_true rfl⟩) hK hP hS (by have := (pr_o hB).1; omega) (pr_o hB).2.1 (by decide) rfl rfl rfl hl.1 (Nat.le_of_ble_eq_true rfl) (Nat.le_of_ble_eq_true rfl) (Nat.le_of_ble_eq_true rfl) dX0_look_97 (fun r39 u40 H locs hw hP hS => ?_) rfl
              obtain ⟨hr39, rfl⟩ := hw
              have hP : va_P D vwCl (VW K ad I G A L) H := hP
              subst hr39
              refine lv_istore (lv' := [(9, .int (lcs I A B v i nr (szo A B i) 0 (-1000000))), (8, .int (nI i)), (7, .int a), (0, .ref (ad J)), (1, .ref (ad B)), (2, .ref (ad v)), (3, .int (nI d)), (4, .int mt)]) hx hb dX0_look_100 hl (by decide) rfl (fun ls hl => ?_)
              refine lv_iload hx hb dX0_look_102 (lv_at hl 0 rfl) ?_
              refine lv_ldc (v := (-1000000)) hx hb hown (hts (.constant RX0 18 (-1000000)) (by decide +kernel)) dX0_look_104 ?_
              refine lv_icmp_ne (tgt := 117) hx hb dX0_look_106 (by decide) (fun c_41 => ?_) (fun c_41 => ?_)
              · refine lv_iload hx hb dX0_look_117 (lv_at hl 2 rfl) ?_
                refine lv_iload hx hb dX0_look_119 (lv_at hl 0 rfl) ?_
                refine lv_iadd hx hb dX0_look_121 ?_
                refine lv_istore (lv' := [(7, .int (a + (lcs I A B v i nr (szo A B i) 0 (-1000000)))), (9, .int (lcs I A B v i nr (szo A B i) 0 (-1000000))), (8, .int (nI i)), (0, .ref (ad J)), (1, .ref (ad B)), (2, .ref (ad v)), (3, .int (nI d)), (4, .int mt)]) hx hb dX0_look_122 hl (by decide) rfl (fun ls hl => ?_)
                refine lv_iinc (v := (nI (i + 1))) (lv' := [(8, .int (nI (i + 1))), (7, .int (a + (lcs I A B v i nr (szo A B i) 0 (-1000000)))), (9, .int (lcs I A B v i nr (szo A B i) 0 (-1000000))), (0, .ref (ad J)), (1, .ref (ad B)), (2, .ref (ad v)), (3, .int (nI d)), (4, .int mt)]) hx hb dX0_look_124 hl (k := 2) rfl (nI_1 i) (by decide) rfl (fun ls hl => ?_)
                refine lv_goto (tgt := 63) hx hb dX0_look_127 (by decide) ?_
                exact ih32 (i + 1) (a + (lcs I A B v i nr (szo A B i) 0 (-1000000))) (by omega) (by rw [← hinv32]; simp [bnd, hlb, c_41]) H locs hP hS ls (lv_sub hl [0, 1, 3, 4, 5, 6, 7] rfl)
              · refine lv_aload_n hx hb dX0_look_109 rfl (lv_at hl 3 rfl) ?_
                refine lv_iconst (v := 3) hx hb dX0_look_110 (by decide) ?_
                refine lv_iload hx hb dX0_look_111 (lv_at hl 1 rfl) ?_
                refine vcVv (As := [.int 3, .int (nI i)]) (rest := []) ⟨hx, hb, hml, hown, hts⟩ (c_X0_close l D K ad hap0 J 3 (nI i) hJ I G A L) (cwV 2 hts gX0_look_X0_close rfl rfl rfl (by decide +kernel) ⟨Nat.le_of_ble_eq_true rfl, Nat.le_of_ble_eq_true rfl⟩) hK hP hS hJ.2.1 hJ.2.2 (by decide) rfl rfl rfl hl.1 (Nat.le_of_ble_eq_true rfl) (Nat.le_of_ble_eq_true rfl) (Nat.le_of_ble_eq_true rfl) dX0_look_113 (fun u43 H locs hw hP hS => ?_) rfl
                obtain ⟨I44, G45, A46, L47⟩ := u43
                have hP : va_P D vwCl (VW K ad I44 G45 A46 L47) H := hP
                exact W.vret hx hb hr (fun t ht hW => ⟨⟨(I44, G45, A46, L47), rfl, hw.trans (by rw [show lk I A B v nv nr d mt = (3, (nI i), -1000000) from by rw [← hinv32]; simp [bnd, hlb, c_41]]), by rw [ht]; exact hP, va_K.moved hW.alike hK⟩, hS.F ht⟩) hS.2.2 dX0_look_116
            · have hdi : i < d := by { rcases Nat.lt_or_ge i d with h | h; exact h; exact absurd (nI_le h (by omega)) c_38 }
              have hlb : lbd I A B v nr d i = A (B + 4 + i) (A v i).toNatClampNeg := if_pos hdi
              have hi4 : vp_in (A v i) (ln (B + 4 + i)) := by rw [(pr_row (x := i) hB (by omega)).2]; exact in_le (hro.1 i hdi) (pr_sz hw (by omega)).2.2
              refine lv_aload_n hx hb dX0_look_78 rfl (lv_at hl 3 rfl) ?_
              refine vgS hx hb hts hi1 hown hK hP (B) (by have := (pr_o hB).1; omega) (pr_o hB).2.1 (C := RX1) (T := TX1) (N := 9) rfl 6 (by decide) (by decide) (by decide) (by decide) (B + 3) rfl (hts (.fieldLink RX0 39 "CrateHelpers$Problem" "prices" "[[I") (by decide +kernel)) (fun _ h9 => h9) dX0_look_79 ?_
              refine lv_iload hx hb dX0_look_82 (lv_at hl 0 rfl) ?_
              refine xgald hx hb hK hP (B + 3) (by have := (pr_o hB).1; omega) (pr_o hB).2.2.2.2.1 hi3 (B + 4 + i) (by rw [rf15 (pr_o hB).2.2.2.2.1]; rw [nI_clamp (by omega)]) dX0_look_84 ?_
              refine lv_aload_n hx hb dX0_look_85 rfl (lv_at hl 4 rfl) ?_
              refine lv_iload hx hb dX0_look_86 (lv_at hl 0 rfl) ?_
              refine xiald hx hb hK hP (v) hv.1 hv.2.1 hiv dX0_look_88 ?_
              rw [nI_clamp (n := i) (by omega)]
              refine xiald hx hb hK hP (B + 4 + i) (by have := (pr_o hB).1; omega) (pr_row (x := i) hB (by omega)).1 hi4 dX0_look_89 ?_
              refine lv_goto (tgt := 100) hx hb dX0_look_90 (by decide) ?_
              refine lv_istore (lv' := [(9, .int (A (B + 4 + i) ((A v i).toNatClampNeg))), (8, .int (nI i)), (7, .int a), (0, .ref (ad J)), (1, .ref (ad B)), (2, .ref (ad v)), (3, .int (nI d)), (4, .int mt)]) hx hb dX0_look_100 hl (by decide) rfl (fun ls hl => ?_)
              refine lv_iload hx hb dX0_look_102 (lv_at hl 0 rfl) ?_
              refine lv_ldc (v := (-1000000)) hx hb hown (hts (.constant RX0 18 (-1000000)) (by decide +kernel)) dX0_look_104 ?_
              refine lv_icmp_ne (tgt := 117) hx hb dX0_look_106 (by decide) (fun c_48 => ?_) (fun c_48 => ?_)
              · refine lv_iload hx hb dX0_look_117 (lv_at hl 2 rfl) ?_
                refine lv_iload hx hb dX0_look_119 (lv_at hl 0 rfl) ?_
                refine lv_iadd hx hb dX0_look_121 ?_
                refine lv_istore (lv' := [(7, .int (a + (A (B + 4 + i) ((A v i).toNatClampNeg)))), (9, .int (A (B + 4 + i) ((A v i).toNatClampNeg))), (8, .int (nI i)), (0, .ref (ad J)), (1, .ref (ad B)), (2, .ref (ad v)), (3, .int (nI d)), (4, .int mt)]) hx hb dX0_look_122 hl (by decide) rfl (fun ls hl => ?_)
                refine lv_iinc (v := (nI (i + 1))) (lv' := [(8, .int (nI (i + 1))), (7, .int (a + (A (B + 4 + i) ((A v i).toNatClampNeg)))), (9, .int (A (B + 4 + i) ((A v i).toNatClampNeg))), (0, .ref (ad J)), (1, .ref (ad B)), (2, .ref (ad v)), (3, .int (nI d)), (4, .int mt)]) hx hb dX0_look_124 hl (k := 2) rfl (nI_1 i) (by decide) rfl (fun ls hl => ?_)
                refine lv_goto (tgt := 63) hx hb dX0_look_127 (by decide) ?_
                exact ih32 (i + 1) (a + (A (B + 4 + i) ((A v i).toNatClampNeg))) (by omega) (by rw [← hinv32]; simp [bnd, hlb, c_48]) H locs hP hS ls (lv_sub hl [0, 1, 3, 4, 5, 6, 7] rfl)
              · refine lv_aload_n hx hb dX0_look_109 rfl (lv_at hl 3 rfl) ?_
                refine lv_iconst (v := 3) hx hb dX0_look_110 (by decide) ?_
                refine lv_iload hx hb dX0_look_111 (lv_at hl 1 rfl) ?_
                refine vcVv (As := [.int 3, .int (nI i)]) (rest := []) ⟨hx, hb, hml, hown, hts⟩ (c_X0_close l D K ad hap0 J 3 (nI i) hJ I G A L) (cwV 2 hts gX0_look_X0_close rfl rfl rfl (by decide +kernel) ⟨Nat.le_of_ble_eq_true rfl, Nat.le_of_ble_eq_true rfl⟩) hK hP hS hJ.2.1 hJ.2.2 (by decide) rfl rfl rfl hl.1 (Nat.le_of_ble_eq_true rfl) (Nat.le_of_ble_eq_true rfl) (Nat.le_of_ble_eq_true rfl) dX0_look_113 (fun u50 H locs hw hP hS => ?_) rfl
                obtain ⟨I51, G52, A53, L54⟩ := u50
                have hP : va_P D vwCl (VW K ad I51 G52 A53 L54) H := hP
                exact W.vret hx hb hr (fun t ht hW => ⟨⟨(I51, G52, A53, L54), rfl, hw.trans (by rw [show lk I A B v nv nr d mt = (3, (nI i), -1000000) from by rw [← hinv32]; simp [bnd, hlb, c_48]]), by rw [ht]; exact hP, va_K.moved hW.alike hK⟩, hS.F ht⟩) hS.2.2 dX0_look_116
        exact lp32 (nv) 0 0 (by omega) (by simp [lk, c_3, c_4, hd0]) _ _ hP hS ls (lv_sub hl [0, 1, 4, 5, 6, 7, 8] rfl)
      · rw [show (nI d) - 1 = nI (d - 1) by { have h := nI_pred (d - 1); rwa [Nat.sub_add_cancel (by omega)] at h }]
        refine vcV (As := [.ref (ad v), .int (nI (d - 1))]) (rest := []) ⟨hx, hb, hml, hown, hts⟩ (c_X1_firstTwin l D K ad hap0 B v nv nr (d - 1) hB hv (by omega) I G A L hw) (cwV 2 hts gX0_look_X1_firstTwin rfl rfl rfl (by decide +kernel) ⟨Nat.le_of_ble_eq_true rfl, Nat.le_of_ble_eq_true rfl⟩) hK hP hS (by have := (pr_o hB).1; omega) (pr_o hB).2.1 (by decide) rfl rfl rfl hl.1 (Nat.le_of_ble_eq_true rfl) (Nat.le_of_ble_eq_true rfl) (Nat.le_of_ble_eq_true rfl) dX0_look_32 (fun r55 u56 H locs hw hP hS => ?_) rfl
        obtain ⟨hr55, rfl⟩ := hw
        have hP : va_P D vwCl (VW K ad I G A L) H := hP
        subst hr55
        refine lv_goto (tgt := 40) hx hb dX0_look_35 (by decide) ?_
        refine lv_istore (lv' := [(6, .int (ftw I A B v nr (d - 1))), (5, .int (fbk I A B v nr)), (0, .ref (ad J)), (1, .ref (ad B)), (2, .ref (ad v)), (3, .int (nI d)), (4, .int mt)]) hx hb dX0_look_40 hl (by decide) rfl (fun ls hl => ?_)
        refine lv_iload hx hb dX0_look_42 (lv_at hl 0 rfl) ?_
        refine lv_bipush (v := (-9)) hx hb dX0_look_44 (by decide) ?_
        refine lv_icmp_eq (tgt := 57) hx hb dX0_look_46 (by decide) (fun c_57 => ?_) (fun c_57 => ?_)
        · refine lv_iconst (v := 0) hx hb dX0_look_57 (by decide) ?_
          refine lv_istore (lv' := [(7, .int 0), (6, .int (ftw I A B v nr (d - 1))), (5, .int (fbk I A B v nr)), (0, .ref (ad J)), (1, .ref (ad B)), (2, .ref (ad v)), (3, .int (nI d)), (4, .int mt)]) hx hb dX0_look_58 hl (by decide) rfl (fun ls hl => ?_)
          refine lv_iconst (v := 0) hx hb dX0_look_60 (by decide) ?_
          refine lv_istore (lv' := [(8, .int 0), (7, .int 0), (6, .int (ftw I A B v nr (d - 1))), (5, .int (fbk I A B v nr)), (0, .ref (ad J)), (1, .ref (ad B)), (2, .ref (ad v)), (3, .int (nI d)), (4, .int mt)]) hx hb dX0_look_61 hl (by decide) rfl (fun ls hl => ?_)
          have kx58 : ∀ (a : Int32), lk I A B v nv nr d mt = (0, -9, a) → ∀ (H : Heap) (locs : List Loc), va_P D vwCl (VW K ad I G A L) H → va_S (vF ad s.heap.size) s.heap H locs → ∀ (ls : Array Slot), lv_has ls 10 [(7, .int a), (0, .ref (ad J)), (1, .ref (ad B)), (2, .ref (ad v)), (3, .int (nI d)), (4, .int mt)] → W p l e ({ frames := 4, cells := 0, slots := 0, locals := 150 }) s m ([.ref (ad J), .ref (ad B), .ref (ad v), .int (nI d), .int mt] : List Value).toArray below meth c H locs 0 0 (MQ below (va_Qv (fun (u : Mem) => u = (up2 (up2 (up2 I J 0 (lk I A B v nv nr d mt).1) J 1 (lk I A B v nv nr d mt).2.1) J 2 (lk I A B v nv nr d mt).2.2, G, A, L)) (vB D K ad) (vF ad s.heap.size)) ([.ref (ad J), .ref (ad B), .ref (ad v), .int (nI d), .int mt] : List Value).toArray s 0 0 (vF ad s.heap.size)) (F0 m 130 ls []) := by
            intro a hinv58 H locs hP hS ls hl
            refine lv_aload_n hx hb dX0_look_130 rfl (lv_at hl 1 rfl) ?_
            refine lv_iconst (v := 0) hx hb dX0_look_131 (by decide) ?_
            refine vpI (v := 0) (ty := .int) hx hb hts hi0 tyX0 tyX0_ok nmX0 hown hK hP hap hS (J) hJ.2.1 hJ.2.2 (C := RX0) (T := TX0) (N := 3) rfl 0 (by decide) (by decide) (by decide) (by decide) (hts (.fieldLink RX0 9 "CrateHelpers$Judge" "what" "I") (by decide +kernel)) (fun _ h9 => h9) rfl (by decide +kernel) rfl rfl dX0_look_132 (fun H locs hP hS => ?_)
            obtain ⟨I59, eI59⟩ : ∃ z, z = up2 I J 0 0 := ⟨_, rfl⟩
            rw [← eI59] at hP
            have hP : va_P D vwCl (VW K ad I59 G A L) H := hP
            refine lv_aload_n hx hb dX0_look_135 rfl (lv_at hl 1 rfl) ?_
            refine lv_bipush (v := (-9)) hx hb dX0_look_136 (by decide) ?_
            refine vpI (v := (-9)) (ty := .int) hx hb hts hi0 tyX0 tyX0_ok nmX0 hown hK hP hap hS (J) hJ.2.1 hJ.2.2 (C := RX0) (T := TX0) (N := 3) rfl 1 (by decide) (by decide) (by decide) (by decide) (hts (.fieldLink RX0 15 "CrateHelpers$Judge" "why" "I") (by decide +kernel)) (fun _ h9 => h9) rfl (by decide +kernel) rfl rfl dX0_look_138 (fun H locs hP hS => ?_)
            obtain ⟨I60, eI60⟩ : ∃ z, z = up2 I59 J 1 (-9) := ⟨_, rfl⟩
            rw [← eI60] at hP
            have hP : va_P D vwCl (VW K ad I60 G A L) H := hP
            refine lv_aload_n hx hb dX0_look_141 rfl (lv_at hl 1 rfl) ?_
            refine lv_iload hx hb dX0_look_142 (lv_at hl 0 rfl) ?_
            refine vpI (v := a) (ty := .int) hx hb hts hi0 tyX0 tyX0_ok nmX0 hown hK hP hap hS (J) hJ.2.1 hJ.2.2 (C := RX0) (T := TX0) (N := 3) rfl 2 (by decide) (by decide) (by decide) (by decide) (hts (.fieldLink RX0 19 "CrateHelpers$Judge" "bound" "I") (by decide +kernel)) (fun _ h9 => h9) rfl (by decide +kernel) rfl rfl dX0_look_144 (fun H locs hP hS => ?_)
            obtain ⟨I61, eI61⟩ : ∃ z, z = up2 I60 J 2 a := ⟨_, rfl⟩
            rw [← eI61] at hP
            have hP : va_P D vwCl (VW K ad I61 G A L) H := hP
            exact W.vret hx hb hr (fun t ht hW => ⟨⟨(I61, G, A, L), rfl, by rw [eI61, eI60, eI59, hinv58], by rw [ht]; exact hP, va_K.moved hW.alike hK⟩, hS.F ht⟩) hS.2.2 dX0_look_147
          have lp58 : ∀ (k58 i : Nat) (a : Int32), i + k58 = nv → bnd I A B v nr d k58 i a = lk I A B v nv nr d mt → ∀ (H : Heap) (locs : List Loc), va_P D vwCl (VW K ad I G A L) H → va_S (vF ad s.heap.size) s.heap H locs → ∀ (ls : Array Slot), lv_has ls 10 [(8, .int (nI i)), (7, .int a), (0, .ref (ad J)), (1, .ref (ad B)), (2, .ref (ad v)), (3, .int (nI d)), (4, .int mt)] → W p l e ({ frames := 4, cells := 0, slots := 0, locals := 150 }) s m ([.ref (ad J), .ref (ad B), .ref (ad v), .int (nI d), .int mt] : List Value).toArray below meth c H locs 0 0 (MQ below (va_Qv (fun (u : Mem) => u = (up2 (up2 (up2 I J 0 (lk I A B v nv nr d mt).1) J 1 (lk I A B v nv nr d mt).2.1) J 2 (lk I A B v nv nr d mt).2.2, G, A, L)) (vB D K ad) (vF ad s.heap.size)) ([.ref (ad J), .ref (ad B), .ref (ad v), .int (nI d), .int mt] : List Value).toArray s 0 0 (vF ad s.heap.size)) (F0 m 63 ls []) := by
            intro k58
            induction k58 with
            | zero =>
              intro i a hk58 hinv58 H locs hP hS ls hl
              obtain rfl : nv = i := by omega
              refine lv_iload hx hb dX0_look_63 (lv_at hl 0 rfl) ?_
              refine lv_aload_n hx hb dX0_look_65 rfl (lv_at hl 3 rfl) ?_
              refine vgI hx hb hts hi1 hown hK hP (B) (by have := (pr_o hB).1; omega) (pr_o hB).2.1 (C := RX1) (T := TX1) (N := 9) rfl 0 (by decide) (by decide) (by decide) (by decide) (hts (.fieldLink RX0 36 "CrateHelpers$Problem" "variables" "I") (by decide +kernel)) (fun _ h9 => h9) dX0_look_66 ?_
              rw [hBv]
              refine lv_icmp_ge (tgt := 130) hx hb dX0_look_69 (by decide) (fun _ => ?_) (fun c_62 => absurd (nI_le (Nat.le_refl _) (by omega)) c_62)
              exact kx58 a (hinv58.symm) H locs hP hS ls (lv_sub hl [1, 2, 3, 4, 5, 6] rfl)
            | succ k58 ih58 =>
              intro i a hk58 hinv58 H locs hP hS ls hl
              have hlt58 : i < nv := by omega
              have hiv : vp_in (nI i) (ln v) := by rw [hv.2.2]; exact vp_in_nI (by omega) (by omega)
              have hi3 : vp_in (nI i) (ln (B + 3)) := by rw [(pr_o hB).2.2.2.2.2.2.2.2.2.1]; exact vp_in_nI (by omega) (by omega)
              refine lv_iload hx hb dX0_look_63 (lv_at hl 0 rfl) ?_
              refine lv_aload_n hx hb dX0_look_65 rfl (lv_at hl 3 rfl) ?_
              refine vgI hx hb hts hi1 hown hK hP (B) (by have := (pr_o hB).1; omega) (pr_o hB).2.1 (C := RX1) (T := TX1) (N := 9) rfl 0 (by decide) (by decide) (by decide) (by decide) (hts (.fieldLink RX0 36 "CrateHelpers$Problem" "variables" "I") (by decide +kernel)) (fun _ h9 => h9) dX0_look_66 ?_
              rw [hBv]
              refine lv_icmp_ge (tgt := 130) hx hb dX0_look_69 (by decide) (fun c_63 => absurd c_63 (nI_ge (by omega) (by omega))) (fun _ => ?_)
              refine lv_iload hx hb dX0_look_72 (lv_at hl 0 rfl) ?_
              refine lv_iload_n hx hb dX0_look_74 rfl (lv_at hl 5 rfl) ?_
              refine lv_icmp_ge (tgt := 93) hx hb dX0_look_75 (by decide) (fun c_64 => ?_) (fun c_64 => ?_)
              · have hdi : d ≤ i := (nI_leI (by omega) (by omega)).mp c_64
                have hlb : lbd I A B v nr d i = lcs I A B v i nr (szo A B i) 0 (-1000000) := if_neg (by omega)
                refine lv_aload_n hx hb dX0_look_93 rfl (lv_at hl 3 rfl) ?_
                refine lv_aload_n hx hb dX0_look_94 rfl (lv_at hl 4 rfl) ?_
                refine lv_iload hx hb dX0_look_95 (lv_at hl 0 rfl) ?_
                refine vcV (As := [.ref (ad v), .int (nI i)]) (rest := []) ⟨hx, hb, hml, hown, hts⟩ (c_X1_leastCost l D K ad hap0 B v nv nr i (szo A B i) hB hv hvB (by omega) (pr_sz hw (by omega)).2.2 I G A L hw (pr_sz hw (by omega)).1 (hro.2 i hdi (by omega))) (cwV 2 hts gX0_look_X1_leastCost rfl rfl rfl (by decide +kernel) ⟨Nat.le_of_ble_eq_true rfl, Nat.le_of_ble_eq_true rfl⟩) hK hP hS (by have := (pr_o hB).1; omega) (pr_o hB).2.1 (by decide) rfl rfl rfl hl.1 (Nat.le_of_ble_eq_true rfl) (Nat.le_of_ble_eq_true rfl) (Nat.le_of_ble_eq_true rfl) dX0_look_97 (fun r65 u66 H locs hw hP hS => ?_) rfl
                obtain ⟨hr65, rfl⟩ := hw
                have hP : va_P D vwCl (VW K ad I G A L) H := hP
                subst hr65
                refine lv_istore (lv' := [(9, .int (lcs I A B v i nr (szo A B i) 0 (-1000000))), (8, .int (nI i)), (7, .int a), (0, .ref (ad J)), (1, .ref (ad B)), (2, .ref (ad v)), (3, .int (nI d)), (4, .int mt)]) hx hb dX0_look_100 hl (by decide) rfl (fun ls hl => ?_)
                refine lv_iload hx hb dX0_look_102 (lv_at hl 0 rfl) ?_
                refine lv_ldc (v := (-1000000)) hx hb hown (hts (.constant RX0 18 (-1000000)) (by decide +kernel)) dX0_look_104 ?_
                refine lv_icmp_ne (tgt := 117) hx hb dX0_look_106 (by decide) (fun c_67 => ?_) (fun c_67 => ?_)
                · refine lv_iload hx hb dX0_look_117 (lv_at hl 2 rfl) ?_
                  refine lv_iload hx hb dX0_look_119 (lv_at hl 0 rfl) ?_
                  refine lv_iadd hx hb dX0_look_121 ?_
                  refine lv_istore (lv' := [(7, .int (a + (lcs I A B v i nr (szo A B i) 0 (-1000000)))), (9, .int (lcs I A B v i nr (szo A B i) 0 (-1000000))), (8, .int (nI i)), (0, .ref (ad J)), (1, .ref (ad B)), (2, .ref (ad v)), (3, .int (nI d)), (4, .int mt)]) hx hb dX0_look_122 hl (by decide) rfl (fun ls hl => ?_)
                  refine lv_iinc (v := (nI (i + 1))) (lv' := [(8, .int (nI (i + 1))), (7, .int (a + (lcs I A B v i nr (szo A B i) 0 (-1000000)))), (9, .int (lcs I A B v i nr (szo A B i) 0 (-1000000))), (0, .ref (ad J)), (1, .ref (ad B)), (2, .ref (ad v)), (3, .int (nI d)), (4, .int mt)]) hx hb dX0_look_124 hl (k := 2) rfl (nI_1 i) (by decide) rfl (fun ls hl => ?_)
                  refine lv_goto (tgt := 63) hx hb dX0_look_127 (by decide) ?_
                  exact ih58 (i + 1) (a + (lcs I A B v i nr (szo A B i) 0 (-1000000))) (by omega) (by rw [← hinv58]; simp [bnd, hlb, c_67]) H locs hP hS ls (lv_sub hl [0, 1, 3, 4, 5, 6, 7] rfl)
                · refine lv_aload_n hx hb dX0_look_109 rfl (lv_at hl 3 rfl) ?_
                  refine lv_iconst (v := 3) hx hb dX0_look_110 (by decide) ?_
                  refine lv_iload hx hb dX0_look_111 (lv_at hl 1 rfl) ?_
                  refine vcVv (As := [.int 3, .int (nI i)]) (rest := []) ⟨hx, hb, hml, hown, hts⟩ (c_X0_close l D K ad hap0 J 3 (nI i) hJ I G A L) (cwV 2 hts gX0_look_X0_close rfl rfl rfl (by decide +kernel) ⟨Nat.le_of_ble_eq_true rfl, Nat.le_of_ble_eq_true rfl⟩) hK hP hS hJ.2.1 hJ.2.2 (by decide) rfl rfl rfl hl.1 (Nat.le_of_ble_eq_true rfl) (Nat.le_of_ble_eq_true rfl) (Nat.le_of_ble_eq_true rfl) dX0_look_113 (fun u69 H locs hw hP hS => ?_) rfl
                  obtain ⟨I70, G71, A72, L73⟩ := u69
                  have hP : va_P D vwCl (VW K ad I70 G71 A72 L73) H := hP
                  exact W.vret hx hb hr (fun t ht hW => ⟨⟨(I70, G71, A72, L73), rfl, hw.trans (by rw [show lk I A B v nv nr d mt = (3, (nI i), -1000000) from by rw [← hinv58]; simp [bnd, hlb, c_67]]), by rw [ht]; exact hP, va_K.moved hW.alike hK⟩, hS.F ht⟩) hS.2.2 dX0_look_116
              · have hdi : i < d := by { rcases Nat.lt_or_ge i d with h | h; exact h; exact absurd (nI_le h (by omega)) c_64 }
                have hlb : lbd I A B v nr d i = A (B + 4 + i) (A v i).toNatClampNeg := if_pos hdi
                have hi4 : vp_in (A v i) (ln (B + 4 + i)) := by rw [(pr_row (x := i) hB (by omega)).2]; exact in_le (hro.1 i hdi) (pr_sz hw (by omega)).2.2
                refine lv_aload_n hx hb dX0_look_78 rfl (lv_at hl 3 rfl) ?_
                refine vgS hx hb hts hi1 hown hK hP (B) (by have := (pr_o hB).1; omega) (pr_o hB).2.1 (C := RX1) (T := TX1) (N := 9) rfl 6 (by decide) (by decide) (by decide) (by decide) (B + 3) rfl (hts (.fieldLink RX0 39 "CrateHelpers$Problem" "prices" "[[I") (by decide +kernel)) (fun _ h9 => h9) dX0_look_79 ?_
                refine lv_iload hx hb dX0_look_82 (lv_at hl 0 rfl) ?_
                refine xgald hx hb hK hP (B + 3) (by have := (pr_o hB).1; omega) (pr_o hB).2.2.2.2.1 hi3 (B + 4 + i) (by rw [rf15 (pr_o hB).2.2.2.2.1]; rw [nI_clamp (by omega)]) dX0_look_84 ?_
                refine lv_aload_n hx hb dX0_look_85 rfl (lv_at hl 4 rfl) ?_
                refine lv_iload hx hb dX0_look_86 (lv_at hl 0 rfl) ?_
                refine xiald hx hb hK hP (v) hv.1 hv.2.1 hiv dX0_look_88 ?_
                rw [nI_clamp (n := i) (by omega)]
                refine xiald hx hb hK hP (B + 4 + i) (by have := (pr_o hB).1; omega) (pr_row (x := i) hB (by omega)).1 hi4 dX0_look_89 ?_
                refine lv_goto (tgt := 100) hx hb dX0_look_90 (by decide) ?_
                refine lv_istore (lv' := [(9, .int (A (B + 4 + i) ((A v i).toNatClampNeg))), (8, .int (nI i)), (7, .int a), (0, .ref (ad J)), (1, .ref (ad B)), (2, .ref (ad v)), (3, .int (nI d)), (4, .int mt)]) hx hb dX0_look_100 hl (by decide) rfl (fun ls hl => ?_)
                refine lv_iload hx hb dX0_look_102 (lv_at hl 0 rfl) ?_
                refine lv_ldc (v := (-1000000)) hx hb hown (hts (.constant RX0 18 (-1000000)) (by decide +kernel)) dX0_look_104 ?_
                refine lv_icmp_ne (tgt := 117) hx hb dX0_look_106 (by decide) (fun c_74 => ?_) (fun c_74 => ?_)
                · refine lv_iload hx hb dX0_look_117 (lv_at hl 2 rfl) ?_
                  refine lv_iload hx hb dX0_look_119 (lv_at hl 0 rfl) ?_
                  refine lv_iadd hx hb dX0_look_121 ?_
                  refine lv_istore (lv' := [(7, .int (a + (A (B + 4 + i) ((A v i).toNatClampNeg)))), (9, .int (A (B + 4 + i) ((A v i).toNatClampNeg))), (8, .int (nI i)), (0, .ref (ad J)), (1, .ref (ad B)), (2, .ref (ad v)), (3, .int (nI d)), (4, .int mt)]) hx hb dX0_look_122 hl (by decide) rfl (fun ls hl => ?_)
                  refine lv_iinc (v := (nI (i + 1))) (lv' := [(8, .int (nI (i + 1))), (7, .int (a + (A (B + 4 + i) ((A v i).toNatClampNeg)))), (9, .int (A (B + 4 + i) ((A v i).toNatClampNeg))), (0, .ref (ad J)), (1, .ref (ad B)), (2, .ref (ad v)), (3, .int (nI d)), (4, .int mt)]) hx hb dX0_look_124 hl (k := 2) rfl (nI_1 i) (by decide) rfl (fun ls hl => ?_)
                  refine lv_goto (tgt := 63) hx hb dX0_look_127 (by decide) ?_
                  exact ih58 (i + 1) (a + (A (B + 4 + i) ((A v i).toNatClampNeg))) (by omega) (by rw [← hinv58]; simp [bnd, hlb, c_74]) H locs hP hS ls (lv_sub hl [0, 1, 3, 4, 5, 6, 7] rfl)
                · refine lv_aload_n hx hb dX0_look_109 rfl (lv_at hl 3 rfl) ?_
                  refine lv_iconst (v := 3) hx hb dX0_look_110 (by decide) ?_
                  refine lv_iload hx hb dX0_look_111 (lv_at hl 1 rfl) ?_
                  refine vcVv (As := [.int 3, .int (nI i)]) (rest := []) ⟨hx, hb, hml, hown, hts⟩ (c_X0_close l D K ad hap0 J 3 (nI i) hJ I G A L) (cwV 2 hts gX0_look_X0_close rfl rfl rfl (by decide +kernel) ⟨Nat.le_of_ble_eq_true rfl, Nat.le_of_ble_eq_true rfl⟩) hK hP hS hJ.2.1 hJ.2.2 (by decide) rfl rfl rfl hl.1 (Nat.le_of_ble_eq_true rfl) (Nat.le_of_ble_eq_true rfl) (Nat.le_of_ble_eq_true rfl) dX0_look_113 (fun u76 H locs hw hP hS => ?_) rfl
                  obtain ⟨I77, G78, A79, L80⟩ := u76
                  have hP : va_P D vwCl (VW K ad I77 G78 A79 L80) H := hP
                  exact W.vret hx hb hr (fun t ht hW => ⟨⟨(I77, G78, A79, L80), rfl, hw.trans (by rw [show lk I A B v nv nr d mt = (3, (nI i), -1000000) from by rw [← hinv58]; simp [bnd, hlb, c_74]]), by rw [ht]; exact hP, va_K.moved hW.alike hK⟩, hS.F ht⟩) hS.2.2 dX0_look_116
          exact lp58 (nv) 0 0 (by omega) (by simp [lk, c_3, c_4, c_57, hd0]) _ _ hP hS ls (lv_sub hl [0, 1, 4, 5, 6, 7, 8] rfl)
        · refine lv_aload_n hx hb dX0_look_49 rfl (lv_at hl 2 rfl) ?_
          refine lv_iconst (v := 2) hx hb dX0_look_50 (by decide) ?_
          refine lv_iload hx hb dX0_look_51 (lv_at hl 0 rfl) ?_
          refine vcVv (As := [.int 2, .int (ftw I A B v nr (d - 1))]) (rest := []) ⟨hx, hb, hml, hown, hts⟩ (c_X0_close l D K ad hap0 J 2 (ftw I A B v nr (d - 1)) hJ I G A L) (cwV 2 hts gX0_look_X0_close rfl rfl rfl (by decide +kernel) ⟨Nat.le_of_ble_eq_true rfl, Nat.le_of_ble_eq_true rfl⟩) hK hP hS hJ.2.1 hJ.2.2 (by decide) rfl rfl rfl hl.1 (Nat.le_of_ble_eq_true rfl) (Nat.le_of_ble_eq_true rfl) (Nat.le_of_ble_eq_true rfl) dX0_look_53 (fun u82 H locs hw hP hS => ?_) rfl
          obtain ⟨I83, G84, A85, L86⟩ := u82
          have hP : va_P D vwCl (VW K ad I83 G84 A85 L86) H := hP
          exact W.vret hx hb hr (fun t ht hW => ⟨⟨(I83, G84, A85, L86), rfl, hw.trans (by rw [show lk I A B v nv nr d mt = (2, (ftw I A B v nr (d - 1)), -1000000) from by simp [lk, c_3, c_4, c_57, hd0]]), by rw [ht]; exact hP, va_K.moved hW.alike hK⟩, hS.F ht⟩) hS.2.2 dX0_look_56
  · refine lv_aload_n hx hb dX0_look_14 rfl (lv_at hl 1 rfl) ?_
    refine lv_iconst (v := 1) hx hb dX0_look_15 (by decide) ?_
    refine lv_iload hx hb dX0_look_16 (lv_at hl 0 rfl) ?_
    refine vcVv (As := [.int 1, .int (fbk I A B v nr)]) (rest := []) ⟨hx, hb, hml, hown, hts⟩ (c_X0_close l D K ad hap0 J 1 (fbk I A B v nr) hJ I G A L) (cwV 2 hts gX0_look_X0_close rfl rfl rfl (by decide +kernel) ⟨Nat.le_of_ble_eq_true rfl, Nat.le_of_ble_eq_true rfl⟩) hK hP hS hJ.2.1 hJ.2.2 (by decide) rfl rfl rfl hl.1 (Nat.le_of_ble_eq_true rfl) (Nat.le_of_ble_eq_true rfl) (Nat.le_of_ble_eq_true rfl) dX0_look_18 (fun u88 H locs hw hP hS => ?_) rfl
    obtain ⟨I89, G90, A91, L92⟩ := u88
    have hP : va_P D vwCl (VW K ad I89 G90 A91 L92) H := hP
    exact W.vret hx hb hr (fun t ht hW => ⟨⟨(I89, G90, A91, L92), rfl, hw.trans (by rw [show lk I A B v nv nr d mt = (1, (fbk I A B v nr), -1000000) from by simp [lk, c_3]]), by rw [ht]; exact hP, va_K.moved hW.alike hK⟩, hS.F ht⟩) hS.2.2 dX0_look_21
