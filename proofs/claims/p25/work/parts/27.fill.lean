/-- row j with w in its first n places -/
def fil (A : Nat → Nat → Int32) (j n : Nat) (w : Int32) : Nat → Nat → Int32 := fun a b => if a = j ∧ b < n then w else A a b
theorem fil_0 (A : Nat → Nat → Int32) (j : Nat) (w : Int32) : fil A j 0 w = A := by funext a b; simp [fil]
theorem fil_s (A : Nat → Nat → Int32) (j i : Nat) (w : Int32) : up2 (fil A j i w) j i w = fil A j (i + 1) w := by
  funext a b
  unfold up2 fil
  by_cases h1 : a = j ∧ b = i
  · rw [if_pos h1, if_pos ⟨h1.1, by omega⟩]
  · rw [if_neg h1]
    by_cases h2 : a = j ∧ b < i
    · rw [if_pos h2, if_pos ⟨h2.1, by omega⟩]
    · rw [if_neg h2, if_neg (fun h => by rcases Nat.lt_or_ge b i with q | q; exact h2 ⟨h.1, q⟩; exact h1 ⟨h.1, by omega⟩)]
theorem fil_j {A : Nat → Nat → Int32} {j n a b : Nat} {w : Int32} (h : a ≠ j) : fil A j n w a b = A a b := by simp [fil, h]
/-- row v with the values of a node (its word w) from place f on, dd of them -/
def cpy (A : Nat → Nat → Int32) (v f dd : Nat) (w : Int64) : Nat → Nat → Int32 := fun a b => if a = v ∧ f ≤ b ∧ b < f + dd then vlo w (nI (b - f)) else A a b
theorem cpy_0 (A : Nat → Nat → Int32) (v f : Nat) (w : Int64) : cpy A v f 0 w = A := by
  funext a b
  unfold cpy
  rw [if_neg (fun h => by omega)]
theorem cpy_s (A : Nat → Nat → Int32) (v f i : Nat) (w : Int64) : up2 (cpy A v f i w) v (f + i) (vlo w (nI i)) = cpy A v f (i + 1) w := by
  funext a b
  unfold up2 cpy
  by_cases h1 : a = v ∧ b = f + i
  · rw [if_pos h1, if_pos ⟨h1.1, by omega⟩, show b - f = i by omega]
  · rw [if_neg h1]
    by_cases h2 : a = v ∧ f ≤ b ∧ b < f + i
    · rw [if_pos h2, if_pos ⟨h2.1, by omega⟩]
    · rw [if_neg h2, if_neg (fun h => by rcases Nat.lt_or_ge b (f + i) with q | q; exact h2 ⟨h.1, h.2.1, q⟩; exact h1 ⟨h.1, by omega⟩)]
theorem cpy_j {A : Nat → Nat → Int32} {v f dd a b : Nat} {w : Int64} (h : a ≠ v) : cpy A v f dd w a b = A a b := by simp [cpy, h]

set_option maxHeartbeats 4000000 in
set_option maxRecDepth 100000 in
theorem c_fill (l : Launch) (D : va_G) (K : Nat → ClassId) (ad : Nat → Nat) (hap0 : apart ad (fun _ => True)) (j n : Nat) (w : Int32) (hj : IA j n) (hn : n < 2147483648) (I : Nat → Nat → Int32) (G : Nat → Nat → Nat) (A : Nat → Nat → Int32) (L : Nat → Nat → Int64)  : Cv l D K ad yJ7_fill_53178 wsJ7_fill_53178 0 0 [.ref (ad j), .int w] (I, G, A, L) (fun (u : Mem) => u = (I, G, fil A j n w, L)) := by
  intro sz
  refine Met.ofW (cc := cJ7_fill_53178) (maxL := 4) (ret := none) (by decide) rfl ?_
  intro p e s m args below meth c s₁ Bd hml hv0
  obtain ⟨rfl, hsz, hP, hK⟩ := hv0
  have hx := Bd.exec
  have hb := Bd.bytes
  have hr := Bd.returns
  have hts := atoms_spec (ws := wsJ7_fill_53178) Bd.pre
  have hown : s.vm.findClass RJ7 = some m.cls := findClass_of_methodNamed Bd.named
  have hlocks := Bd.notSynchronized
  subst hsz
  have hap := vF_ap hap0 s.heap.size
  have hS : va_S (vF ad s.heap.size) s.heap s.heap [] := va_S.rf
  have hP : va_P D vwCl (VW K ad I G A L) s.heap := hP
  have hl := lv_entry ([.ref (ad j), .int w]) (n := 4) (Nat.le_of_ble_eq_true rfl)
  rw [lg_entry_eq]
  generalize (lg_sl ([.ref (ad j), .int w]) ++ List.replicate (4 - (lg_sl ([.ref (ad j), .int w])).length) Slot.unset).toArray = ls at hl ⊢
  have hl : lv_has ls 4 [(0, .ref (ad j)), (1, .int w)] := hl
  refine lv_iconst (v := 0) hx hb dJ7_fill_53178_0 (by decide) ?_
  refine lv_istore_n (lv' := [(2, .int 0), (0, .ref (ad j)), (1, .int w)]) hx hb dJ7_fill_53178_1 rfl hl (by decide) rfl (fun ls hl => ?_)
  refine lv_aload_n hx hb dJ7_fill_53178_2 rfl (lv_at hl 1 rfl) ?_
  refine vlen hx hb hK hP (j) hj.1 hj.2.1 dJ7_fill_53178_3 ?_
  rw [hj.2.2]
  refine lv_istore_n (lv' := [(3, .int (nI n)), (2, .int 0), (0, .ref (ad j)), (1, .int w)]) hx hb dJ7_fill_53178_4 rfl hl (by decide) rfl (fun ls hl => ?_)
  have kx1 : ∀ (A1 : Nat → Nat → Int32), True → A1 = fil A j n w → ∀ (H : Heap) (locs : List Loc), va_P D vwCl (VW K ad I G A1 L) H → va_S (vF ad s.heap.size) s.heap H locs → ∀ (ls : Array Slot), lv_has ls 4 [(3, .int (nI n)), (0, .ref (ad j)), (1, .int w)] → W p l e ({ frames := 0, cells := 0, slots := 0, locals := 0 }) s m ([.ref (ad j), .int w] : List Value).toArray below meth c H locs 0 0 (MQ below (va_Qv (fun (u : Mem) => u = (I, G, fil A j n w, L)) (vB D K ad) (vF ad s.heap.size)) ([.ref (ad j), .int w] : List Value).toArray s 0 0 (vF ad s.heap.size)) (F0 m 20 ls []) := by
    intro A1 hinv1 hg1 H locs hP hS ls hl
    exact W.vret hx hb hr (fun t ht hW => ⟨⟨(I, G, A1, L), rfl, by rw [hg1], by rw [ht]; exact hP, va_K.moved hW.alike hK⟩, hS.F ht⟩) hS.2.2 dJ7_fill_53178_20
  have lp1 : ∀ (k1 i : Nat) (A1 : Nat → Nat → Int32), i + k1 = n → True → A1 = fil A j i w → ∀ (H : Heap) (locs : List Loc), va_P D vwCl (VW K ad I G A1 L) H → va_S (vF ad s.heap.size) s.heap H locs → ∀ (ls : Array Slot), lv_has ls 4 [(2, .int (nI i)), (3, .int (nI n)), (0, .ref (ad j)), (1, .int w)] → W p l e ({ frames := 0, cells := 0, slots := 0, locals := 0 }) s m ([.ref (ad j), .int w] : List Value).toArray below meth c H locs 0 0 (MQ below (va_Qv (fun (u : Mem) => u = (I, G, fil A j n w, L)) (vB D K ad) (vF ad s.heap.size)) ([.ref (ad j), .int w] : List Value).toArray s 0 0 (vF ad s.heap.size)) (F0 m 5 ls []) := by
    intro k1
    induction k1 with
    | zero =>
      intro i A1 hk1 hinv1 hg1 H locs hP hS ls hl
      obtain rfl : n = i := by omega
      refine lv_iload_n hx hb dJ7_fill_53178_5 rfl (lv_at hl 0 rfl) ?_
      refine lv_iload_n hx hb dJ7_fill_53178_6 rfl (lv_at hl 1 rfl) ?_
      refine lv_icmp_ge (tgt := 20) hx hb dJ7_fill_53178_7 (by decide) (fun _ => ?_) (fun c_2 => absurd (nI_le (Nat.le_refl _) (by omega)) c_2)
      exact kx1 A1 (trivial) (hg1) H locs hP hS ls (lv_sub hl [1, 2, 3] rfl)
    | succ k1 ih1 =>
      intro i A1 hk1 hinv1 hg1 H locs hP hS ls hl
      have hlt1 : i < n := by omega
      have hij : vp_in (nI i) (ln j) := by rw [hj.2.2]; exact vp_in_nI (by omega) (by omega)
      refine lv_iload_n hx hb dJ7_fill_53178_5 rfl (lv_at hl 0 rfl) ?_
      refine lv_iload_n hx hb dJ7_fill_53178_6 rfl (lv_at hl 1 rfl) ?_
      refine lv_icmp_ge (tgt := 20) hx hb dJ7_fill_53178_7 (by decide) (fun c_3 => absurd c_3 (nI_ge (by omega) (by omega))) (fun _ => ?_)
      refine lv_aload_n hx hb dJ7_fill_53178_10 rfl (lv_at hl 2 rfl) ?_
      refine lv_iload_n hx hb dJ7_fill_53178_11 rfl (lv_at hl 0 rfl) ?_
      refine lv_iload_n hx hb dJ7_fill_53178_12 rfl (lv_at hl 3 rfl) ?_
      refine xiast hx hb hK hP hap hS (j) hj.1 hj.2.1 hij dJ7_fill_53178_13 (fun H locs hP hS => ?_)
      rw [nI_clamp (n := i) (by omega)] at hP
      obtain ⟨A4, eA4⟩ : ∃ z, z = up2 A1 j i w := ⟨_, rfl⟩
      rw [← eA4] at hP
      have hP : va_P D vwCl (VW K ad I G A4 L) H := hP
      refine lv_iinc (v := (nI (i + 1))) (lv' := [(2, .int (nI (i + 1))), (3, .int (nI n)), (0, .ref (ad j)), (1, .int w)]) hx hb dJ7_fill_53178_14 hl (k := 0) rfl (nI_1 i) (by decide) rfl (fun ls hl => ?_)
      refine lv_goto (tgt := 5) hx hb dJ7_fill_53178_17 (by decide) ?_
      exact ih1 (i + 1) A4 (by omega) (trivial) (eA4.trans (by rw [hg1]; exact fil_s A j i w)) H locs hP hS ls (lv_sub hl [0, 1, 2, 3] rfl)
  exact lp1 (n) 0 A (by omega) (trivial) ((fil_0 A j w).symm) _ _ hP hS ls (lv_sub hl [1, 0, 2, 3] rfl)

set_option maxHeartbeats 4000000 in
set_option maxRecDepth 100000 in
theorem c_X5_copyValues (l : Launch) (D : va_G) (K : Nat → ClassId) (ad : Nat → Nat) (hap0 : apart ad (fun _ => True)) (T d : Nat) (hT : TrAt T) (hd : d < lT T) (v f dd nv : Nat) (hv : IA v nv) (hfd : f + dd ≤ nv) (hnv : nv ≤ 12) (hv2 : v ≠ T + 2) (I : Nat → Nat → Int32) (G : Nat → Nat → Nat) (A : Nat → Nat → Int32) (L : Nat → Nat → Int64) (hdd : A (T + 2) d = nI dd) : Cv l D K ad yX5_copyValues wsX5_copyValues 2 80 [.ref (ad T), .int (nI d), .ref (ad v), .int (nI f)] (I, G, A, L) (fun (u : Mem) => u = (I, G, cpy A v f dd (L (T + 1) d), L)) := by
  intro sz
  refine Met.ofW (cc := cX5_copyValues) (maxL := 5) (ret := none) (by decide) rfl ?_
  intro p e s m args below meth c s₁ Bd hml hv0
  obtain ⟨rfl, hsz, hP, hK⟩ := hv0
  have hx := Bd.exec
  have hb := Bd.bytes
  have hr := Bd.returns
  have hts := atoms_spec (ws := wsX5_copyValues) Bd.pre
  have hown : s.vm.findClass RX5 = some m.cls := findClass_of_methodNamed Bd.named
  have hlocks := Bd.notSynchronized
  have hi5 : ∀ w ∈ u_ws RX5 TX5 16, w ∈ wsX5_copyValues := fun w h => List.mem_cons_of_mem _ (List.mem_append_right _ h)
  subst hsz
  have hap := vF_ap hap0 s.heap.size
  have hS : va_S (vF ad s.heap.size) s.heap s.heap [] := va_S.rf
  have hP : va_P D vwCl (VW K ad I G A L) s.heap := hP
  have hl := lv_entry ([.ref (ad T), .int (nI d), .ref (ad v), .int (nI f)]) (n := 5) (Nat.le_of_ble_eq_true rfl)
  rw [lg_entry_eq]
  generalize (lg_sl ([.ref (ad T), .int (nI d), .ref (ad v), .int (nI f)]) ++ List.replicate (5 - (lg_sl ([.ref (ad T), .int (nI d), .ref (ad v), .int (nI f)])).length) Slot.unset).toArray = ls at hl ⊢
  have hl : lv_has ls 5 [(0, .ref (ad T)), (1, .int (nI d)), (2, .ref (ad v)), (3, .int (nI f))] := hl
  have hl1 := (tr_l hT).2.2.2.2.2.2.2.2.2.2
  have hi1d : vp_in (nI d) (ln (T + 1)) := by rw [(tr_l hT).1]; exact vp_in_nI hd (by omega)
  have hi2d : vp_in (nI d) (ln (T + 2)) := by rw [(tr_l hT).2.1]; exact vp_in_nI hd (by omega)
  have hi3d : vp_in (nI d) (ln (T + 3)) := by rw [(tr_l hT).2.2.1]; exact vp_in_nI hd (by omega)
  have hi4d : vp_in (nI d) (ln (T + 4)) := by rw [(tr_l hT).2.2.2.1]; exact vp_in_nI hd (by omega)
  have hi5d : vp_in (nI d) (ln (T + 5)) := by rw [(tr_l hT).2.2.2.2.1]; exact vp_in_nI hd (by omega)
  have hi6d : vp_in (nI d) (ln (T + 6)) := by rw [(tr_l hT).2.2.2.2.2.1]; exact vp_in_nI hd (by omega)
  have hi7d : vp_in (nI d) (ln (T + 7)) := by rw [(tr_l hT).2.2.2.2.2.2.1]; exact vp_in_nI hd (by omega)
  have hi8d : vp_in (nI d) (ln (T + 8)) := by rw [(tr_l hT).2.2.2.2.2.2.2.1]; exact vp_in_nI hd (by omega)
  refine lv_iconst (v := 0) hx hb dX5_copyValues_0 (by decide) ?_
  refine lv_istore (lv' := [(4, .int 0), (0, .ref (ad T)), (1, .int (nI d)), (2, .ref (ad v)), (3, .int (nI f))]) hx hb dX5_copyValues_1 hl (by decide) rfl (fun ls hl => ?_)
  have kx1 : ∀ (A1 : Nat → Nat → Int32), True → A1 = cpy A v f dd (L (T + 1) d) → ∀ (H : Heap) (locs : List Loc), va_P D vwCl (VW K ad I G A1 L) H → va_S (vF ad s.heap.size) s.heap H locs → ∀ (ls : Array Slot), lv_has ls 5 [(0, .ref (ad T)), (1, .int (nI d)), (2, .ref (ad v)), (3, .int (nI f))] → W p l e ({ frames := 2, cells := 0, slots := 0, locals := 80 }) s m ([.ref (ad T), .int (nI d), .ref (ad v), .int (nI f)] : List Value).toArray below meth c H locs 0 0 (MQ below (va_Qv (fun (u : Mem) => u = (I, G, cpy A v f dd (L (T + 1) d), L)) (vB D K ad) (vF ad s.heap.size)) ([.ref (ad T), .int (nI d), .ref (ad v), .int (nI f)] : List Value).toArray s 0 0 (vF ad s.heap.size)) (F0 m 42 ls []) := by
    intro A1 hinv1 hg1 H locs hP hS ls hl
    exact W.vret hx hb hr (fun t ht hW => ⟨⟨(I, G, A1, L), rfl, by rw [hg1], by rw [ht]; exact hP, va_K.moved hW.alike hK⟩, hS.F ht⟩) hS.2.2 dX5_copyValues_42
  have lp1 : ∀ (k1 i : Nat) (A1 : Nat → Nat → Int32), i + k1 = dd → True → A1 = cpy A v f i (L (T + 1) d) → ∀ (H : Heap) (locs : List Loc), va_P D vwCl (VW K ad I G A1 L) H → va_S (vF ad s.heap.size) s.heap H locs → ∀ (ls : Array Slot), lv_has ls 5 [(4, .int (nI i)), (0, .ref (ad T)), (1, .int (nI d)), (2, .ref (ad v)), (3, .int (nI f))] → W p l e ({ frames := 2, cells := 0, slots := 0, locals := 80 }) s m ([.ref (ad T), .int (nI d), .ref (ad v), .int (nI f)] : List Value).toArray below meth c H locs 0 0 (MQ below (va_Qv (fun (u : Mem) => u = (I, G, cpy A v f dd (L (T + 1) d), L)) (vB D K ad) (vF ad s.heap.size)) ([.ref (ad T), .int (nI d), .ref (ad v), .int (nI f)] : List Value).toArray s 0 0 (vF ad s.heap.size)) (F0 m 3 ls []) := by
    intro k1
    induction k1 with
    | zero =>
      intro i A1 hk1 hinv1 hg1 H locs hP hS ls hl
      obtain rfl : dd = i := by omega
      refine lv_iload hx hb dX5_copyValues_3 (lv_at hl 0 rfl) ?_
      refine lv_aload_n hx hb dX5_copyValues_5 rfl (lv_at hl 1 rfl) ?_
      refine vgS hx hb hts hi5 hown hK hP (T) (by have := (tr_o hT).1; show _ < 378; omega) (tr_o hT).2.1 (C := RX5) (T := TX5) (N := 16) rfl 1 (by decide) (by decide) (by decide) (by decide) (T + 2) rfl (hts (.fieldLink RX5 53 "CrateHelpers$Tree" "depth" "[B") (by decide +kernel)) (fun _ h9 => h9) dX5_copyValues_6 ?_
      refine lv_iload_n hx hb dX5_copyValues_9 rfl (lv_at hl 2 rfl) ?_
      refine xbald hx hb hK hP (T + 2) (by have := (tr_o hT).1; show _ < 378; omega) (tr_o hT).2.2.2.1 hi2d dX5_copyValues_10 ?_
      rw [nI_clamp (n := d) (by omega)]
      rw [show A1 (T + 2) d = nI dd by rw [hg1, cpy_j (Ne.symm hv2)]; exact hdd]
      refine lv_icmp_ge (tgt := 42) hx hb dX5_copyValues_11 (by decide) (fun _ => ?_) (fun c_2 => absurd (nI_le (Nat.le_refl _) (by omega)) c_2)
      exact kx1 A1 (trivial) (hg1) H locs hP hS ls (lv_sub hl [1, 2, 3, 4] rfl)
    | succ k1 ih1 =>
      intro i A1 hk1 hinv1 hg1 H locs hP hS ls hl
      have hlt1 : i < dd := by omega
      have hfi : vp_in (nI (f + i)) (ln v) := by rw [hv.2.2]; exact vp_in_nI (by omega) (by omega)
      refine lv_iload hx hb dX5_copyValues_3 (lv_at hl 0 rfl) ?_
      refine lv_aload_n hx hb dX5_copyValues_5 rfl (lv_at hl 1 rfl) ?_
      refine vgS hx hb hts hi5 hown hK hP (T) (by have := (tr_o hT).1; show _ < 378; omega) (tr_o hT).2.1 (C := RX5) (T := TX5) (N := 16) rfl 1 (by decide) (by decide) (by decide) (by decide) (T + 2) rfl (hts (.fieldLink RX5 53 "CrateHelpers$Tree" "depth" "[B") (by decide +kernel)) (fun _ h9 => h9) dX5_copyValues_6 ?_
      refine lv_iload_n hx hb dX5_copyValues_9 rfl (lv_at hl 2 rfl) ?_
      refine xbald hx hb hK hP (T + 2) (by have := (tr_o hT).1; show _ < 378; omega) (tr_o hT).2.2.2.1 hi2d dX5_copyValues_10 ?_
      rw [nI_clamp (n := d) (by omega)]
      rw [show A1 (T + 2) d = nI dd by rw [hg1, cpy_j (Ne.symm hv2)]; exact hdd]
      refine lv_icmp_ge (tgt := 42) hx hb dX5_copyValues_11 (by decide) (fun c_3 => absurd c_3 (nI_ge (by omega) (by omega))) (fun _ => ?_)
      refine lv_iload_n hx hb dX5_copyValues_14 rfl (lv_at hl 4 rfl) ?_
      refine lv_iload hx hb dX5_copyValues_15 (lv_at hl 0 rfl) ?_
      refine lv_iadd hx hb dX5_copyValues_17 ?_
      rw [nI_add]
      refine lv_aload_n hx hb dX5_copyValues_18 rfl (lv_at hl 3 rfl) ?_
      refine vlen hx hb hK hP (v) hv.1 hv.2.1 dX5_copyValues_19 ?_
      rw [hv.2.2]
      refine lv_icmp_ge (tgt := 42) hx hb dX5_copyValues_20 (by decide) (fun c9 => absurd c9 (nI_ge (by omega) (by omega))) (fun _ => ?_)
      refine lv_aload_n hx hb dX5_copyValues_23 rfl (lv_at hl 3 rfl) ?_
      refine lv_iload_n hx hb dX5_copyValues_24 rfl (lv_at hl 4 rfl) ?_
      refine lv_iload hx hb dX5_copyValues_25 (lv_at hl 0 rfl) ?_
      refine lv_iadd hx hb dX5_copyValues_27 ?_
      rw [nI_add]
      refine lv_aload_n hx hb dX5_copyValues_28 rfl (lv_at hl 1 rfl) ?_
      refine lv_iload_n hx hb dX5_copyValues_29 rfl (lv_at hl 2 rfl) ?_
      refine lv_iload hx hb dX5_copyValues_30 (lv_at hl 0 rfl) ?_
      refine vcV (As := [.int (nI d), .int (nI i)]) (rest := [.int (nI (f + i)), .ref (ad v)]) ⟨hx, hb, hml, hown, hts⟩ (c_X5_valueOf l D K ad hap0 T d hT hd (nI i) I G A1 L) (cwV 2 hts gX5_copyValues_X5_valueOf rfl rfl rfl (by decide +kernel) ⟨Nat.le_of_ble_eq_true rfl, Nat.le_of_ble_eq_true rfl⟩) hK hP hS (by have := (tr_o hT).1; show _ < 378; omega) (tr_o hT).2.1 (by decide) rfl rfl rfl hl.1 (Nat.le_of_ble_eq_true rfl) (Nat.le_of_ble_eq_true rfl) (Nat.le_of_ble_eq_true rfl) dX5_copyValues_32 (fun r4 u5 H locs hw hP hS => ?_) rfl
      obtain ⟨hr4, rfl⟩ := hw
      have hP : va_P D vwCl (VW K ad I G A1 L) H := hP
      subst hr4
      refine xiast hx hb hK hP hap hS (v) hv.1 hv.2.1 hfi dX5_copyValues_35 (fun H locs hP hS => ?_)
      rw [nI_clamp (n := (f + i)) (by omega)] at hP
      obtain ⟨A6, eA6⟩ : ∃ z, z = up2 A1 v (f + i) ((vlo (L (T + 1) d) (nI i))) := ⟨_, rfl⟩
      rw [← eA6] at hP
      have hP : va_P D vwCl (VW K ad I G A6 L) H := hP
      refine lv_iinc (v := (nI (i + 1))) (lv' := [(4, .int (nI (i + 1))), (0, .ref (ad T)), (1, .int (nI d)), (2, .ref (ad v)), (3, .int (nI f))]) hx hb dX5_copyValues_36 hl (k := 0) rfl (nI_1 i) (by decide) rfl (fun ls hl => ?_)
      refine lv_goto (tgt := 3) hx hb dX5_copyValues_39 (by decide) ?_
      exact ih1 (i + 1) A6 (by omega) (trivial) (eA6.trans (by rw [hg1]; exact cpy_s A v f i _)) H locs hP hS ls (lv_sub hl [0, 1, 2, 3, 4] rfl)
  exact lp1 (dd) 0 A (by omega) (trivial) ((cpy_0 A v f _).symm) _ _ hP hS ls (lv_sub hl [0, 1, 2, 3, 4] rfl)
