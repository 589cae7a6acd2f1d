/-- what is below a node: none, or wd from id fb on -/
def Bel (A : Nat → Nat → Int32) (T B d fb wd : Nat) : Prop := (A (T + 7) d = -1 ∧ wd = 0) ∨ (¬ A (T + 7) d = -1 ∧ A (T + 7) d = nI fb ∧ fb + wd ≤ lT T ∧ vp_in (A (T + 2) d) 6 ∧ A (B + 1) (A (T + 2) d).toNatClampNeg = nI wd)
theorem Bel_w {A : Nat → Nat → Int32} {T B d fb wd : Nat} (h : Bel A T B d fb wd) : (if A (T + 7) d = -1 then 0 else A (B + 1) (A (T + 2) d).toNatClampNeg) = nI wd := by
  rcases h with ⟨h1, rfl⟩ | ⟨h0, h1, h2, h3, h4⟩
  · rw [if_pos h1]; rfl
  · rw [if_neg h0]; exact h4
theorem Bel_p {A : Nat → Nat → Int32} {T B d fb wd : Nat} (h : Bel A T B d fb wd) : ¬ A (T + 7) d = -1 → vp_in (A (T + 2) d) 6 := fun q => by
  rcases h with ⟨h1, _⟩ | ⟨_, _, _, h3, _⟩
  · exact absurd h1 q
  · exact h3
theorem Bel_f {A : Nat → Nat → Int32} {T B d fb wd i : Nat} (h : Bel A T B d fb wd) (hi : i < wd) : A (T + 7) d = nI fb ∧ fb + wd ≤ lT T := by
  rcases h with ⟨_, h1⟩ | ⟨_, h1, h2, _, _⟩
  · omega
  · exact ⟨h1, h2⟩
/-- the nodes from fb on, n of them, are reached -/
def rea (A : Nat → Nat → Int32) (T fb n : Nat) : Nat → Nat → Int32 := fun a b => if a = T + 8 ∧ fb ≤ b ∧ b < fb + n then vp_nar .boolean 1 else A a b
theorem rea_0 (A : Nat → Nat → Int32) (T fb : Nat) : rea A T fb 0 = A := by
  funext a b
  unfold rea
  rw [if_neg (fun h => by omega)]
theorem rea_s (A : Nat → Nat → Int32) (T fb i : Nat) : up2 (rea A T fb i) (T + 8) (fb + i) (vp_nar .boolean 1) = rea A T fb (i + 1) := by
  funext a b
  unfold up2 rea
  by_cases h1 : a = T + 8 ∧ b = fb + i
  · rw [if_pos h1, if_pos ⟨h1.1, by omega⟩]
  · rw [if_neg h1]
    by_cases h2 : a = T + 8 ∧ fb ≤ b ∧ b < fb + i
    · rw [if_pos h2, if_pos ⟨h2.1, by omega⟩]
    · rw [if_neg h2, if_neg (fun h => by rcases Nat.lt_or_ge b (fb + i) with q | q; exact h2 ⟨h.1, h.2.1, q⟩; exact h1 ⟨h.1, by omega⟩)]
theorem rea_j {A : Nat → Nat → Int32} {T fb n a b : Nat} (h : a ≠ T + 8) : rea A T fb n a b = A a b := by simp [rea, h]
/-- the tree with node d taken as the t-th -/
def tkA (A : Nat → Nat → Int32) (T d t : Nat) : Nat → Nat → Int32 := up2 (up2 A (T + 5) d (vp_nar .byte 3)) (T + 9) t (nI d)
theorem tkA_j {A : Nat → Nat → Int32} {T d t a b : Nat} (h : a ≠ T + 5) (h2 : a ≠ T + 9) : tkA A T d t a b = A a b := by unfold tkA; rw [up2_j h2, up2_j h]
theorem Bel_t {A : Nat → Nat → Int32} {T B d t fb wd : Nat} (h : Bel A T B d fb wd) (hb : T + 11 < B) : Bel (tkA A T d t) T B d fb wd := by
  unfold Bel at h ⊢
  rw [tkA_j (by omega) (by omega), tkA_j (by omega) (by omega), tkA_j (by omega) (by omega)]
  exact h

set_option maxHeartbeats 4000000 in
set_option maxRecDepth 100000 in
theorem c_X5_openBelow (l : Launch) (D : va_G) (K : Nat → ClassId) (ad : Nat → Nat) (hap0 : apart ad (fun _ => True)) (T d : Nat) (hT : TrAt T) (hd : d < lT T) (B fb wd : Nat) (hB : PrAt B) (hw6 : wd ≤ 6) (I : Nat → Nat → Int32) (G : Nat → Nat → Nat) (A : Nat → Nat → Int32) (L : Nat → Nat → Int64) (hTB : G T 14 = B) (hbl : Bel A T B d fb wd) : Ci l D K ad yX5_openBelow wsX5_openBelow 1 40 [.ref (ad T), .int (nI d)] (I, G, A, L) (fun (r : Int32) (u : Mem) => r = sm (fun i => if A (T + 3) (fb + i) = 0 then 1 else 0) wd 0 0 ∧ u = (I, G, A, L)) := by
  intro sz
  refine Met.ofW (cc := cX5_openBelow) (maxL := 5) (ret := (some .int)) (by decide) rfl ?_
  intro p e s m args below meth c s₁ Bd hml hv0
  obtain ⟨rfl, hsz, hP, hK⟩ := hv0
  have hx := Bd.exec
  have hb := Bd.bytes
  have hr := Bd.returns
  have hts := atoms_spec (ws := wsX5_openBelow) Bd.pre
  have hown : s.vm.findClass RX5 = some m.cls := findClass_of_methodNamed Bd.named
  have hlocks := Bd.notSynchronized
  have hi5 : ∀ w ∈ u_ws RX5 TX5 16, w ∈ wsX5_openBelow := fun w h => List.mem_cons_of_mem _ (List.mem_append_left _ (List.mem_append_right _ h))
  have hi1 : ∀ w ∈ u_ws RX1 TX1 9, w ∈ wsX5_openBelow := fun w h => List.mem_cons_of_mem _ (List.mem_append_right _ h)
  subst hsz
  have hap := vF_ap hap0 s.heap.size
  have hS : va_S (vF ad s.heap.size) s.heap s.heap [] := va_S.rf
  have hP : va_P D vwCl (VW K ad I G A L) s.heap := hP
  have hl := lv_entry ([.ref (ad T), .int (nI d)]) (n := 5) (Nat.le_of_ble_eq_true rfl)
  rw [lg_entry_eq]
  generalize (lg_sl ([.ref (ad T), .int (nI d)]) ++ List.replicate (5 - (lg_sl ([.ref (ad T), .int (nI d)])).length) Slot.unset).toArray = ls at hl ⊢
  have hl : lv_has ls 5 [(0, .ref (ad T)), (1, .int (nI d))] := hl
  have hl1 := (tr_l hT).2.2.2.2.2.2.2.2.2.2
  have hi1d : vp_in (nI d) (ln (T + 1)) := by rw [(tr_l hT).1]; exact vp_in_nI hd (by omega)
  have hi2d : vp_in (nI d) (ln (T + 2)) := by rw [(tr_l hT).2.1]; exact vp_in_nI hd (by omega)
  have hi3d : vp_in (nI d) (ln (T + 3)) := by rw [(tr_l hT).2.2.1]; exact vp_in_nI hd (by omega)
  have hi4d : vp_in (nI d) (ln (T + 4)) := by rw [(tr_l hT).2.2.2.1]; exact vp_in_nI hd (by omega)
  have hi5d : vp_in (nI d) (ln (T + 5)) := by rw [(tr_l hT).2.2.2.2.1]; exact vp_in_nI hd (by omega)
  have hi6d : vp_in (nI d) (ln (T + 6)) := by rw [(tr_l hT).2.2.2.2.2.1]; exact vp_in_nI hd (by omega)
  have hi7d : vp_in (nI d) (ln (T + 7)) := by rw [(tr_l hT).2.2.2.2.2.2.1]; exact vp_in_nI hd (by omega)
  have hi8d : vp_in (nI d) (ln (T + 8)) := by rw [(tr_l hT).2.2.2.2.2.2.2.1]; exact vp_in_nI hd (by omega)
  refine lv_iconst (v := 0) hx hb dX5_openBelow_0 (by decide) ?_
  refine lv_istore_n (lv' := [(2, .int 0), (0, .ref (ad T)), (1, .int (nI d))]) hx hb dX5_openBelow_1 rfl hl (by decide) rfl (fun ls hl => ?_)
  refine lv_aload_n hx hb dX5_openBelow_2 rfl (lv_at hl 1 rfl) ?_
  refine lv_iload_n hx hb dX5_openBelow_3 rfl (lv_at hl 2 rfl) ?_
  refine vcV (As := [.int (nI d)]) (rest := []) ⟨hx, hb, hml, hown, hts⟩ (c_X5_widthBelow l D K ad hap0 T d hT hd B hB I G A L hTB (Bel_p hbl)) (cwV 1 hts gX5_openBelow_X5_widthBelow rfl rfl rfl (by decide +kernel) ⟨Nat.le_of_ble_eq_true rfl, Nat.le_of_ble_eq_true rfl⟩) hK hP hS (by have := (tr_o hT).1; show _ < 378; omega) (tr_o hT).2.1 (by decide) rfl rfl rfl hl.1 (Nat.le_of_ble_eq_true rfl) (Nat.le_of_ble_eq_true rfl) (Nat.le_of_ble_eq_true rfl) dX5_openBelow_4 (fun r1 u2 H locs hw hP hS => ?_) rfl
  obtain ⟨hr1, rfl⟩ := hw
  have hP : va_P D vwCl (VW K ad I G A L) H := hP
  rw [Bel_w hbl] at hr1
  subst hr1
  refine lv_istore_n (lv' := [(3, .int (nI wd)), (2, .int 0), (0, .ref (ad T)), (1, .int (nI d))]) hx hb dX5_openBelow_7 rfl hl (by decide) rfl (fun ls hl => ?_)
  refine lv_iconst (v := 0) hx hb dX5_openBelow_8 (by decide) ?_
  refine lv_istore (lv' := [(4, .int 0), (3, .int (nI wd)), (2, .int 0), (0, .ref (ad T)), (1, .int (nI d))]) hx hb dX5_openBelow_9 hl (by decide) rfl (fun ls hl => ?_)
  have kx3 : ∀ (a : Int32), sm (fun i => if A (T + 3) (fb + i) = 0 then 1 else 0) 0 wd a = sm (fun i => if A (T + 3) (fb + i) = 0 then 1 else 0) wd 0 0 → ∀ (H : Heap) (locs : List Loc), va_P D vwCl (VW K ad I G A L) H → va_S (vF ad s.heap.size) s.heap H locs → ∀ (ls : Array Slot), lv_has ls 5 [(4, .int (nI wd)), (2, .int a), (3, .int (nI wd)), (0, .ref (ad T)), (1, .int (nI d))] → W p l e ({ frames := 1, cells := 0, slots := 0, locals := 40 }) s m ([.ref (ad T), .int (nI d)] : List Value).toArray below meth c H locs 0 0 (MQ below (va_Qi (fun (r : Int32) (u : Mem) => r = sm (fun i => if A (T + 3) (fb + i) = 0 then 1 else 0) wd 0 0 ∧ u = (I, G, A, L)) (vB D K ad) (vF ad s.heap.size)) ([.ref (ad T), .int (nI d)] : List Value).toArray s 0 0 (vF ad s.heap.size)) (F0 m 43 ls []) := by
    intro a hinv3 H locs hP hS ls hl
    refine lv_iload_n hx hb dX5_openBelow_43 rfl (lv_at hl 1 rfl) ?_
    exact W.iret (v := a) hx hb hr (fun t ht hW => ⟨⟨a, (I, G, A, L), rfl, ⟨hinv3, rfl⟩, by rw [ht]; exact hP, va_K.moved hW.alike hK⟩, hS.F ht⟩) hS.2.2 dX5_openBelow_44
  have lp3 : ∀ (k3 i : Nat) (a : Int32), i + k3 = wd → sm (fun i => if A (T + 3) (fb + i) = 0 then 1 else 0) k3 i a = sm (fun i => if A (T + 3) (fb + i) = 0 then 1 else 0) wd 0 0 → ∀ (H : Heap) (locs : List Loc), va_P D vwCl (VW K ad I G A L) H → va_S (vF ad s.heap.size) s.heap H locs → ∀ (ls : Array Slot), lv_has ls 5 [(4, .int (nI i)), (2, .int a), (3, .int (nI wd)), (0, .ref (ad T)), (1, .int (nI d))] → W p l e ({ frames := 1, cells := 0, slots := 0, locals := 40 }) s m ([.ref (ad T), .int (nI d)] : List Value).toArray below meth c H locs 0 0 (MQ below (va_Qi (fun (r : Int32) (u : Mem) => r = sm (fun i => if A (T + 3) (fb + i) = 0 then 1 else 0) wd 0 0 ∧ u = (I, G, A, L)) (vB D K ad) (vF ad s.heap.size)) ([.ref (ad T), .int (nI d)] : List Value).toArray s 0 0 (vF ad s.heap.size)) (F0 m 11 ls []) := by
    intro k3
    induction k3 with
    | zero =>
      intro i a hk3 hinv3 H locs hP hS ls hl
      obtain rfl : wd = i := by omega
      refine lv_iload hx hb dX5_openBelow_11 (lv_at hl 0 rfl) ?_
      refine lv_iload_n hx hb dX5_openBelow_13 rfl (lv_at hl 2 rfl) ?_
      refine lv_icmp_ge (tgt := 43) hx hb dX5_openBelow_14 (by decide) (fun _ => ?_) (fun c_4 => absurd (nI_le (Nat.le_refl _) (by omega)) c_4)
      exact kx3 a (hinv3) H locs hP hS ls (lv_sub hl [0, 1, 2, 3, 4] rfl)
    | succ k3 ih3 =>
      intro i a hk3 hinv3 H locs hP hS ls hl
      have hlt3 : i < wd := by omega
      have hff := Bel_f hbl hlt3
      have hfi : vp_in (nI (fb + i)) (ln (T + 3)) := by rw [(tr_l hT).2.2.1]; exact vp_in_nI (by omega) (by omega)
      refine lv_iload hx hb dX5_openBelow_11 (lv_at hl 0 rfl) ?_
      refine lv_iload_n hx hb dX5_openBelow_13 rfl (lv_at hl 2 rfl) ?_
      refine lv_icmp_ge (tgt := 43) hx hb dX5_openBelow_14 (by decide) (fun c_5 => absurd c_5 (nI_ge (by omega) (by omega))) (fun _ => ?_)
      refine lv_aload_n hx hb dX5_openBelow_17 rfl (lv_at hl 3 rfl) ?_
      refine vgS hx hb hts hi5 hown hK hP (T) (by have := (tr_o hT).1; show _ < 378; omega) (tr_o hT).2.1 (C := RX5) (T := TX5) (N := 16) rfl 2 (by decide) (by decide) (by decide) (by decide) (T + 3) rfl (hts (.fieldLink RX5 57 "CrateHelpers$Tree" "what" "[B") (by decide +kernel)) (fun _ h9 => h9) dX5_openBelow_18 ?_
      refine lv_aload_n hx hb dX5_openBelow_21 rfl (lv_at hl 3 rfl) ?_
      refine vgS hx hb hts hi5 hown hK hP (T) (by have := (tr_o hT).1; show _ < 378; omega) (tr_o hT).2.1 (C := RX5) (T := TX5) (N := 16) rfl 6 (by decide) (by decide) (by decide) (by decide) (T + 7) rfl (hts (.fieldLink RX5 69 "CrateHelpers$Tree" "firstBelow" "[S") (by decide +kernel)) (fun _ h9 => h9) dX5_openBelow_22 ?_
      refine lv_iload_n hx hb dX5_openBelow_25 rfl (lv_at hl 4 rfl) ?_
      refine xsald hx hb hK hP (T + 7) (by have := (tr_o hT).1; show _ < 378; omega) (tr_o hT).2.2.2.2.2.2.2.2.1 hi7d dX5_openBelow_26 ?_
      rw [nI_clamp (n := d) (by omega)]
      rw [hff.1]
      refine lv_iload hx hb dX5_openBelow_27 (lv_at hl 0 rfl) ?_
      refine lv_iadd hx hb dX5_openBelow_29 ?_
      rw [nI_add]
      refine xbald hx hb hK hP (T + 3) (by have := (tr_o hT).1; show _ < 378; omega) (tr_o hT).2.2.2.2.1 hfi dX5_openBelow_30 ?_
      rw [nI_clamp (n := (fb + i)) (by omega)]
      refine lv_if_ne (tgt := 37) hx hb dX5_openBelow_31 (by decide) (fun c_6 => ?_) (fun c_6 => ?_)
      · refine lv_iinc (v := (nI (i + 1))) (lv' := [(4, .int (nI (i + 1))), (2, .int a), (3, .int (nI wd)), (0, .ref (ad T)), (1, .int (nI d))]) hx hb dX5_openBelow_37 hl (k := 0) rfl (nI_1 i) (by decide) rfl (fun ls hl => ?_)
        refine lv_goto (tgt := 11) hx hb dX5_openBelow_40 (by decide) ?_
        exact ih3 (i + 1) a (by omega) (by rw [← hinv3]; simp [sm, c_6]) H locs hP hS ls (lv_sub hl [0, 1, 2, 3, 4] rfl)
      · refine lv_iinc (v := (a + 1)) (lv' := [(2, .int (a + 1)), (4, .int (nI i)), (3, .int (nI wd)), (0, .ref (ad T)), (1, .int (nI d))]) hx hb dX5_openBelow_34 hl (k := 1) rfl rfl (by decide) rfl (fun ls hl => ?_)
        refine lv_iinc (v := (nI (i + 1))) (lv' := [(4, .int (nI (i + 1))), (2, .int (a + 1)), (3, .int (nI wd)), (0, .ref (ad T)), (1, .int (nI d))]) hx hb dX5_openBelow_37 hl (k := 1) rfl (nI_1 i) (by decide) rfl (fun ls hl => ?_)
        refine lv_goto (tgt := 11) hx hb dX5_openBelow_40 (by decide) ?_
        exact ih3 (i + 1) (a + 1) (by omega) (by rw [← hinv3]; simp [sm, c_6]) H locs hP hS ls (lv_sub hl [0, 1, 2, 3, 4] rfl)
  exact lp3 (wd) 0 0 (by omega) (rfl) _ _ hP hS ls (lv_sub hl [0, 2, 1, 3, 4] rfl)

set_option maxHeartbeats 4000000 in
set_option maxRecDepth 100000 in
theorem c_X5_take (l : Launch) (D : va_G) (K : Nat → ClassId) (ad : Nat → Nat) (hap0 : apart ad (fun _ => True)) (T d : Nat) (hT : TrAt T) (hd : d < lT T) (B fb wd t : Nat) (hB : PrAt B) (hw6 : wd ≤ 6) (ht : t < 250) (I : Nat → Nat → Int32) (G : Nat → Nat → Nat) (A : Nat → Nat → Int32) (L : Nat → Nat → Int64) (hTB : G T 14 = B) (hbl : Bel A T B d fb wd) (hkt : I T 11 = nI t) : Cv l D K ad yX5_take wsX5_take 1 40 [.ref (ad T), .int (nI d)] (I, G, A, L) (fun (u : Mem) => u = (up2 I T 11 (nI t + 1), G, rea (tkA A T d t) T fb wd, L)) := by
  intro sz
  refine Met.ofW (cc := cX5_take) (maxL := 4) (ret := none) (by decide) rfl ?_
  intro p e s m args below meth c s₁ Bd hml hv0
  obtain ⟨rfl, hsz, hP, hK⟩ := hv0
  have hx := Bd.exec
  have hb := Bd.bytes
  have hr := Bd.returns
  have hts := atoms_spec (ws := wsX5_take) Bd.pre
  have hown : s.vm.findClass RX5 = some m.cls := findClass_of_methodNamed Bd.named
  have hlocks := Bd.notSynchronized
  have hi5 : ∀ w ∈ u_ws RX5 TX5 16, w ∈ wsX5_take := fun w h => List.mem_cons_of_mem _ (List.mem_append_left _ (List.mem_append_right _ h))
  have hi1 : ∀ w ∈ u_ws RX1 TX1 9, w ∈ wsX5_take := fun w h => List.mem_cons_of_mem _ (List.mem_append_right _ h)
  subst hsz
  have hap := vF_ap hap0 s.heap.size
  have hS : va_S (vF ad s.heap.size) s.heap s.heap [] := va_S.rf
  have hP : va_P D vwCl (VW K ad I G A L) s.heap := hP
  have hl := lv_entry ([.ref (ad T), .int (nI d)]) (n := 4) (Nat.le_of_ble_eq_true rfl)
  rw [lg_entry_eq]
  generalize (lg_sl ([.ref (ad T), .int (nI d)]) ++ List.replicate (4 - (lg_sl ([.ref (ad T), .int (nI d)])).length) Slot.unset).toArray = ls at hl ⊢
  have hl : lv_has ls 4 [(0, .ref (ad T)), (1, .int (nI d))] := hl
  have hl1 := (tr_l hT).2.2.2.2.2.2.2.2.2.2
  have hi1d : vp_in (nI d) (ln (T + 1)) := by rw [(tr_l hT).1]; exact vp_in_nI hd (by omega)
  have hi2d : vp_in (nI d) (ln (T + 2)) := by rw [(tr_l hT).2.1]; exact vp_in_nI hd (by omega)
  have hi3d : vp_in (nI d) (ln (T + 3)) := by rw [(tr_l hT).2.2.1]; exact vp_in_nI hd (by omega)
  have hi4d : vp_in (nI d) (ln (T + 4)) := by rw [(tr_l hT).2.2.2.1]; exact vp_in_nI hd (by omega)
  have hi5d : vp_in (nI d) (ln (T + 5)) := by rw [(tr_l hT).2.2.2.2.1]; exact vp_in_nI hd (by omega)
  have hi6d : vp_in (nI d) (ln (T + 6)) := by rw [(tr_l hT).2.2.2.2.2.1]; exact vp_in_nI hd (by omega)
  have hi7d : vp_in (nI d) (ln (T + 7)) := by rw [(tr_l hT).2.2.2.2.2.2.1]; exact vp_in_nI hd (by omega)
  have hi8d : vp_in (nI d) (ln (T + 8)) := by rw [(tr_l hT).2.2.2.2.2.2.2.1]; exact vp_in_nI hd (by omega)
  have hB58 := pr_ge hB
  have hT11 := (tr_o hT).1
  have hit : vp_in (nI t) (ln (T + 9)) := by rw [(tr_l hT).2.2.2.2.2.2.2.2.1]; exact vp_in_nI ht (by omega)
  have hbt : Bel (tkA A T d t) T B d fb wd := Bel_t hbl (by omega)
  refine lv_aload_n hx hb dX5_take_0 rfl (lv_at hl 0 rfl) ?_
  refine vgI hx hb hts hi5 hown hK hP (T) (by have := (tr_o hT).1; show _ < 378; omega) (tr_o hT).2.1 (C := RX5) (T := TX5) (N := 16) rfl 11 (by decide) (by decide) (by decide) (by decide) (hts (.fieldLink RX5 22 "CrateHelpers$Tree" "taken" "I") (by decide +kernel)) (fun _ h9 => h9) dX5_take_1 ?_
  rw [hkt]
  refine lv_sipush (v := 250) hx hb dX5_take_4 (by decide) ?_
  refine lv_icmp_lt (tgt := 11) hx hb dX5_take_7 (by decide) (fun _ => ?_) (fun c9 => absurd (show nI t < nI 250 from nI_lt ht (by omega)) c9)
  refine lv_aload_n hx hb dX5_take_11 rfl (lv_at hl 0 rfl) ?_
  refine vgS hx hb hts hi5 hown hK hP (T) (by have := (tr_o hT).1; show _ < 378; omega) (tr_o hT).2.1 (C := RX5) (T := TX5) (N := 16) rfl 4 (by decide) (by decide) (by decide) (by decide) (T + 5) rfl (hts (.fieldLink RX5 63 "CrateHelpers$Tree" "stage" "[B") (by decide +kernel)) (fun _ h9 => h9) dX5_take_12 ?_
  refine lv_iload_n hx hb dX5_take_15 rfl (lv_at hl 1 rfl) ?_
  refine lv_iconst (v := 3) hx hb dX5_take_16 (by decide) ?_
  refine xbast hx hb hK hP hap hS (T + 5) (by have := (tr_o hT).1; show _ < 378; omega) (tr_o hT).2.2.2.2.2.2.1 hi5d dX5_take_17 (fun H locs hP hS => ?_)
  rw [nI_clamp (n := d) (by omega)] at hP
  obtain ⟨A1, eA1⟩ : ∃ z, z = up2 A (T + 5) d (vp_nar .byte 3) := ⟨_, rfl⟩
  rw [← eA1] at hP
  have hP : va_P D vwCl (VW K ad I G A1 L) H := hP
  refine lv_aload_n hx hb dX5_take_18 rfl (lv_at hl 0 rfl) ?_
  refine vgS hx hb hts hi5 hown hK hP (T) (by have := (tr_o hT).1; show _ < 378; omega) (tr_o hT).2.1 (C := RX5) (T := TX5) (N := 16) rfl 8 (by decide) (by decide) (by decide) (by decide) (T + 9) rfl (hts (.fieldLink RX5 11 "CrateHelpers$Tree" "walk" "[I") (by decide +kernel)) (fun _ h9 => h9) dX5_take_19 ?_
  refine lv_aload_n hx hb dX5_take_22 rfl (lv_at hl 0 rfl) ?_
  refine vgI hx hb hts hi5 hown hK hP (T) (by have := (tr_o hT).1; show _ < 378; omega) (tr_o hT).2.1 (C := RX5) (T := TX5) (N := 16) rfl 11 (by decide) (by decide) (by decide) (by decide) (hts (.fieldLink RX5 22 "CrateHelpers$Tree" "taken" "I") (by decide +kernel)) (fun _ h9 => h9) dX5_take_23 ?_
  rw [hkt]
  refine lv_iload_n hx hb dX5_take_26 rfl (lv_at hl 1 rfl) ?_
  refine xiast hx hb hK hP hap hS (T + 9) (by have := (tr_o hT).1; show _ < 378; omega) (tr_o hT).2.2.2.2.2.2.2.2.2.2.1 hit dX5_take_27 (fun H locs hP hS => ?_)
  rw [nI_clamp (n := t) (by omega)] at hP
  obtain ⟨A2, eA2⟩ : ∃ z, z = up2 A1 (T + 9) t ((nI d)) := ⟨_, rfl⟩
  rw [← eA2] at hP
  have hP : va_P D vwCl (VW K ad I G A2 L) H := hP
  rw [show A2 = tkA A T d t from by rw [eA2, eA1]; rfl] at hP
  have hP : va_P D vwCl (VW K ad I G (tkA A T d t) L) H := hP
  refine lv_aload_n hx hb dX5_take_28 rfl (lv_at hl 0 rfl) ?_
  refine lv_dup hx hb dX5_take_29 rfl ?_
  refine vgI hx hb hts hi5 hown hK hP (T) (by have := (tr_o hT).1; show _ < 378; omega) (tr_o hT).2.1 (C := RX5) (T := TX5) (N := 16) rfl 11 (by decide) (by decide) (by decide) (by decide) (hts (.fieldLink RX5 22 "CrateHelpers$Tree" "taken" "I") (by decide +kernel)) (fun _ h9 => h9) dX5_take_30 ?_
  rw [hkt]
  refine lv_iconst (v := 1) hx hb dX5_take_33 (by decide) ?_
  refine lv_iadd hx hb dX5_take_34 ?_
  refine vpI (v := ((nI t) + 1)) (ty := .int) hx hb hts hi5 tyX5 tyX5_ok nmX5 hown hK hP hap hS (T) (by have := (tr_o hT).1; show _ < 378; omega) (tr_o hT).2.1 (C := RX5) (T := TX5) (N := 16) rfl 11 (by decide) (by decide) (by decide) (by decide) (hts (.fieldLink RX5 22 "CrateHelpers$Tree" "taken" "I") (by decide +kernel)) (fun _ h9 => h9) rfl (by decide +kernel) rfl rfl dX5_take_35 (fun H locs hP hS => ?_)
  obtain ⟨I3, eI3⟩ : ∃ z, z = up2 I T 11 ((nI t) + 1) := ⟨_, rfl⟩
  rw [← eI3] at hP
  have hP : va_P D vwCl (VW K ad I3 G (tkA A T d t) L) H := hP
  refine lv_aload_n hx hb dX5_take_38 rfl (lv_at hl 0 rfl) ?_
  refine lv_iload_n hx hb dX5_take_39 rfl (lv_at hl 1 rfl) ?_
  refine vcV (As := [.int (nI d)]) (rest := []) ⟨hx, hb, hml, hown, hts⟩ (c_X5_widthBelow l D K ad hap0 T d hT hd B hB I3 G (tkA A T d t) L hTB (Bel_p hbt)) (cwV 1 hts gX5_take_X5_widthBelow rfl rfl rfl (by decide +kernel) ⟨Nat.le_of_ble_eq_true rfl, Nat.le_of_ble_eq_true rfl⟩) hK hP hS (by have := (tr_o hT).1; show _ < 378; omega) (tr_o hT).2.1 (by decide) rfl rfl rfl hl.1 (Nat.le_of_ble_eq_true rfl) (Nat.le_of_ble_eq_true rfl) (Nat.le_of_ble_eq_true rfl) dX5_take_40 (fun r4 u5 H locs hw hP hS => ?_) rfl
  obtain ⟨hr4, rfl⟩ := hw
  have hP : va_P D vwCl (VW K ad I3 G (tkA A T d t) L) H := hP
  rw [Bel_w hbt] at hr4
  subst hr4
  refine lv_istore_n (lv' := [(2, .int (nI wd)), (0, .ref (ad T)), (1, .int (nI d))]) hx hb dX5_take_43 rfl hl (by decide) rfl (fun ls hl => ?_)
  refine lv_iconst (v := 0) hx hb dX5_take_44 (by decide) ?_
  refine lv_istore_n (lv' := [(3, .int 0), (2, .int (nI wd)), (0, .ref (ad T)), (1, .int (nI d))]) hx hb dX5_take_45 rfl hl (by decide) rfl (fun ls hl => ?_)
  have kx6 : ∀ (A1 : Nat → Nat → Int32), True → A1 = rea (tkA A T d t) T fb wd → ∀ (H : Heap) (locs : List Loc), va_P D vwCl (VW K ad I3 G A1 L) H → va_S (vF ad s.heap.size) s.heap H locs → ∀ (ls : Array Slot), lv_has ls 4 [(2, .int (nI wd)), (0, .ref (ad T)), (1, .int (nI d))] → W p l e ({ frames := 1, cells := 0, slots := 0, locals := 40 }) s m ([.ref (ad T), .int (nI d)] : List Value).toArray below meth c H locs 0 0 (MQ below (va_Qv (fun (u : Mem) => u = (up2 I T 11 (nI t + 1), G, rea (tkA A T d t) T fb wd, L)) (vB D K ad) (vF ad s.heap.size)) ([.ref (ad T), .int (nI d)] : List Value).toArray s 0 0 (vF ad s.heap.size)) (F0 m 71 ls []) := by
    intro A1 hinv6 hg6 H locs hP hS ls hl
    exact W.vret hx hb hr (fun t ht hW => ⟨⟨(I3, G, A1, L), rfl, by rw [hg6, eI3], by rw [ht]; exact hP, va_K.moved hW.alike hK⟩, hS.F ht⟩) hS.2.2 dX5_take_71
  have lp6 : ∀ (k6 i : Nat) (A1 : Nat → Nat → Int32), i + k6 = wd → True → A1 = rea (tkA A T d t) T fb i → ∀ (H : Heap) (locs : List Loc), va_P D vwCl (VW K ad I3 G A1 L) H → va_S (vF ad s.heap.size) s.heap H locs → ∀ (ls : Array Slot), lv_has ls 4 [(3, .int (nI i)), (2, .int (nI wd)), (0, .ref (ad T)), (1, .int (nI d))] → W p l e ({ frames := 1, cells := 0, slots := 0, locals := 40 }) s m ([.ref (ad T), .int (nI d)] : List Value).toArray below meth c H locs 0 0 (MQ below (va_Qv (fun (u : Mem) => u = (up2 I T 11 (nI t + 1), G, rea (tkA A T d t) T fb wd, L)) (vB D K ad) (vF ad s.heap.size)) ([.ref (ad T), .int (nI d)] : List Value).toArray s 0 0 (vF ad s.heap.size)) (F0 m 46 ls []) := by
    intro k6
    induction k6 with
    | zero =>
      intro i A1 hk6 hinv6 hg6 H locs hP hS ls hl
      obtain rfl : wd = i := by omega
      refine lv_iload_n hx hb dX5_take_46 rfl (lv_at hl 0 rfl) ?_
      refine lv_iload_n hx hb dX5_take_47 rfl (lv_at hl 1 rfl) ?_
      refine lv_icmp_ge (tgt := 71) hx hb dX5_take_48 (by decide) (fun _ => ?_) (fun c_7 => absurd (nI_le (Nat.le_refl _) (by omega)) c_7)
      exact kx6 A1 (trivial) (hg6) H locs hP hS ls (lv_sub hl [1, 2, 3] rfl)
    | succ k6 ih6 =>
      intro i A1 hk6 hinv6 hg6 H locs hP hS ls hl
      have hlt6 : i < wd := by omega
      have hff := Bel_f hbt hlt6
      have hfi : vp_in (nI (fb + i)) (ln (T + 8)) := by rw [(tr_l hT).2.2.2.2.2.2.2.1]; exact vp_in_nI (by omega) (by omega)
      have hfb7 : A1 (T + 7) d = nI fb := by rw [hg6, rea_j (by omega)]; exact hff.1
      refine lv_iload_n hx hb dX5_take_46 rfl (lv_at hl 0 rfl) ?_
      refine lv_iload_n hx hb dX5_take_47 rfl (lv_at hl 1 rfl) ?_
      refine lv_icmp_ge (tgt := 71) hx hb dX5_take_48 (by decide) (fun c_8 => absurd c_8 (nI_ge (by omega) (by omega))) (fun _ => ?_)
      refine lv_aload_n hx hb dX5_take_51 rfl (lv_at hl 2 rfl) ?_
      refine vgS hx hb hts hi5 hown hK hP (T) (by have := (tr_o hT).1; show _ < 378; omega) (tr_o hT).2.1 (C := RX5) (T := TX5) (N := 16) rfl 7 (by decide) (by decide) (by decide) (by decide) (T + 8) rfl (hts (.fieldLink RX5 73 "CrateHelpers$Tree" "isReached" "[Z") (by decide +kernel)) (fun _ h9 => h9) dX5_take_52 ?_
      refine lv_aload_n hx hb dX5_take_55 rfl (lv_at hl 2 rfl) ?_
      refine vgS hx hb hts hi5 hown hK hP (T) (by have := (tr_o hT).1; show _ < 378; omega) (tr_o hT).2.1 (C := RX5) (T := TX5) (N := 16) rfl 6 (by decide) (by decide) (by decide) (by decide) (T + 7) rfl (hts (.fieldLink RX5 69 "CrateHelpers$Tree" "firstBelow" "[S") (by decide +kernel)) (fun _ h9 => h9) dX5_take_56 ?_
      refine lv_iload_n hx hb dX5_take_59 rfl (lv_at hl 3 rfl) ?_
      refine xsald hx hb hK hP (T + 7) (by have := (tr_o hT).1; show _ < 378; omega) (tr_o hT).2.2.2.2.2.2.2.2.1 hi7d dX5_take_60 ?_
      rw [nI_clamp (n := d) (by omega)]
      rw [hfb7]
      refine lv_iload_n hx hb dX5_take_61 rfl (lv_at hl 0 rfl) ?_
      refine lv_iadd hx hb dX5_take_62 ?_
      rw [nI_add]
      refine lv_iconst (v := 1) hx hb dX5_take_63 (by decide) ?_
      refine xzast hx hb hK hP hap hS (T + 8) (by have := (tr_o hT).1; show _ < 378; omega) (tr_o hT).2.2.2.2.2.2.2.2.2.1 hfi dX5_take_64 (fun H locs hP hS => ?_)
      rw [nI_clamp (n := (fb + i)) (by omega)] at hP
      obtain ⟨A9, eA9⟩ : ∃ z, z = up2 A1 (T + 8) (fb + i) (vp_nar .boolean 1) := ⟨_, rfl⟩
      rw [← eA9] at hP
      have hP : va_P D vwCl (VW K ad I3 G A9 L) H := hP
      refine lv_iinc (v := (nI (i + 1))) (lv' := [(3, .int (nI (i + 1))), (2, .int (nI wd)), (0, .ref (ad T)), (1, .int (nI d))]) hx hb dX5_take_65 hl (k := 0) rfl (nI_1 i) (by decide) rfl (fun ls hl => ?_)
      refine lv_goto (tgt := 46) hx hb dX5_take_68 (by decide) ?_
      exact ih6 (i + 1) A9 (by omega) (trivial) (eA9.trans (by rw [hg6]; exact rea_s _ T fb i)) H locs hP hS ls (lv_sub hl [0, 1, 2, 3] rfl)
  exact lp6 (wd) 0 (tkA A T d t) (by omega) (trivial) ((rea_0 _ T fb).symm) _ _ hP hS ls (lv_sub hl [0, 1, 2, 3] rfl)
