set_option maxHeartbeats 4000000 in
set_option maxRecDepth 100000 in
/-- the law: answer -/
theorem law_c14 {p : Program} {l : Launch} {e : Env} {s : State} {m : MethodId} {below : List Frame} {meth : Method} {c : Code} {dC : Nat → ClassId} {dI : Nat → Nat → Nat} {b N : Nat} {xs : Nat → Int32} {K : Nat → ClassId} {ad : Nat → Nat} (C0 : lw_At p s m meth c b N xs) (hN : N ≤ 2560) (hK : va_K (dC, dI) vwCl (tyA K) s) (hap : apart ad (fun _ => True)) (hge : ∀ j, j < NS → s.heap.size ≤ ad j) {n : Nat} (hn : 5 * n + 5 ≤ N) (I : Nat → Nat → Int32) (G : Nat → Nat → Nat) (A : Nat → Nat → Int32) (L : Nat → Nat → Int64) (h : Rel n I G A L I A) (H : Heap) (locs : List Loc) (hP : va_P (dC, dI) vwCl (VW K ad I G A L) H) (hS : va_S (fun q : Nat => s.heap.size ≤ q) s.heap H locs) (ls : Array Slot) (hl : lv_has ls 4 [(3, .int (nI (5 * n))), (2, .ref (ad 318)), (1, .ref (ad 0)), (0, .ref b)]) (kk : ∀ (I : Nat → Nat → Int32) (G : Nat → Nat → Nat) (A : Nat → Nat → Int32) (L : Nat → Nat → Int64) (H : Heap) (locs : List Loc), Rel (n + 1) I G A L I A → va_P (dC, dI) vwCl (VW K ad I G A L) H → va_S (fun q : Nat => s.heap.size ≤ q) s.heap H locs → W p l e room_1 s m #[Value.ref b] below meth c H locs 378 153906 (lw_Z below #[Value.ref b] s) (F0 m 1044 ls [])) : W p l e room_1 s m #[Value.ref b] below meth c H locs 378 153906 (lw_Z below #[Value.ref b] s) (F0 m 602 ls []) := by
  obtain ⟨hx, hb, hr, hml, hown, hts0, hX, hbl, hlocks, hgv⟩ := id C0
  have hts : ∀ w ∈ wsL_law, w.before #[Value.ref b] s = true := fun w h => hts0 w (wsL_law_in w h)
  have hown : s.vm.findClass RL = some m.cls := hown
  have hA : ∀ q : Nat, s.heap.size ≤ q → (fun q : Nat => s.heap.size ≤ q) q := fun _ h => h
  have hbA : ¬ (fun q : Nat => s.heap.size ≤ q) b := Nat.not_le.mpr hbl
  obtain ⟨r, J2, e1, e2, hr1⟩ := g_answer (xs (nI (5 * n) + 1).toNatClampNeg) (xs (nI (5 * n) + 2).toNatClampNeg) h 
  refine lv_aload_n hx hb dL_law_602 rfl (lv_at hl 2 rfl) ?_
  refine lv_aload_n hx hb dL_law_603 rfl (lv_at hl 3 rfl) ?_
  refine lv_iload_n hx hb dL_law_604 rfl (lv_at hl 0 rfl) ?_
  refine lv_iconst (v := 1) hx hb dL_law_605 (by decide) ?_
  refine lv_iadd hx hb dL_law_606 ?_
  refine va_sld hx hb hX hbl hbA hS (lw_in hN hn 1 (by decide)) dL_law_607 ?_
  refine lv_aload_n hx hb dL_law_608 rfl (lv_at hl 3 rfl) ?_
  refine lv_iload_n hx hb dL_law_609 rfl (lv_at hl 0 rfl) ?_
  refine lv_iconst (v := 2) hx hb dL_law_610 (by decide) ?_
  refine lv_iadd hx hb dL_law_611 ?_
  refine va_sld hx hb hX hbl hbA hS (lw_in hN hn 2 (by decide)) dL_law_612 ?_
  refine vcL (j := 0) (As := [.int (xs (nI (5 * n) + 1).toNatClampNeg), .int (xs (nI (5 * n) + 2).toNatClampNeg)]) (rest := []) ⟨hx, hb, hml, hown, hts⟩ (e_X6_answer l (dC, dI) K ad hap _ _ _ _ _ _  _  e1) (cwV 2 hts gL_law_X6_answer rfl rfl rfl (by decide +kernel) ⟨Nat.le_of_ble_eq_true rfl, Nat.le_of_ble_eq_true rfl⟩) hK hP hS hge (by decide) (show kd 0 = 6 by decide) (by decide) rfl rfl rfl hl.1 (Nat.le_of_ble_eq_true rfl) (Nat.le_of_ble_eq_true rfl) (Nat.le_of_ble_eq_true rfl) dL_law_613 (fun q6 u H locs hw hP hS => ?_) rfl
  obtain ⟨rfl, rfl⟩ := hw
  have hP : va_P (dC, dI) vwCl (VW K ad I G A L) H := hP
  refine lv_pop hx hb dL_law_616 rfl ?_
  refine lv_aload_n hx hb dL_law_617 rfl (lv_at hl 1 rfl) ?_
  refine lv_aload_n hx hb dL_law_618 rfl (lv_at hl 3 rfl) ?_
  refine lv_iload_n hx hb dL_law_619 rfl (lv_at hl 0 rfl) ?_
  refine lv_iconst (v := 1) hx hb dL_law_620 (by decide) ?_
  refine lv_iadd hx hb dL_law_621 ?_
  refine va_sld hx hb hX hbl hbA hS (lw_in hN hn 1 (by decide)) dL_law_622 ?_
  refine lv_aload_n hx hb dL_law_623 rfl (lv_at hl 3 rfl) ?_
  refine lv_iload_n hx hb dL_law_624 rfl (lv_at hl 0 rfl) ?_
  refine lv_iconst (v := 2) hx hb dL_law_625 (by decide) ?_
  refine lv_iadd hx hb dL_law_626 ?_
  refine va_sld hx hb hX hbl hbA hS (lw_in hN hn 2 (by decide)) dL_law_627 ?_
  refine vcL (j := 318) (As := [.int (xs (nI (5 * n) + 1).toNatClampNeg), .int (xs (nI (5 * n) + 2).toNatClampNeg)]) (rest := []) ⟨hx, hb, hml, hown, hts⟩ (e_X7_answer l (dC, dI) K ad hap _ _ _ _ _ _  _ _ e2) (cwV 2 hts gL_law_X7_answer rfl rfl rfl (by decide +kernel) ⟨Nat.le_of_ble_eq_true rfl, Nat.le_of_ble_eq_true rfl⟩) hK hP hS hge (by decide) (show kd 318 = 7 by decide) (by decide) rfl rfl rfl hl.1 (Nat.le_of_ble_eq_true rfl) (Nat.le_of_ble_eq_true rfl) (Nat.le_of_ble_eq_true rfl) dL_law_628 (fun q7 u H locs hw hP hS => ?_) rfl
  obtain ⟨rfl, rfl⟩ := hw
  have hP : va_P (dC, dI) vwCl (VW K ad J2 G A L) H := hP
  refine lv_pop hx hb dL_law_631 rfl ?_
  refine lv_goto (tgt := 1044) hx hb dL_law_632 (by decide) ?_
  exact kk J2 G A L H locs hr1 hP hS
set_option maxHeartbeats 4000000 in
set_option maxRecDepth 100000 in
/-- the law: walked -/
theorem law_c15 {p : Program} {l : Launch} {e : Env} {s : State} {m : MethodId} {below : List Frame} {meth : Method} {c : Code} {dC : Nat → ClassId} {dI : Nat → Nat → Nat} {b N : Nat} {xs : Nat → Int32} {K : Nat → ClassId} {ad : Nat → Nat} (C0 : lw_At p s m meth c b N xs) (hN : N ≤ 2560) (hK : va_K (dC, dI) vwCl (tyA K) s) (hap : apart ad (fun _ => True)) (hge : ∀ j, j < NS → s.heap.size ≤ ad j) {n : Nat} (hn : 5 * n + 5 ≤ N) (I : Nat → Nat → Int32) (G : Nat → Nat → Nat) (A : Nat → Nat → Int32) (L : Nat → Nat → Int64) (h : Rel n I G A L I A) (H : Heap) (locs : List Loc) (hP : va_P (dC, dI) vwCl (VW K ad I G A L) H) (hS : va_S (fun q : Nat => s.heap.size ≤ q) s.heap H locs) (ls : Array Slot) (hl : lv_has ls 4 [(3, .int (nI (5 * n))), (2, .ref (ad 318)), (1, .ref (ad 0)), (0, .ref b)]) (kk : ∀ (I : Nat → Nat → Int32) (G : Nat → Nat → Nat) (A : Nat → Nat → Int32) (L : Nat → Nat → Int64) (H : Heap) (locs : List Loc), Rel (n + 1) I G A L I A → va_P (dC, dI) vwCl (VW K ad I G A L) H → va_S (fun q : Nat => s.heap.size ≤ q) s.heap H locs → W p l e room_1 s m #[Value.ref b] below meth c H locs 378 153906 (lw_Z below #[Value.ref b] s) (F0 m 1044 ls [])) : W p l e room_1 s m #[Value.ref b] below meth c H locs 378 153906 (lw_Z below #[Value.ref b] s) (F0 m 635 ls []) := by
  obtain ⟨hx, hb, hr, hml, hown, hts0, hX, hbl, hlocks, hgv⟩ := id C0
  have hts : ∀ w ∈ wsL_law, w.before #[Value.ref b] s = true := fun w h => hts0 w (wsL_law_in w h)
  have hown : s.vm.findClass RL = some m.cls := hown
  have hA : ∀ q : Nat, s.heap.size ≤ q → (fun q : Nat => s.heap.size ≤ q) q := fun _ h => h
  have hbA : ¬ (fun q : Nat => s.heap.size ≤ q) b := Nat.not_le.mpr hbl
  obtain ⟨r, J2, e1, e2, hr1⟩ := g_walked (xs (nI (5 * n) + 1).toNatClampNeg) (xs (nI (5 * n) + 2).toNatClampNeg) h 
  refine lv_aload_n hx hb dL_law_635 rfl (lv_at hl 2 rfl) ?_
  refine lv_aload_n hx hb dL_law_636 rfl (lv_at hl 3 rfl) ?_
  refine lv_iload_n hx hb dL_law_637 rfl (lv_at hl 0 rfl) ?_
  refine lv_iconst (v := 1) hx hb dL_law_638 (by decide) ?_
  refine lv_iadd hx hb dL_law_639 ?_
  refine va_sld hx hb hX hbl hbA hS (lw_in hN hn 1 (by decide)) dL_law_640 ?_
  refine lv_aload_n hx hb dL_law_641 rfl (lv_at hl 3 rfl) ?_
  refine lv_iload_n hx hb dL_law_642 rfl (lv_at hl 0 rfl) ?_
  refine lv_iconst (v := 2) hx hb dL_law_643 (by decide) ?_
  refine lv_iadd hx hb dL_law_644 ?_
  refine va_sld hx hb hX hbl hbA hS (lw_in hN hn 2 (by decide)) dL_law_645 ?_
  refine vcL (j := 0) (As := [.int (xs (nI (5 * n) + 1).toNatClampNeg), .int (xs (nI (5 * n) + 2).toNatClampNeg)]) (rest := []) ⟨hx, hb, hml, hown, hts⟩ (e_X6_walked l (dC, dI) K ad hap _ _ _ _ _ _  _  e1) (cwV 2 hts gL_law_X6_walked rfl rfl rfl (by decide +kernel) ⟨Nat.le_of_ble_eq_true rfl, Nat.le_of_ble_eq_true rfl⟩) hK hP hS hge (by decide) (show kd 0 = 6 by decide) (by decide) rfl rfl rfl hl.1 (Nat.le_of_ble_eq_true rfl) (Nat.le_of_ble_eq_true rfl) (Nat.le_of_ble_eq_true rfl) dL_law_646 (fun q6 u H locs hw hP hS => ?_) rfl
  obtain ⟨rfl, rfl⟩ := hw
  have hP : va_P (dC, dI) vwCl (VW K ad I G A L) H := hP
  refine lv_pop hx hb dL_law_649 rfl ?_
  refine lv_aload_n hx hb dL_law_650 rfl (lv_at hl 1 rfl) ?_
  refine lv_aload_n hx hb dL_law_651 rfl (lv_at hl 3 rfl) ?_
  refine lv_iload_n hx hb dL_law_652 rfl (lv_at hl 0 rfl) ?_
  refine lv_iconst (v := 1) hx hb dL_law_653 (by decide) ?_
  refine lv_iadd hx hb dL_law_654 ?_
  refine va_sld hx hb hX hbl hbA hS (lw_in hN hn 1 (by decide)) dL_law_655 ?_
  refine lv_aload_n hx hb dL_law_656 rfl (lv_at hl 3 rfl) ?_
  refine lv_iload_n hx hb dL_law_657 rfl (lv_at hl 0 rfl) ?_
  refine lv_iconst (v := 2) hx hb dL_law_658 (by decide) ?_
  refine lv_iadd hx hb dL_law_659 ?_
  refine va_sld hx hb hX hbl hbA hS (lw_in hN hn 2 (by decide)) dL_law_660 ?_
  refine vcL (j := 318) (As := [.int (xs (nI (5 * n) + 1).toNatClampNeg), .int (xs (nI (5 * n) + 2).toNatClampNeg)]) (rest := []) ⟨hx, hb, hml, hown, hts⟩ (e_X7_walked l (dC, dI) K ad hap _ _ _ _ _ _  _ _ e2) (cwV 2 hts gL_law_X7_walked rfl rfl rfl (by decide +kernel) ⟨Nat.le_of_ble_eq_true rfl, Nat.le_of_ble_eq_true rfl⟩) hK hP hS hge (by decide) (show kd 318 = 7 by decide) (by decide) rfl rfl rfl hl.1 (Nat.le_of_ble_eq_true rfl) (Nat.le_of_ble_eq_true rfl) (Nat.le_of_ble_eq_true rfl) dL_law_661 (fun q7 u H locs hw hP hS => ?_) rfl
  obtain ⟨rfl, rfl⟩ := hw
  have hP : va_P (dC, dI) vwCl (VW K ad J2 G A L) H := hP
  refine lv_pop hx hb dL_law_664 rfl ?_
  refine lv_goto (tgt := 1044) hx hb dL_law_665 (by decide) ?_
  exact kk J2 G A L H locs hr1 hP hS
set_option maxHeartbeats 4000000 in
set_option maxRecDepth 100000 in
/-- the law: closed -/
theorem law_c16 {p : Program} {l : Launch} {e : Env} {s : State} {m : MethodId} {below : List Frame} {meth : Method} {c : Code} {dC : Nat → ClassId} {dI : Nat → Nat → Nat} {b N : Nat} {xs : Nat → Int32} {K : Nat → ClassId} {ad : Nat → Nat} (C0 : lw_At p s m meth c b N xs) (hN : N ≤ 2560) (hK : va_K (dC, dI) vwCl (tyA K) s) (hap : apart ad (fun _ => True)) (hge : ∀ j, j < NS → s.heap.size ≤ ad j) {n : Nat} (hn : 5 * n + 5 ≤ N) (I : Nat → Nat → Int32) (G : Nat → Nat → Nat) (A : Nat → Nat → Int32) (L : Nat → Nat → Int64) (h : Rel n I G A L I A) (H : Heap) (locs : List Loc) (hP : va_P (dC, dI) vwCl (VW K ad I G A L) H) (hS : va_S (fun q : Nat => s.heap.size ≤ q) s.heap H locs) (ls : Array Slot) (hl : lv_has ls 4 [(3, .int (nI (5 * n))), (2, .ref (ad 318)), (1, .ref (ad 0)), (0, .ref b)]) (kk : ∀ (I : Nat → Nat → Int32) (G : Nat → Nat → Nat) (A : Nat → Nat → Int32) (L : Nat → Nat → Int64) (H : Heap) (locs : List Loc), Rel (n + 1) I G A L I A → va_P (dC, dI) vwCl (VW K ad I G A L) H → va_S (fun q : Nat => s.heap.size ≤ q) s.heap H locs → W p l e room_1 s m #[Value.ref b] below meth c H locs 378 153906 (lw_Z below #[Value.ref b] s) (F0 m 1044 ls [])) : W p l e room_1 s m #[Value.ref b] below meth c H locs 378 153906 (lw_Z below #[Value.ref b] s) (F0 m 668 ls []) := by
  obtain ⟨hx, hb, hr, hml, hown, hts0, hX, hbl, hlocks, hgv⟩ := id C0
  have hts : ∀ w ∈ wsL_law, w.before #[Value.ref b] s = true := fun w h => hts0 w (wsL_law_in w h)
  have hown : s.vm.findClass RL = some m.cls := hown
  have hA : ∀ q : Nat, s.heap.size ≤ q → (fun q : Nat => s.heap.size ≤ q) q := fun _ h => h
  have hbA : ¬ (fun q : Nat => s.heap.size ≤ q) b := Nat.not_le.mpr hbl
  obtain ⟨r, J2, e1, e2, hr1⟩ := g_closed (xs (nI (5 * n) + 1).toNatClampNeg) (xs (nI (5 * n) + 2).toNatClampNeg) (xs (nI (5 * n) + 3).toNatClampNeg) h 
  refine lv_aload_n hx hb dL_law_668 rfl (lv_at hl 2 rfl) ?_
  refine lv_aload_n hx hb dL_law_669 rfl (lv_at hl 3 rfl) ?_
  refine lv_iload_n hx hb dL_law_670 rfl (lv_at hl 0 rfl) ?_
  refine lv_iconst (v := 1) hx hb dL_law_671 (by decide) ?_
  refine lv_iadd hx hb dL_law_672 ?_
  refine va_sld hx hb hX hbl hbA hS (lw_in hN hn 1 (by decide)) dL_law_673 ?_
  refine lv_aload_n hx hb dL_law_674 rfl (lv_at hl 3 rfl) ?_
  refine lv_iload_n hx hb dL_law_675 rfl (lv_at hl 0 rfl) ?_
  refine lv_iconst (v := 2) hx hb dL_law_676 (by decide) ?_
  refine lv_iadd hx hb dL_law_677 ?_
  refine va_sld hx hb hX hbl hbA hS (lw_in hN hn 2 (by decide)) dL_law_678 ?_
  refine lv_aload_n hx hb dL_law_679 rfl (lv_at hl 3 rfl) ?_
  refine lv_iload_n hx hb dL_law_680 rfl (lv_at hl 0 rfl) ?_
  refine lv_iconst (v := 3) hx hb dL_law_681 (by decide) ?_
  refine lv_iadd hx hb dL_law_682 ?_
  refine va_sld hx hb hX hbl hbA hS (lw_in hN hn 3 (by decide)) dL_law_683 ?_
  refine vcL (j := 0) (As := [.int (xs (nI (5 * n) + 1).toNatClampNeg), .int (xs (nI (5 * n) + 2).toNatClampNeg), .int (xs (nI (5 * n) + 3).toNatClampNeg)]) (rest := []) ⟨hx, hb, hml, hown, hts⟩ (e_X6_closed l (dC, dI) K ad hap _ _ _ _ _ _ _  _  e1) (cwV 3 hts gL_law_X6_closed rfl rfl rfl (by decide +kernel) ⟨Nat.le_of_ble_eq_true rfl, Nat.le_of_ble_eq_true rfl⟩) hK hP hS hge (by decide) (show kd 0 = 6 by decide) (by decide) rfl rfl rfl hl.1 (Nat.le_of_ble_eq_true rfl) (Nat.le_of_ble_eq_true rfl) (Nat.le_of_ble_eq_true rfl) dL_law_684 (fun q6 u H locs hw hP hS => ?_) rfl
  obtain ⟨rfl, rfl⟩ := hw
  have hP : va_P (dC, dI) vwCl (VW K ad I G A L) H := hP
  refine lv_pop hx hb dL_law_687 rfl ?_
  refine lv_aload_n hx hb dL_law_688 rfl (lv_at hl 1 rfl) ?_
  refine lv_aload_n hx hb dL_law_689 rfl (lv_at hl 3 rfl) ?_
  refine lv_iload_n hx hb dL_law_690 rfl (lv_at hl 0 rfl) ?_
  refine lv_iconst (v := 1) hx hb dL_law_691 (by decide) ?_
  refine lv_iadd hx hb dL_law_692 ?_
  refine va_sld hx hb hX hbl hbA hS (lw_in hN hn 1 (by decide)) dL_law_693 ?_
  refine lv_aload_n hx hb dL_law_694 rfl (lv_at hl 3 rfl) ?_
  refine lv_iload_n hx hb dL_law_695 rfl (lv_at hl 0 rfl) ?_
  refine lv_iconst (v := 2) hx hb dL_law_696 (by decide) ?_
  refine lv_iadd hx hb dL_law_697 ?_
  refine va_sld hx hb hX hbl hbA hS (lw_in hN hn 2 (by decide)) dL_law_698 ?_
  refine lv_aload_n hx hb dL_law_699 rfl (lv_at hl 3 rfl) ?_
  refine lv_iload_n hx hb dL_law_700 rfl (lv_at hl 0 rfl) ?_
  refine lv_iconst (v := 3) hx hb dL_law_701 (by decide) ?_
  refine lv_iadd hx hb dL_law_702 ?_
  refine va_sld hx hb hX hbl hbA hS (lw_in hN hn 3 (by decide)) dL_law_703 ?_
  refine vcL (j := 318) (As := [.int (xs (nI (5 * n) + 1).toNatClampNeg), .int (xs (nI (5 * n) + 2).toNatClampNeg), .int (xs (nI (5 * n) + 3).toNatClampNeg)]) (rest := []) ⟨hx, hb, hml, hown, hts⟩ (e_X7_closed l (dC, dI) K ad hap _ _ _ _ _ _ _  _ _ e2) (cwV 3 hts gL_law_X7_closed rfl rfl rfl (by decide +kernel) ⟨Nat.le_of_ble_eq_true rfl, Nat.le_of_ble_eq_true rfl⟩) hK hP hS hge (by decide) (show kd 318 = 7 by decide) (by decide) rfl rfl rfl hl.1 (Nat.le_of_ble_eq_true rfl) (Nat.le_of_ble_eq_true rfl) (Nat.le_of_ble_eq_true rfl) dL_law_704 (fun q7 u H locs hw hP hS => ?_) rfl
  obtain ⟨rfl, rfl⟩ := hw
  have hP : va_P (dC, dI) vwCl (VW K ad J2 G A L) H := hP
  refine lv_pop hx hb dL_law_707 rfl ?_
  refine lv_goto (tgt := 1044) hx hb dL_law_708 (by decide) ?_
  exact kk J2 G A L H locs hr1 hP hS
set_option maxHeartbeats 4000000 in
set_option maxRecDepth 100000 in
/-- the law: helper -/
theorem law_c17 {p : Program} {l : Launch} {e : Env} {s : State} {m : MethodId} {below : List Frame} {meth : Method} {c : Code} {dC : Nat → ClassId} {dI : Nat → Nat → Nat} {b N : Nat} {xs : Nat → Int32} {K : Nat → ClassId} {ad : Nat → Nat} (C0 : lw_At p s m meth c b N xs) (hN : N ≤ 2560) (hK : va_K (dC, dI) vwCl (tyA K) s) (hap : apart ad (fun _ => True)) (hge : ∀ j, j < NS → s.heap.size ≤ ad j) {n : Nat} (hn : 5 * n + 5 ≤ N) (I : Nat → Nat → Int32) (G : Nat → Nat → Nat) (A : Nat → Nat → Int32) (L : Nat → Nat → Int64) (h : Rel n I G A L I A) (H : Heap) (locs : List Loc) (hP : va_P (dC, dI) vwCl (VW K ad I G A L) H) (hS : va_S (fun q : Nat => s.heap.size ≤ q) s.heap H locs) (ls : Array Slot) (hl : lv_has ls 4 [(3, .int (nI (5 * n))), (2, .ref (ad 318)), (1, .ref (ad 0)), (0, .ref b)]) (kk : ∀ (I : Nat → Nat → Int32) (G : Nat → Nat → Nat) (A : Nat → Nat → Int32) (L : Nat → Nat → Int64) (H : Heap) (locs : List Loc), Rel (n + 1) I G A L I A → va_P (dC, dI) vwCl (VW K ad I G A L) H → va_S (fun q : Nat => s.heap.size ≤ q) s.heap H locs → W p l e room_1 s m #[Value.ref b] below meth c H locs 378 153906 (lw_Z below #[Value.ref b] s) (F0 m 1044 ls [])) : W p l e room_1 s m #[Value.ref b] below meth c H locs 378 153906 (lw_Z below #[Value.ref b] s) (F0 m 711 ls []) := by
  obtain ⟨hx, hb, hr, hml, hown, hts0, hX, hbl, hlocks, hgv⟩ := id C0
  have hts : ∀ w ∈ wsL_law, w.before #[Value.ref b] s = true := fun w h => hts0 w (wsL_law_in w h)
  have hown : s.vm.findClass RL = some m.cls := hown
  have hA : ∀ q : Nat, s.heap.size ≤ q → (fun q : Nat => s.heap.size ≤ q) q := fun _ h => h
  have hbA : ¬ (fun q : Nat => s.heap.size ≤ q) b := Nat.not_le.mpr hbl
  obtain ⟨r, J2, e1, e2, hr1⟩ := g_helper (xs (nI (5 * n) + 1).toNatClampNeg) (xs (nI (5 * n) + 2).toNatClampNeg) h 
  refine lv_aload_n hx hb dL_law_711 rfl (lv_at hl 2 rfl) ?_
  refine lv_aload_n hx hb dL_law_712 rfl (lv_at hl 3 rfl) ?_
  refine lv_iload_n hx hb dL_law_713 rfl (lv_at hl 0 rfl) ?_
  refine lv_iconst (v := 1) hx hb dL_law_714 (by decide) ?_
  refine lv_iadd hx hb dL_law_715 ?_
  refine va_sld hx hb hX hbl hbA hS (lw_in hN hn 1 (by decide)) dL_law_716 ?_
  refine lv_aload_n hx hb dL_law_717 rfl (lv_at hl 3 rfl) ?_
  refine lv_iload_n hx hb dL_law_718 rfl (lv_at hl 0 rfl) ?_
  refine lv_iconst (v := 2) hx hb dL_law_719 (by decide) ?_
  refine lv_iadd hx hb dL_law_720 ?_
  refine va_sld hx hb hX hbl hbA hS (lw_in hN hn 2 (by decide)) dL_law_721 ?_
  refine vcL (j := 0) (As := [.int (xs (nI (5 * n) + 1).toNatClampNeg), .int (xs (nI (5 * n) + 2).toNatClampNeg)]) (rest := []) ⟨hx, hb, hml, hown, hts⟩ (e_X6_helper l (dC, dI) K ad hap _ _ _ _ _ _  _  e1) (cwV 2 hts gL_law_X6_helper rfl rfl rfl (by decide +kernel) ⟨Nat.le_of_ble_eq_true rfl, Nat.le_of_ble_eq_true rfl⟩) hK hP hS hge (by decide) (show kd 0 = 6 by decide) (by decide) rfl rfl rfl hl.1 (Nat.le_of_ble_eq_true rfl) (Nat.le_of_ble_eq_true rfl) (Nat.le_of_ble_eq_true rfl) dL_law_722 (fun q6 u H locs hw hP hS => ?_) rfl
  obtain ⟨rfl, rfl⟩ := hw
  have hP : va_P (dC, dI) vwCl (VW K ad I G A L) H := hP
  refine lv_pop hx hb dL_law_725 rfl ?_
  refine lv_aload_n hx hb dL_law_726 rfl (lv_at hl 1 rfl) ?_
  refine lv_aload_n hx hb dL_law_727 rfl (lv_at hl 3 rfl) ?_
  refine lv_iload_n hx hb dL_law_728 rfl (lv_at hl 0 rfl) ?_
  refine lv_iconst (v := 1) hx hb dL_law_729 (by decide) ?_
  refine lv_iadd hx hb dL_law_730 ?_
  refine va_sld hx hb hX hbl hbA hS (lw_in hN hn 1 (by decide)) dL_law_731 ?_
  refine lv_aload_n hx hb dL_law_732 rfl (lv_at hl 3 rfl) ?_
  refine lv_iload_n hx hb dL_law_733 rfl (lv_at hl 0 rfl) ?_
  refine lv_iconst (v := 2) hx hb dL_law_734 (by decide) ?_
  refine lv_iadd hx hb dL_law_735 ?_
  refine va_sld hx hb hX hbl hbA hS (lw_in hN hn 2 (by decide)) dL_law_736 ?_
  refine vcL (j := 318) (As := [.int (xs (nI (5 * n) + 1).toNatClampNeg), .int (xs (nI (5 * n) + 2).toNatClampNeg)]) (rest := []) ⟨hx, hb, hml, hown, hts⟩ (e_X7_helper l (dC, dI) K ad hap _ _ _ _ _ _  _ _ e2) (cwV 2 hts gL_law_X7_helper rfl rfl rfl (by decide +kernel) ⟨Nat.le_of_ble_eq_true rfl, Nat.le_of_ble_eq_true rfl⟩) hK hP hS hge (by decide) (show kd 318 = 7 by decide) (by decide) rfl rfl rfl hl.1 (Nat.le_of_ble_eq_true rfl) (Nat.le_of_ble_eq_true rfl) (Nat.le_of_ble_eq_true rfl) dL_law_737 (fun q7 u H locs hw hP hS => ?_) rfl
  obtain ⟨rfl, rfl⟩ := hw
  have hP : va_P (dC, dI) vwCl (VW K ad J2 G A L) H := hP
  refine lv_pop hx hb dL_law_740 rfl ?_
  refine lv_goto (tgt := 1044) hx hb dL_law_741 (by decide) ?_
  exact kk J2 G A L H locs hr1 hP hS
set_option maxHeartbeats 4000000 in
set_option maxRecDepth 100000 in
/-- the law: ask -/
theorem law_c18 {p : Program} {l : Launch} {e : Env} {s : State} {m : MethodId} {below : List Frame} {meth : Method} {c : Code} {dC : Nat → ClassId} {dI : Nat → Nat → Nat} {b N : Nat} {xs : Nat → Int32} {K : Nat → ClassId} {ad : Nat → Nat} (C0 : lw_At p s m meth c b N xs) (hN : N ≤ 2560) (hK : va_K (dC, dI) vwCl (tyA K) s) (hap : apart ad (fun _ => True)) (hge : ∀ j, j < NS → s.heap.size ≤ ad j) {n : Nat} (hn : 5 * n + 5 ≤ N) (I : Nat → Nat → Int32) (G : Nat → Nat → Nat) (A : Nat → Nat → Int32) (L : Nat → Nat → Int64) (h : Rel n I G A L I A) (H : Heap) (locs : List Loc) (hP : va_P (dC, dI) vwCl (VW K ad I G A L) H) (hS : va_S (fun q : Nat => s.heap.size ≤ q) s.heap H locs) (ls : Array Slot) (hl : lv_has ls 4 [(3, .int (nI (5 * n))), (2, .ref (ad 318)), (1, .ref (ad 0)), (0, .ref b)]) (kk : ∀ (I : Nat → Nat → Int32) (G : Nat → Nat → Nat) (A : Nat → Nat → Int32) (L : Nat → Nat → Int64) (H : Heap) (locs : List Loc), Rel (n + 1) I G A L I A → va_P (dC, dI) vwCl (VW K ad I G A L) H → va_S (fun q : Nat => s.heap.size ≤ q) s.heap H locs → W p l e room_1 s m #[Value.ref b] below meth c H locs 378 153906 (lw_Z below #[Value.ref b] s) (F0 m 1044 ls [])) : W p l e room_1 s m #[Value.ref b] below meth c H locs 378 153906 (lw_Z below #[Value.ref b] s) (F0 m 744 ls []) := by
  obtain ⟨hx, hb, hr, hml, hown, hts0, hX, hbl, hlocks, hgv⟩ := id C0
  have hts : ∀ w ∈ wsL_law, w.before #[Value.ref b] s = true := fun w h => hts0 w (wsL_law_in w h)
  have hown : s.vm.findClass RL = some m.cls := hown
  have hA : ∀ q : Nat, s.heap.size ≤ q → (fun q : Nat => s.heap.size ≤ q) q := fun _ h => h
  have hbA : ¬ (fun q : Nat => s.heap.size ≤ q) b := Nat.not_le.mpr hbl
  obtain ⟨r, I1, A1, J2, e1, e2, hr1⟩ := g_ask (xs (nI (5 * n) + 1).toNatClampNeg) h (by omega)
  refine lv_aload_n hx hb dL_law_744 rfl (lv_at hl 2 rfl) ?_
  refine lv_aload_n hx hb dL_law_745 rfl (lv_at hl 3 rfl) ?_
  refine lv_iload_n hx hb dL_law_746 rfl (lv_at hl 0 rfl) ?_
  refine lv_iconst (v := 1) hx hb dL_law_747 (by decide) ?_
  refine lv_iadd hx hb dL_law_748 ?_
  refine va_sld hx hb hX hbl hbA hS (lw_in hN hn 1 (by decide)) dL_law_749 ?_
  refine vcL (j := 0) (As := [.int (xs (nI (5 * n) + 1).toNatClampNeg)]) (rest := []) ⟨hx, hb, hml, hown, hts⟩ (e_X6_ask l (dC, dI) K ad hap _ _ _ _ _  _ _ _ e1) (cwV 1 hts gL_law_X6_ask rfl rfl rfl (by decide +kernel) ⟨Nat.le_of_ble_eq_true rfl, Nat.le_of_ble_eq_true rfl⟩) hK hP hS hge (by decide) (show kd 0 = 6 by decide) (by decide) rfl rfl rfl hl.1 (Nat.le_of_ble_eq_true rfl) (Nat.le_of_ble_eq_true rfl) (Nat.le_of_ble_eq_true rfl) dL_law_750 (fun q6 u H locs hw hP hS => ?_) rfl
  obtain ⟨rfl, rfl⟩ := hw
  have hP : va_P (dC, dI) vwCl (VW K ad I1 G A1 L) H := hP
  refine lv_pop hx hb dL_law_753 rfl ?_
  refine lv_aload_n hx hb dL_law_754 rfl (lv_at hl 1 rfl) ?_
  refine lv_aload_n hx hb dL_law_755 rfl (lv_at hl 3 rfl) ?_
  refine lv_iload_n hx hb dL_law_756 rfl (lv_at hl 0 rfl) ?_
  refine lv_iconst (v := 1) hx hb dL_law_757 (by decide) ?_
  refine lv_iadd hx hb dL_law_758 ?_
  refine va_sld hx hb hX hbl hbA hS (lw_in hN hn 1 (by decide)) dL_law_759 ?_
  refine vcL (j := 318) (As := [.int (xs (nI (5 * n) + 1).toNatClampNeg)]) (rest := []) ⟨hx, hb, hml, hown, hts⟩ (e_X7_ask l (dC, dI) K ad hap _ _ _ _ _  _ _ e2) (cwV 1 hts gL_law_X7_ask rfl rfl rfl (by decide +kernel) ⟨Nat.le_of_ble_eq_true rfl, Nat.le_of_ble_eq_true rfl⟩) hK hP hS hge (by decide) (show kd 318 = 7 by decide) (by decide) rfl rfl rfl hl.1 (Nat.le_of_ble_eq_true rfl) (Nat.le_of_ble_eq_true rfl) (Nat.le_of_ble_eq_true rfl) dL_law_760 (fun q7 u H locs hw hP hS => ?_) rfl
  obtain ⟨rfl, rfl⟩ := hw
  have hP : va_P (dC, dI) vwCl (VW K ad J2 G A1 L) H := hP
  refine lv_pop hx hb dL_law_763 rfl ?_
  refine lv_goto (tgt := 1044) hx hb dL_law_764 (by decide) ?_
  exact kk J2 G A1 L H locs hr1 hP hS
set_option maxHeartbeats 4000000 in
set_option maxRecDepth 100000 in
/-- the law: with -/
theorem law_c19 {p : Program} {l : Launch} {e : Env} {s : State} {m : MethodId} {below : List Frame} {meth : Method} {c : Code} {dC : Nat → ClassId} {dI : Nat → Nat → Nat} {b N : Nat} {xs : Nat → Int32} {K : Nat → ClassId} {ad : Nat → Nat} (C0 : lw_At p s m meth c b N xs) (hN : N ≤ 2560) (hK : va_K (dC, dI) vwCl (tyA K) s) (hap : apart ad (fun _ => True)) (hge : ∀ j, j < NS → s.heap.size ≤ ad j) {n : Nat} (hn : 5 * n + 5 ≤ N) (I : Nat → Nat → Int32) (G : Nat → Nat → Nat) (A : Nat → Nat → Int32) (L : Nat → Nat → Int64) (h : Rel n I G A L I A) (H : Heap) (locs : List Loc) (hP : va_P (dC, dI) vwCl (VW K ad I G A L) H) (hS : va_S (fun q : Nat => s.heap.size ≤ q) s.heap H locs) (ls : Array Slot) (hl : lv_has ls 4 [(3, .int (nI (5 * n))), (2, .ref (ad 318)), (1, .ref (ad 0)), (0, .ref b)]) (kk : ∀ (I : Nat → Nat → Int32) (G : Nat → Nat → Nat) (A : Nat → Nat → Int32) (L : Nat → Nat → Int64) (H : Heap) (locs : List Loc), Rel (n + 1) I G A L I A → va_P (dC, dI) vwCl (VW K ad I G A L) H → va_S (fun q : Nat => s.heap.size ≤ q) s.heap H locs → W p l e room_1 s m #[Value.ref b] below meth c H locs 378 153906 (lw_Z below #[Value.ref b] s) (F0 m 1044 ls [])) : W p l e room_1 s m #[Value.ref b] below meth c H locs 378 153906 (lw_Z below #[Value.ref b] s) (F0 m 767 ls []) := by
  obtain ⟨hx, hb, hr, hml, hown, hts0, hX, hbl, hlocks, hgv⟩ := id C0
  have hts : ∀ w ∈ wsL_law, w.before #[Value.ref b] s = true := fun w h => hts0 w (wsL_law_in w h)
  have hown : s.vm.findClass RL = some m.cls := hown
  have hA : ∀ q : Nat, s.heap.size ≤ q → (fun q : Nat => s.heap.size ≤ q) q := fun _ h => h
  have hbA : ¬ (fun q : Nat => s.heap.size ≤ q) b := Nat.not_le.mpr hbl
  obtain ⟨r, I1, A1, J2, R2, e1, e2, hr1⟩ := g_with (xs (nI (5 * n) + 1).toNatClampNeg) h 
  refine lv_aload_n hx hb dL_law_767 rfl (lv_at hl 2 rfl) ?_
  refine lv_aload_n hx hb dL_law_768 rfl (lv_at hl 3 rfl) ?_
  refine lv_iload_n hx hb dL_law_769 rfl (lv_at hl 0 rfl) ?_
  refine lv_iconst (v := 1) hx hb dL_law_770 (by decide) ?_
  refine lv_iadd hx hb dL_law_771 ?_
  refine va_sld hx hb hX hbl hbA hS (lw_in hN hn 1 (by decide)) dL_law_772 ?_
  refine vcL (j := 0) (As := [.int (xs (nI (5 * n) + 1).toNatClampNeg)]) (rest := []) ⟨hx, hb, hml, hown, hts⟩ (e_X6_with l (dC, dI) K ad hap _ _ _ _ _  _ _ _ e1) (cwV 1 hts gL_law_X6_with rfl rfl rfl (by decide +kernel) ⟨Nat.le_of_ble_eq_true rfl, Nat.le_of_ble_eq_true rfl⟩) hK hP hS hge (by decide) (show kd 0 = 6 by decide) (by decide) rfl rfl rfl hl.1 (Nat.le_of_ble_eq_true rfl) (Nat.le_of_ble_eq_true rfl) (Nat.le_of_ble_eq_true rfl) dL_law_773 (fun q6 u H locs hw hP hS => ?_) rfl
  obtain ⟨rfl, rfl⟩ := hw
  have hP : va_P (dC, dI) vwCl (VW K ad I1 G A1 L) H := hP
  refine lv_pop hx hb dL_law_776 rfl ?_
  refine lv_aload_n hx hb dL_law_777 rfl (lv_at hl 1 rfl) ?_
  refine lv_aload_n hx hb dL_law_778 rfl (lv_at hl 3 rfl) ?_
  refine lv_iload_n hx hb dL_law_779 rfl (lv_at hl 0 rfl) ?_
  refine lv_iconst (v := 1) hx hb dL_law_780 (by decide) ?_
  refine lv_iadd hx hb dL_law_781 ?_
  refine va_sld hx hb hX hbl hbA hS (lw_in hN hn 1 (by decide)) dL_law_782 ?_
  refine vcL (j := 318) (As := [.int (xs (nI (5 * n) + 1).toNatClampNeg)]) (rest := []) ⟨hx, hb, hml, hown, hts⟩ (e_X7_with l (dC, dI) K ad hap _ _ _ _ _  _ _ _ e2) (cwV 1 hts gL_law_X7_with rfl rfl rfl (by decide +kernel) ⟨Nat.le_of_ble_eq_true rfl, Nat.le_of_ble_eq_true rfl⟩) hK hP hS hge (by decide) (show kd 318 = 7 by decide) (by decide) rfl rfl rfl hl.1 (Nat.le_of_ble_eq_true rfl) (Nat.le_of_ble_eq_true rfl) (Nat.le_of_ble_eq_true rfl) dL_law_783 (fun q7 u H locs hw hP hS => ?_) rfl
  obtain ⟨rfl, rfl⟩ := hw
  have hP : va_P (dC, dI) vwCl (VW K ad J2 G R2 L) H := hP
  refine lv_pop hx hb dL_law_786 rfl ?_
  refine lv_goto (tgt := 1044) hx hb dL_law_787 (by decide) ?_
  exact kk J2 G R2 L H locs hr1 hP hS
set_option maxHeartbeats 4000000 in
set_option maxRecDepth 100000 in
/-- the law: node -/
theorem law_c20 {p : Program} {l : Launch} {e : Env} {s : State} {m : MethodId} {below : List Frame} {meth : Method} {c : Code} {dC : Nat → ClassId} {dI : Nat → Nat → Nat} {b N : Nat} {xs : Nat → Int32} {K : Nat → ClassId} {ad : Nat → Nat} (C0 : lw_At p s m meth c b N xs) (hN : N ≤ 2560) (hK : va_K (dC, dI) vwCl (tyA K) s) (hap : apart ad (fun _ => True)) (hge : ∀ j, j < NS → s.heap.size ≤ ad j) {n : Nat} (hn : 5 * n + 5 ≤ N) (I : Nat → Nat → Int32) (G : Nat → Nat → Nat) (A : Nat → Nat → Int32) (L : Nat → Nat → Int64) (h : Rel n I G A L I A) (H : Heap) (locs : List Loc) (hP : va_P (dC, dI) vwCl (VW K ad I G A L) H) (hS : va_S (fun q : Nat => s.heap.size ≤ q) s.heap H locs) (ls : Array Slot) (hl : lv_has ls 4 [(3, .int (nI (5 * n))), (2, .ref (ad 318)), (1, .ref (ad 0)), (0, .ref b)]) (kk : ∀ (I : Nat → Nat → Int32) (G : Nat → Nat → Nat) (A : Nat → Nat → Int32) (L : Nat → Nat → Int64) (H : Heap) (locs : List Loc), Rel (n + 1) I G A L I A → va_P (dC, dI) vwCl (VW K ad I G A L) H → va_S (fun q : Nat => s.heap.size ≤ q) s.heap H locs → W p l e room_1 s m #[Value.ref b] below meth c H locs 378 153906 (lw_Z below #[Value.ref b] s) (F0 m 1044 ls [])) : W p l e room_1 s m #[Value.ref b] below meth c H locs 378 153906 (lw_Z below #[Value.ref b] s) (F0 m 790 ls []) := by
  obtain ⟨hx, hb, hr, hml, hown, hts0, hX, hbl, hlocks, hgv⟩ := id C0
  have hts : ∀ w ∈ wsL_law, w.before #[Value.ref b] s = true := fun w h => hts0 w (wsL_law_in w h)
  have hown : s.vm.findClass RL = some m.cls := hown
  have hA : ∀ q : Nat, s.heap.size ≤ q → (fun q : Nat => s.heap.size ≤ q) q := fun _ h => h
  have hbA : ¬ (fun q : Nat => s.heap.size ≤ q) b := Nat.not_le.mpr hbl
  obtain ⟨r, I1, J2, R2, e1, e2, hr1⟩ := g_node (xs (nI (5 * n) + 1).toNatClampNeg) (xs (nI (5 * n) + 2).toNatClampNeg) (xs (nI (5 * n) + 3).toNatClampNeg) h 
  refine lv_aload_n hx hb dL_law_790 rfl (lv_at hl 2 rfl) ?_
  refine lv_aload_n hx hb dL_law_791 rfl (lv_at hl 3 rfl) ?_
  refine lv_iload_n hx hb dL_law_792 rfl (lv_at hl 0 rfl) ?_
  refine lv_iconst (v := 1) hx hb dL_law_793 (by decide) ?_
  refine lv_iadd hx hb dL_law_794 ?_
  refine va_sld hx hb hX hbl hbA hS (lw_in hN hn 1 (by decide)) dL_law_795 ?_
  refine lv_aload_n hx hb dL_law_796 rfl (lv_at hl 3 rfl) ?_
  refine lv_iload_n hx hb dL_law_797 rfl (lv_at hl 0 rfl) ?_
  refine lv_iconst (v := 2) hx hb dL_law_798 (by decide) ?_
  refine lv_iadd hx hb dL_law_799 ?_
  refine va_sld hx hb hX hbl hbA hS (lw_in hN hn 2 (by decide)) dL_law_800 ?_
  refine lv_aload_n hx hb dL_law_801 rfl (lv_at hl 3 rfl) ?_
  refine lv_iload_n hx hb dL_law_802 rfl (lv_at hl 0 rfl) ?_
  refine lv_iconst (v := 3) hx hb dL_law_803 (by decide) ?_
  refine lv_iadd hx hb dL_law_804 ?_
  refine va_sld hx hb hX hbl hbA hS (lw_in hN hn 3 (by decide)) dL_law_805 ?_
  refine vcL (j := 0) (As := [.int (xs (nI (5 * n) + 1).toNatClampNeg), .int (xs (nI (5 * n) + 2).toNatClampNeg), .int (xs (nI (5 * n) + 3).toNatClampNeg)]) (rest := []) ⟨hx, hb, hml, hown, hts⟩ (e_X6_node l (dC, dI) K ad hap _ _ _ _ _ _ _  _ _ e1) (cwV 3 hts gL_law_X6_node rfl rfl rfl (by decide +kernel) ⟨Nat.le_of_ble_eq_true rfl, Nat.le_of_ble_eq_true rfl⟩) hK hP hS hge (by decide) (show kd 0 = 6 by decide) (by decide) rfl rfl rfl hl.1 (Nat.le_of_ble_eq_true rfl) (Nat.le_of_ble_eq_true rfl) (Nat.le_of_ble_eq_true rfl) dL_law_806 (fun q6 u H locs hw hP hS => ?_) rfl
  obtain ⟨rfl, rfl⟩ := hw
  have hP : va_P (dC, dI) vwCl (VW K ad I1 G A L) H := hP
  refine lv_pop hx hb dL_law_809 rfl ?_
  refine lv_aload_n hx hb dL_law_810 rfl (lv_at hl 1 rfl) ?_
  refine lv_aload_n hx hb dL_law_811 rfl (lv_at hl 3 rfl) ?_
  refine lv_iload_n hx hb dL_law_812 rfl (lv_at hl 0 rfl) ?_
  refine lv_iconst (v := 1) hx hb dL_law_813 (by decide) ?_
  refine lv_iadd hx hb dL_law_814 ?_
  refine va_sld hx hb hX hbl hbA hS (lw_in hN hn 1 (by decide)) dL_law_815 ?_
  refine lv_aload_n hx hb dL_law_816 rfl (lv_at hl 3 rfl) ?_
  refine lv_iload_n hx hb dL_law_817 rfl (lv_at hl 0 rfl) ?_
  refine lv_iconst (v := 2) hx hb dL_law_818 (by decide) ?_
  refine lv_iadd hx hb dL_law_819 ?_
  refine va_sld hx hb hX hbl hbA hS (lw_in hN hn 2 (by decide)) dL_law_820 ?_
  refine lv_aload_n hx hb dL_law_821 rfl (lv_at hl 3 rfl) ?_
  refine lv_iload_n hx hb dL_law_822 rfl (lv_at hl 0 rfl) ?_
  refine lv_iconst (v := 3) hx hb dL_law_823 (by decide) ?_
  refine lv_iadd hx hb dL_law_824 ?_
  refine va_sld hx hb hX hbl hbA hS (lw_in hN hn 3 (by decide)) dL_law_825 ?_
  refine vcL (j := 318) (As := [.int (xs (nI (5 * n) + 1).toNatClampNeg), .int (xs (nI (5 * n) + 2).toNatClampNeg), .int (xs (nI (5 * n) + 3).toNatClampNeg)]) (rest := []) ⟨hx, hb, hml, hown, hts⟩ (e_X7_node l (dC, dI) K ad hap _ _ _ _ _ _ _  _ _ _ e2) (cwV 3 hts gL_law_X7_node rfl rfl rfl (by decide +kernel) ⟨Nat.le_of_ble_eq_true rfl, Nat.le_of_ble_eq_true rfl⟩) hK hP hS hge (by decide) (show kd 318 = 7 by decide) (by decide) rfl rfl rfl hl.1 (Nat.le_of_ble_eq_true rfl) (Nat.le_of_ble_eq_true rfl) (Nat.le_of_ble_eq_true rfl) dL_law_826 (fun q7 u H locs hw hP hS => ?_) rfl
  obtain ⟨rfl, rfl⟩ := hw
  have hP : va_P (dC, dI) vwCl (VW K ad J2 G R2 L) H := hP
  refine lv_pop hx hb dL_law_829 rfl ?_
  refine lv_goto (tgt := 1044) hx hb dL_law_830 (by decide) ?_
  exact kk J2 G R2 L H locs hr1 hP hS
set_option maxHeartbeats 4000000 in
set_option maxRecDepth 100000 in
/-- the law: second -/
theorem law_c21 {p : Program} {l : Launch} {e : Env} {s : State} {m : MethodId} {below : List Frame} {meth : Method} {c : Code} {dC : Nat → ClassId} {dI : Nat → Nat → Nat} {b N : Nat} {xs : Nat → Int32} {K : Nat → ClassId} {ad : Nat → Nat} (C0 : lw_At p s m meth c b N xs) (hN : N ≤ 2560) (hK : va_K (dC, dI) vwCl (tyA K) s) (hap : apart ad (fun _ => True)) (hge : ∀ j, j < NS → s.heap.size ≤ ad j) {n : Nat} (hn : 5 * n + 5 ≤ N) (I : Nat → Nat → Int32) (G : Nat → Nat → Nat) (A : Nat → Nat → Int32) (L : Nat → Nat → Int64) (h : Rel n I G A L I A) (H : Heap) (locs : List Loc) (hP : va_P (dC, dI) vwCl (VW K ad I G A L) H) (hS : va_S (fun q : Nat => s.heap.size ≤ q) s.heap H locs) (ls : Array Slot) (hl : lv_has ls 4 [(3, .int (nI (5 * n))), (2, .ref (ad 318)), (1, .ref (ad 0)), (0, .ref b)]) (kk : ∀ (I : Nat → Nat → Int32) (G : Nat → Nat → Nat) (A : Nat → Nat → Int32) (L : Nat → Nat → Int64) (H : Heap) (locs : List Loc), Rel (n + 1) I G A L I A → va_P (dC, dI) vwCl (VW K ad I G A L) H → va_S (fun q : Nat => s.heap.size ≤ q) s.heap H locs → W p l e room_1 s m #[Value.ref b] below meth c H locs 378 153906 (lw_Z below #[Value.ref b] s) (F0 m 1044 ls [])) : W p l e room_1 s m #[Value.ref b] below meth c H locs 378 153906 (lw_Z below #[Value.ref b] s) (F0 m 833 ls []) := by
  obtain ⟨hx, hb, hr, hml, hown, hts0, hX, hbl, hlocks, hgv⟩ := id C0
  have hts : ∀ w ∈ wsL_law, w.before #[Value.ref b] s = true := fun w h => hts0 w (wsL_law_in w h)
  have hown : s.vm.findClass RL = some m.cls := hown
  have hA : ∀ q : Nat, s.heap.size ≤ q → (fun q : Nat => s.heap.size ≤ q) q := fun _ h => h
  have hbA : ¬ (fun q : Nat => s.heap.size ≤ q) b := Nat.not_le.mpr hbl
  obtain ⟨r, I1, G1, A1, L1, J2, R2, e1, e2, hr1⟩ := g_second (xs (nI (5 * n) + 1).toNatClampNeg) (xs (nI (5 * n) + 2).toNatClampNeg) h 
  refine lv_aload_n hx hb dL_law_833 rfl (lv_at hl 2 rfl) ?_
  refine lv_aload_n hx hb dL_law_834 rfl (lv_at hl 3 rfl) ?_
  refine lv_iload_n hx hb dL_law_835 rfl (lv_at hl 0 rfl) ?_
  refine lv_iconst (v := 1) hx hb dL_law_836 (by decide) ?_
  refine lv_iadd hx hb dL_law_837 ?_
  refine va_sld hx hb hX hbl hbA hS (lw_in hN hn 1 (by decide)) dL_law_838 ?_
  refine lv_aload_n hx hb dL_law_839 rfl (lv_at hl 3 rfl) ?_
  refine lv_iload_n hx hb dL_law_840 rfl (lv_at hl 0 rfl) ?_
  refine lv_iconst (v := 2) hx hb dL_law_841 (by decide) ?_
  refine lv_iadd hx hb dL_law_842 ?_
  refine va_sld hx hb hX hbl hbA hS (lw_in hN hn 2 (by decide)) dL_law_843 ?_
  refine vcL (j := 0) (As := [.int (xs (nI (5 * n) + 1).toNatClampNeg), .int (xs (nI (5 * n) + 2).toNatClampNeg)]) (rest := []) ⟨hx, hb, hml, hown, hts⟩ (e_X6_second l (dC, dI) K ad hap _ _ _ _ _ _  _ _ _ _ _ e1) (cwV 2 hts gL_law_X6_second rfl rfl rfl (by decide +kernel) ⟨Nat.le_of_ble_eq_true rfl, Nat.le_of_ble_eq_true rfl⟩) hK hP hS hge (by decide) (show kd 0 = 6 by decide) (by decide) rfl rfl rfl hl.1 (Nat.le_of_ble_eq_true rfl) (Nat.le_of_ble_eq_true rfl) (Nat.le_of_ble_eq_true rfl) dL_law_844 (fun q6 u H locs hw hP hS => ?_) rfl
  obtain ⟨rfl, rfl⟩ := hw
  have hP : va_P (dC, dI) vwCl (VW K ad I1 G1 A1 L1) H := hP
  refine lv_pop hx hb dL_law_847 rfl ?_
  refine lv_aload_n hx hb dL_law_848 rfl (lv_at hl 1 rfl) ?_
  refine lv_aload_n hx hb dL_law_849 rfl (lv_at hl 3 rfl) ?_
  refine lv_iload_n hx hb dL_law_850 rfl (lv_at hl 0 rfl) ?_
  refine lv_iconst (v := 1) hx hb dL_law_851 (by decide) ?_
  refine lv_iadd hx hb dL_law_852 ?_
  refine va_sld hx hb hX hbl hbA hS (lw_in hN hn 1 (by decide)) dL_law_853 ?_
  refine lv_aload_n hx hb dL_law_854 rfl (lv_at hl 3 rfl) ?_
  refine lv_iload_n hx hb dL_law_855 rfl (lv_at hl 0 rfl) ?_
  refine lv_iconst (v := 2) hx hb dL_law_856 (by decide) ?_
  refine lv_iadd hx hb dL_law_857 ?_
  refine va_sld hx hb hX hbl hbA hS (lw_in hN hn 2 (by decide)) dL_law_858 ?_
  refine vcL (j := 318) (As := [.int (xs (nI (5 * n) + 1).toNatClampNeg), .int (xs (nI (5 * n) + 2).toNatClampNeg)]) (rest := []) ⟨hx, hb, hml, hown, hts⟩ (e_X7_second l (dC, dI) K ad hap _ _ _ _ _ _  _ _ _ e2) (cwV 2 hts gL_law_X7_second rfl rfl rfl (by decide +kernel) ⟨Nat.le_of_ble_eq_true rfl, Nat.le_of_ble_eq_true rfl⟩) hK hP hS hge (by decide) (show kd 318 = 7 by decide) (by decide) rfl rfl rfl hl.1 (Nat.le_of_ble_eq_true rfl) (Nat.le_of_ble_eq_true rfl) (Nat.le_of_ble_eq_true rfl) dL_law_859 (fun q7 u H locs hw hP hS => ?_) rfl
  obtain ⟨rfl, rfl⟩ := hw
  have hP : va_P (dC, dI) vwCl (VW K ad J2 G1 R2 L1) H := hP
  refine lv_pop hx hb dL_law_862 rfl ?_
  refine lv_goto (tgt := 1044) hx hb dL_law_863 (by decide) ?_
  exact kk J2 G1 R2 L1 H locs hr1 hP hS
set_option maxHeartbeats 4000000 in
set_option maxRecDepth 100000 in
/-- the law: row -/
theorem law_c22 {p : Program} {l : Launch} {e : Env} {s : State} {m : MethodId} {below : List Frame} {meth : Method} {c : Code} {dC : Nat → ClassId} {dI : Nat → Nat → Nat} {b N : Nat} {xs : Nat → Int32} {K : Nat → ClassId} {ad : Nat → Nat} (C0 : lw_At p s m meth c b N xs) (hN : N ≤ 2560) (hK : va_K (dC, dI) vwCl (tyA K) s) (hap : apart ad (fun _ => True)) (hge : ∀ j, j < NS → s.heap.size ≤ ad j) {n : Nat} (hn : 5 * n + 5 ≤ N) (I : Nat → Nat → Int32) (G : Nat → Nat → Nat) (A : Nat → Nat → Int32) (L : Nat → Nat → Int64) (h : Rel n I G A L I A) (H : Heap) (locs : List Loc) (hP : va_P (dC, dI) vwCl (VW K ad I G A L) H) (hS : va_S (fun q : Nat => s.heap.size ≤ q) s.heap H locs) (ls : Array Slot) (hl : lv_has ls 4 [(3, .int (nI (5 * n))), (2, .ref (ad 318)), (1, .ref (ad 0)), (0, .ref b)]) (kk : ∀ (I : Nat → Nat → Int32) (G : Nat → Nat → Nat) (A : Nat → Nat → Int32) (L : Nat → Nat → Int64) (H : Heap) (locs : List Loc), Rel (n + 1) I G A L I A → va_P (dC, dI) vwCl (VW K ad I G A L) H → va_S (fun q : Nat => s.heap.size ≤ q) s.heap H locs → W p l e room_1 s m #[Value.ref b] below meth c H locs 378 153906 (lw_Z below #[Value.ref b] s) (F0 m 1044 ls [])) : W p l e room_1 s m #[Value.ref b] below meth c H locs 378 153906 (lw_Z below #[Value.ref b] s) (F0 m 866 ls []) := by
  obtain ⟨hx, hb, hr, hml, hown, hts0, hX, hbl, hlocks, hgv⟩ := id C0
  have hts : ∀ w ∈ wsL_law, w.before #[Value.ref b] s = true := fun w h => hts0 w (wsL_law_in w h)
  have hown : s.vm.findClass RL = some m.cls := hown
  have hA : ∀ q : Nat, s.heap.size ≤ q → (fun q : Nat => s.heap.size ≤ q) q := fun _ h => h
  have hbA : ¬ (fun q : Nat => s.heap.size ≤ q) b := Nat.not_le.mpr hbl
  obtain ⟨r, J2, e1, e2, hr1⟩ := g_row (xs (nI (5 * n) + 1).toNatClampNeg) h 
  refine lv_aload_n hx hb dL_law_866 rfl (lv_at hl 2 rfl) ?_
  refine lv_aload_n hx hb dL_law_867 rfl (lv_at hl 3 rfl) ?_
  refine lv_iload_n hx hb dL_law_868 rfl (lv_at hl 0 rfl) ?_
  refine lv_iconst (v := 1) hx hb dL_law_869 (by decide) ?_
  refine lv_iadd hx hb dL_law_870 ?_
  refine va_sld hx hb hX hbl hbA hS (lw_in hN hn 1 (by decide)) dL_law_871 ?_
  refine vcL (j := 0) (As := [.int (xs (nI (5 * n) + 1).toNatClampNeg)]) (rest := []) ⟨hx, hb, hml, hown, hts⟩ (e_X6_row l (dC, dI) K ad hap _ _ _ _ _  _  e1) (cwV 1 hts gL_law_X6_row rfl rfl rfl (by decide +kernel) ⟨Nat.le_of_ble_eq_true rfl, Nat.le_of_ble_eq_true rfl⟩) hK hP hS hge (by decide) (show kd 0 = 6 by decide) (by decide) rfl rfl rfl hl.1 (Nat.le_of_ble_eq_true rfl) (Nat.le_of_ble_eq_true rfl) (Nat.le_of_ble_eq_true rfl) dL_law_872 (fun q6 u H locs hw hP hS => ?_) rfl
  obtain ⟨rfl, rfl⟩ := hw
  have hP : va_P (dC, dI) vwCl (VW K ad I G A L) H := hP
  refine lv_pop hx hb dL_law_875 rfl ?_
  refine lv_aload_n hx hb dL_law_876 rfl (lv_at hl 1 rfl) ?_
  refine lv_aload_n hx hb dL_law_877 rfl (lv_at hl 3 rfl) ?_
  refine lv_iload_n hx hb dL_law_878 rfl (lv_at hl 0 rfl) ?_
  refine lv_iconst (v := 1) hx hb dL_law_879 (by decide) ?_
  refine lv_iadd hx hb dL_law_880 ?_
  refine va_sld hx hb hX hbl hbA hS (lw_in hN hn 1 (by decide)) dL_law_881 ?_
  refine vcL (j := 318) (As := [.int (xs (nI (5 * n) + 1).toNatClampNeg)]) (rest := []) ⟨hx, hb, hml, hown, hts⟩ (e_X7_row l (dC, dI) K ad hap _ _ _ _ _  _ _ e2) (cwV 1 hts gL_law_X7_row rfl rfl rfl (by decide +kernel) ⟨Nat.le_of_ble_eq_true rfl, Nat.le_of_ble_eq_true rfl⟩) hK hP hS hge (by decide) (show kd 318 = 7 by decide) (by decide) rfl rfl rfl hl.1 (Nat.le_of_ble_eq_true rfl) (Nat.le_of_ble_eq_true rfl) (Nat.le_of_ble_eq_true rfl) dL_law_882 (fun q7 u H locs hw hP hS => ?_) rfl
  obtain ⟨rfl, rfl⟩ := hw
  have hP : va_P (dC, dI) vwCl (VW K ad J2 G A L) H := hP
  refine lv_pop hx hb dL_law_885 rfl ?_
  refine lv_goto (tgt := 1044) hx hb dL_law_886 (by decide) ?_
  exact kk J2 G A L H locs hr1 hP hS
set_option maxHeartbeats 4000000 in
set_option maxRecDepth 100000 in
/-- the law: same -/
theorem law_c23 {p : Program} {l : Launch} {e : Env} {s : State} {m : MethodId} {below : List Frame} {meth : Method} {c : Code} {dC : Nat → ClassId} {dI : Nat → Nat → Nat} {b N : Nat} {xs : Nat → Int32} {K : Nat → ClassId} {ad : Nat → Nat} (C0 : lw_At p s m meth c b N xs) (hN : N ≤ 2560) (hK : va_K (dC, dI) vwCl (tyA K) s) (hap : apart ad (fun _ => True)) (hge : ∀ j, j < NS → s.heap.size ≤ ad j) {n : Nat} (hn : 5 * n + 5 ≤ N) (I : Nat → Nat → Int32) (G : Nat → Nat → Nat) (A : Nat → Nat → Int32) (L : Nat → Nat → Int64) (h : Rel n I G A L I A) (H : Heap) (locs : List Loc) (hP : va_P (dC, dI) vwCl (VW K ad I G A L) H) (hS : va_S (fun q : Nat => s.heap.size ≤ q) s.heap H locs) (ls : Array Slot) (hl : lv_has ls 4 [(3, .int (nI (5 * n))), (2, .ref (ad 318)), (1, .ref (ad 0)), (0, .ref b)]) (kk : ∀ (I : Nat → Nat → Int32) (G : Nat → Nat → Nat) (A : Nat → Nat → Int32) (L : Nat → Nat → Int64) (H : Heap) (locs : List Loc), Rel (n + 1) I G A L I A → va_P (dC, dI) vwCl (VW K ad I G A L) H → va_S (fun q : Nat => s.heap.size ≤ q) s.heap H locs → W p l e room_1 s m #[Value.ref b] below meth c H locs 378 153906 (lw_Z below #[Value.ref b] s) (F0 m 1044 ls [])) : W p l e room_1 s m #[Value.ref b] below meth c H locs 378 153906 (lw_Z below #[Value.ref b] s) (F0 m 889 ls []) := by
  obtain ⟨hx, hb, hr, hml, hown, hts0, hX, hbl, hlocks, hgv⟩ := id C0
  have hts : ∀ w ∈ wsL_law, w.before #[Value.ref b] s = true := fun w h => hts0 w (wsL_law_in w h)
  have hown : s.vm.findClass RL = some m.cls := hown
  have hA : ∀ q : Nat, s.heap.size ≤ q → (fun q : Nat => s.heap.size ≤ q) q := fun _ h => h
  have hbA : ¬ (fun q : Nat => s.heap.size ≤ q) b := Nat.not_le.mpr hbl
  obtain ⟨r, I1, G1, A1, L1, J2, e1, e2, hr1⟩ := g_same (xs (nI (5 * n) + 1).toNatClampNeg) (xs (nI (5 * n) + 2).toNatClampNeg) h 
  refine lv_aload_n hx hb dL_law_889 rfl (lv_at hl 2 rfl) ?_
  refine lv_aload_n hx hb dL_law_890 rfl (lv_at hl 3 rfl) ?_
  refine lv_iload_n hx hb dL_law_891 rfl (lv_at hl 0 rfl) ?_
  refine lv_iconst (v := 1) hx hb dL_law_892 (by decide) ?_
  refine lv_iadd hx hb dL_law_893 ?_
  refine va_sld hx hb hX hbl hbA hS (lw_in hN hn 1 (by decide)) dL_law_894 ?_
  refine lv_aload_n hx hb dL_law_895 rfl (lv_at hl 3 rfl) ?_
  refine lv_iload_n hx hb dL_law_896 rfl (lv_at hl 0 rfl) ?_
  refine lv_iconst (v := 2) hx hb dL_law_897 (by decide) ?_
  refine lv_iadd hx hb dL_law_898 ?_
  refine va_sld hx hb hX hbl hbA hS (lw_in hN hn 2 (by decide)) dL_law_899 ?_
  refine vcL (j := 0) (As := [.int (xs (nI (5 * n) + 1).toNatClampNeg), .int (xs (nI (5 * n) + 2).toNatClampNeg)]) (rest := []) ⟨hx, hb, hml, hown, hts⟩ (e_X6_same l (dC, dI) K ad hap _ _ _ _ _ _  _ _ _ _ _ e1) (cwV 2 hts gL_law_X6_same rfl rfl rfl (by decide +kernel) ⟨Nat.le_of_ble_eq_true rfl, Nat.le_of_ble_eq_true rfl⟩) hK hP hS hge (by decide) (show kd 0 = 6 by decide) (by decide) rfl rfl rfl hl.1 (Nat.le_of_ble_eq_true rfl) (Nat.le_of_ble_eq_true rfl) (Nat.le_of_ble_eq_true rfl) dL_law_900 (fun q6 u H locs hw hP hS => ?_) rfl
  obtain ⟨rfl, rfl⟩ := hw
  have hP : va_P (dC, dI) vwCl (VW K ad I1 G1 A1 L1) H := hP
  refine lv_aload_n hx hb dL_law_903 rfl (lv_at hl 1 rfl) ?_
  refine lv_aload_n hx hb dL_law_904 rfl (lv_at hl 3 rfl) ?_
  refine lv_iload_n hx hb dL_law_905 rfl (lv_at hl 0 rfl) ?_
  refine lv_iconst (v := 1) hx hb dL_law_906 (by decide) ?_
  refine lv_iadd hx hb dL_law_907 ?_
  refine va_sld hx hb hX hbl hbA hS (lw_in hN hn 1 (by decide)) dL_law_908 ?_
  refine lv_aload_n hx hb dL_law_909 rfl (lv_at hl 3 rfl) ?_
  refine lv_iload_n hx hb dL_law_910 rfl (lv_at hl 0 rfl) ?_
  refine lv_iconst (v := 2) hx hb dL_law_911 (by decide) ?_
  refine lv_iadd hx hb dL_law_912 ?_
  refine va_sld hx hb hX hbl hbA hS (lw_in hN hn 2 (by decide)) dL_law_913 ?_
  refine vcL (j := 318) (As := [.int (xs (nI (5 * n) + 1).toNatClampNeg), .int (xs (nI (5 * n) + 2).toNatClampNeg)]) (rest := [.int q6]) ⟨hx, hb, hml, hown, hts⟩ (e_X7_same l (dC, dI) K ad hap _ _ _ _ _ _  _ _ e2) (cwV 2 hts gL_law_X7_same rfl rfl rfl (by decide +kernel) ⟨Nat.le_of_ble_eq_true rfl, Nat.le_of_ble_eq_true rfl⟩) hK hP hS hge (by decide) (show kd 318 = 7 by decide) (by decide) rfl rfl rfl hl.1 (Nat.le_of_ble_eq_true rfl) (Nat.le_of_ble_eq_true rfl) (Nat.le_of_ble_eq_true rfl) dL_law_914 (fun q7 u H locs hw hP hS => ?_) rfl
  obtain ⟨rfl, rfl⟩ := hw
  have hP : va_P (dC, dI) vwCl (VW K ad J2 G1 A1 L1) H := hP
  refine lv_icmp_eq (tgt := 1044) hx hb dL_law_917 (by decide) (fun _ => ?_) (fun c_9 => absurd rfl c_9)
  exact kk J2 G1 A1 L1 H locs hr1 hP hS
set_option maxHeartbeats 4000000 in
set_option maxRecDepth 100000 in
/-- the law: count -/
theorem law_c24 {p : Program} {l : Launch} {e : Env} {s : State} {m : MethodId} {below : List Frame} {meth : Method} {c : Code} {dC : Nat → ClassId} {dI : Nat → Nat → Nat} {b N : Nat} {xs : Nat → Int32} {K : Nat → ClassId} {ad : Nat → Nat} (C0 : lw_At p s m meth c b N xs) (hN : N ≤ 2560) (hK : va_K (dC, dI) vwCl (tyA K) s) (hap : apart ad (fun _ => True)) (hge : ∀ j, j < NS → s.heap.size ≤ ad j) {n : Nat} (hn : 5 * n + 5 ≤ N) (I : Nat → Nat → Int32) (G : Nat → Nat → Nat) (A : Nat → Nat → Int32) (L : Nat → Nat → Int64) (h : Rel n I G A L I A) (H : Heap) (locs : List Loc) (hP : va_P (dC, dI) vwCl (VW K ad I G A L) H) (hS : va_S (fun q : Nat => s.heap.size ≤ q) s.heap H locs) (ls : Array Slot) (hl : lv_has ls 4 [(3, .int (nI (5 * n))), (2, .ref (ad 318)), (1, .ref (ad 0)), (0, .ref b)]) (kk : ∀ (I : Nat → Nat → Int32) (G : Nat → Nat → Nat) (A : Nat → Nat → Int32) (L : Nat → Nat → Int64) (H : Heap) (locs : List Loc), Rel (n + 1) I G A L I A → va_P (dC, dI) vwCl (VW K ad I G A L) H → va_S (fun q : Nat => s.heap.size ≤ q) s.heap H locs → W p l e room_1 s m #[Value.ref b] below meth c H locs 378 153906 (lw_Z below #[Value.ref b] s) (F0 m 1044 ls [])) : W p l e room_1 s m #[Value.ref b] below meth c H locs 378 153906 (lw_Z below #[Value.ref b] s) (F0 m 922 ls []) := by
  obtain ⟨hx, hb, hr, hml, hown, hts0, hX, hbl, hlocks, hgv⟩ := id C0
  have hts : ∀ w ∈ wsL_law, w.before #[Value.ref b] s = true := fun w h => hts0 w (wsL_law_in w h)
  have hown : s.vm.findClass RL = some m.cls := hown
  have hA : ∀ q : Nat, s.heap.size ≤ q → (fun q : Nat => s.heap.size ≤ q) q := fun _ h => h
  have hbA : ¬ (fun q : Nat => s.heap.size ≤ q) b := Nat.not_le.mpr hbl
  obtain ⟨r, r', J2, e1, e2, _, hr1⟩ := g_count (xs (nI (5 * n) + 1).toNatClampNeg) h 
  refine lv_aload_n hx hb dL_law_922 rfl (lv_at hl 2 rfl) ?_
  refine lv_aload_n hx hb dL_law_923 rfl (lv_at hl 3 rfl) ?_
  refine lv_iload_n hx hb dL_law_924 rfl (lv_at hl 0 rfl) ?_
  refine lv_iconst (v := 1) hx hb dL_law_925 (by decide) ?_
  refine lv_iadd hx hb dL_law_926 ?_
  refine va_sld hx hb hX hbl hbA hS (lw_in hN hn 1 (by decide)) dL_law_927 ?_
  refine vcL (j := 0) (As := [.int (xs (nI (5 * n) + 1).toNatClampNeg)]) (rest := []) ⟨hx, hb, hml, hown, hts⟩ (e_X6_count l (dC, dI) K ad hap _ _ _ _ _  _  e1) (cwV 1 hts gL_law_X6_count rfl rfl rfl (by decide +kernel) ⟨Nat.le_of_ble_eq_true rfl, Nat.le_of_ble_eq_true rfl⟩) hK hP hS hge (by decide) (show kd 0 = 6 by decide) (by decide) rfl rfl rfl hl.1 (Nat.le_of_ble_eq_true rfl) (Nat.le_of_ble_eq_true rfl) (Nat.le_of_ble_eq_true rfl) dL_law_928 (fun q6 u H locs hw hP hS => ?_) rfl
  obtain ⟨rfl, rfl⟩ := hw
  have hP : va_P (dC, dI) vwCl (VW K ad I G A L) H := hP
  refine lv_pop hx hb dL_law_931 rfl ?_
  refine lv_aload_n hx hb dL_law_932 rfl (lv_at hl 1 rfl) ?_
  refine lv_aload_n hx hb dL_law_933 rfl (lv_at hl 3 rfl) ?_
  refine lv_iload_n hx hb dL_law_934 rfl (lv_at hl 0 rfl) ?_
  refine lv_iconst (v := 1) hx hb dL_law_935 (by decide) ?_
  refine lv_iadd hx hb dL_law_936 ?_
  refine va_sld hx hb hX hbl hbA hS (lw_in hN hn 1 (by decide)) dL_law_937 ?_
  refine vcL (j := 318) (As := [.int (xs (nI (5 * n) + 1).toNatClampNeg)]) (rest := []) ⟨hx, hb, hml, hown, hts⟩ (e_X7_count l (dC, dI) K ad hap _ _ _ _ _  _ _ e2) (cwV 1 hts gL_law_X7_count rfl rfl rfl (by decide +kernel) ⟨Nat.le_of_ble_eq_true rfl, Nat.le_of_ble_eq_true rfl⟩) hK hP hS hge (by decide) (show kd 318 = 7 by decide) (by decide) rfl rfl rfl hl.1 (Nat.le_of_ble_eq_true rfl) (Nat.le_of_ble_eq_true rfl) (Nat.le_of_ble_eq_true rfl) dL_law_938 (fun q7 u H locs hw hP hS => ?_) rfl
  obtain ⟨rfl, rfl⟩ := hw
  have hP : va_P (dC, dI) vwCl (VW K ad J2 G A L) H := hP
  refine lv_pop hx hb dL_law_941 rfl ?_
  refine lv_goto (tgt := 1044) hx hb dL_law_942 (by decide) ?_
  exact kk J2 G A L H locs hr1 hP hS
set_option maxHeartbeats 4000000 in
set_option maxRecDepth 100000 in
/-- the law: about -/
theorem law_c25 {p : Program} {l : Launch} {e : Env} {s : State} {m : MethodId} {below : List Frame} {meth : Method} {c : Code} {dC : Nat → ClassId} {dI : Nat → Nat → Nat} {b N : Nat} {xs : Nat → Int32} {K : Nat → ClassId} {ad : Nat → Nat} (C0 : lw_At p s m meth c b N xs) (hN : N ≤ 2560) (hK : va_K (dC, dI) vwCl (tyA K) s) (hap : apart ad (fun _ => True)) (hge : ∀ j, j < NS → s.heap.size ≤ ad j) {n : Nat} (hn : 5 * n + 5 ≤ N) (I : Nat → Nat → Int32) (G : Nat → Nat → Nat) (A : Nat → Nat → Int32) (L : Nat → Nat → Int64) (h : Rel n I G A L I A) (H : Heap) (locs : List Loc) (hP : va_P (dC, dI) vwCl (VW K ad I G A L) H) (hS : va_S (fun q : Nat => s.heap.size ≤ q) s.heap H locs) (ls : Array Slot) (hl : lv_has ls 4 [(3, .int (nI (5 * n))), (2, .ref (ad 318)), (1, .ref (ad 0)), (0, .ref b)]) (kk : ∀ (I : Nat → Nat → Int32) (G : Nat → Nat → Nat) (A : Nat → Nat → Int32) (L : Nat → Nat → Int64) (H : Heap) (locs : List Loc), Rel (n + 1) I G A L I A → va_P (dC, dI) vwCl (VW K ad I G A L) H → va_S (fun q : Nat => s.heap.size ≤ q) s.heap H locs → W p l e room_1 s m #[Value.ref b] below meth c H locs 378 153906 (lw_Z below #[Value.ref b] s) (F0 m 1044 ls [])) : W p l e room_1 s m #[Value.ref b] below meth c H locs 378 153906 (lw_Z below #[Value.ref b] s) (F0 m 945 ls []) := by
  obtain ⟨hx, hb, hr, hml, hown, hts0, hX, hbl, hlocks, hgv⟩ := id C0
  have hts : ∀ w ∈ wsL_law, w.before #[Value.ref b] s = true := fun w h => hts0 w (wsL_law_in w h)
  have hown : s.vm.findClass RL = some m.cls := hown
  have hA : ∀ q : Nat, s.heap.size ≤ q → (fun q : Nat => s.heap.size ≤ q) q := fun _ h => h
  have hbA : ¬ (fun q : Nat => s.heap.size ≤ q) b := Nat.not_le.mpr hbl
  obtain ⟨r, I1, J2, e1, e2, hr1⟩ := g_about (xs (nI (5 * n) + 1).toNatClampNeg) (xs (nI (5 * n) + 2).toNatClampNeg) (xs (nI (5 * n) + 3).toNatClampNeg) h 
  refine lv_aload_n hx hb dL_law_945 rfl (lv_at hl 2 rfl) ?_
  refine lv_aload_n hx hb dL_law_946 rfl (lv_at hl 3 rfl) ?_
  refine lv_iload_n hx hb dL_law_947 rfl (lv_at hl 0 rfl) ?_
  refine lv_iconst (v := 1) hx hb dL_law_948 (by decide) ?_
  refine lv_iadd hx hb dL_law_949 ?_
  refine va_sld hx hb hX hbl hbA hS (lw_in hN hn 1 (by decide)) dL_law_950 ?_
  refine lv_aload_n hx hb dL_law_951 rfl (lv_at hl 3 rfl) ?_
  refine lv_iload_n hx hb dL_law_952 rfl (lv_at hl 0 rfl) ?_
  refine lv_iconst (v := 2) hx hb dL_law_953 (by decide) ?_
  refine lv_iadd hx hb dL_law_954 ?_
  refine va_sld hx hb hX hbl hbA hS (lw_in hN hn 2 (by decide)) dL_law_955 ?_
  refine lv_aload_n hx hb dL_law_956 rfl (lv_at hl 3 rfl) ?_
  refine lv_iload_n hx hb dL_law_957 rfl (lv_at hl 0 rfl) ?_
  refine lv_iconst (v := 3) hx hb dL_law_958 (by decide) ?_
  refine lv_iadd hx hb dL_law_959 ?_
  refine va_sld hx hb hX hbl hbA hS (lw_in hN hn 3 (by decide)) dL_law_960 ?_
  refine vcL (j := 0) (As := [.int (xs (nI (5 * n) + 1).toNatClampNeg), .int (xs (nI (5 * n) + 2).toNatClampNeg), .int (xs (nI (5 * n) + 3).toNatClampNeg)]) (rest := []) ⟨hx, hb, hml, hown, hts⟩ (e_X6_about l (dC, dI) K ad hap _ _ _ _ _ _ _  _ _ e1) (cwV 3 hts gL_law_X6_about rfl rfl rfl (by decide +kernel) ⟨Nat.le_of_ble_eq_true rfl, Nat.le_of_ble_eq_true rfl⟩) hK hP hS hge (by decide) (show kd 0 = 6 by decide) (by decide) rfl rfl rfl hl.1 (Nat.le_of_ble_eq_true rfl) (Nat.le_of_ble_eq_true rfl) (Nat.le_of_ble_eq_true rfl) dL_law_961 (fun q6 u H locs hw hP hS => ?_) rfl
  obtain ⟨rfl, rfl⟩ := hw
  have hP : va_P (dC, dI) vwCl (VW K ad I1 G A L) H := hP
  refine lv_pop hx hb dL_law_964 rfl ?_
  refine lv_aload_n hx hb dL_law_965 rfl (lv_at hl 1 rfl) ?_
  refine lv_aload_n hx hb dL_law_966 rfl (lv_at hl 3 rfl) ?_
  refine lv_iload_n hx hb dL_law_967 rfl (lv_at hl 0 rfl) ?_
  refine lv_iconst (v := 1) hx hb dL_law_968 (by decide) ?_
  refine lv_iadd hx hb dL_law_969 ?_
  refine va_sld hx hb hX hbl hbA hS (lw_in hN hn 1 (by decide)) dL_law_970 ?_
  refine lv_aload_n hx hb dL_law_971 rfl (lv_at hl 3 rfl) ?_
  refine lv_iload_n hx hb dL_law_972 rfl (lv_at hl 0 rfl) ?_
  refine lv_iconst (v := 2) hx hb dL_law_973 (by decide) ?_
  refine lv_iadd hx hb dL_law_974 ?_
  refine va_sld hx hb hX hbl hbA hS (lw_in hN hn 2 (by decide)) dL_law_975 ?_
  refine lv_aload_n hx hb dL_law_976 rfl (lv_at hl 3 rfl) ?_
  refine lv_iload_n hx hb dL_law_977 rfl (lv_at hl 0 rfl) ?_
  refine lv_iconst (v := 3) hx hb dL_law_978 (by decide) ?_
  refine lv_iadd hx hb dL_law_979 ?_
  refine va_sld hx hb hX hbl hbA hS (lw_in hN hn 3 (by decide)) dL_law_980 ?_
  refine vcL (j := 318) (As := [.int (xs (nI (5 * n) + 1).toNatClampNeg), .int (xs (nI (5 * n) + 2).toNatClampNeg), .int (xs (nI (5 * n) + 3).toNatClampNeg)]) (rest := []) ⟨hx, hb, hml, hown, hts⟩ (e_X7_about l (dC, dI) K ad hap _ _ _ _ _ _ _  _ _ e2) (cwV 3 hts gL_law_X7_about rfl rfl rfl (by decide +kernel) ⟨Nat.le_of_ble_eq_true rfl, Nat.le_of_ble_eq_true rfl⟩) hK hP hS hge (by decide) (show kd 318 = 7 by decide) (by decide) rfl rfl rfl hl.1 (Nat.le_of_ble_eq_true rfl) (Nat.le_of_ble_eq_true rfl) (Nat.le_of_ble_eq_true rfl) dL_law_981 (fun q7 u H locs hw hP hS => ?_) rfl
  obtain ⟨rfl, rfl⟩ := hw
  have hP : va_P (dC, dI) vwCl (VW K ad J2 G A L) H := hP
  refine lv_pop hx hb dL_law_984 rfl ?_
  refine lv_goto (tgt := 1044) hx hb dL_law_985 (by decide) ?_
  exact kk J2 G A L H locs hr1 hP hS
set_option maxHeartbeats 4000000 in
set_option maxRecDepth 100000 in
/-- the law: costs -/
theorem law_c26 {p : Program} {l : Launch} {e : Env} {s : State} {m : MethodId} {below : List Frame} {meth : Method} {c : Code} {dC : Nat → ClassId} {dI : Nat → Nat → Nat} {b N : Nat} {xs : Nat → Int32} {K : Nat → ClassId} {ad : Nat → Nat} (C0 : lw_At p s m meth c b N xs) (hN : N ≤ 2560) (hK : va_K (dC, dI) vwCl (tyA K) s) (hap : apart ad (fun _ => True)) (hge : ∀ j, j < NS → s.heap.size ≤ ad j) {n : Nat} (hn : 5 * n + 5 ≤ N) (I : Nat → Nat → Int32) (G : Nat → Nat → Nat) (A : Nat → Nat → Int32) (L : Nat → Nat → Int64) (h : Rel n I G A L I A) (H : Heap) (locs : List Loc) (hP : va_P (dC, dI) vwCl (VW K ad I G A L) H) (hS : va_S (fun q : Nat => s.heap.size ≤ q) s.heap H locs) (ls : Array Slot) (hl : lv_has ls 4 [(3, .int (nI (5 * n))), (2, .ref (ad 318)), (1, .ref (ad 0)), (0, .ref b)]) (kk : ∀ (I : Nat → Nat → Int32) (G : Nat → Nat → Nat) (A : Nat → Nat → Int32) (L : Nat → Nat → Int64) (H : Heap) (locs : List Loc), Rel (n + 1) I G A L I A → va_P (dC, dI) vwCl (VW K ad I G A L) H → va_S (fun q : Nat => s.heap.size ≤ q) s.heap H locs → W p l e room_1 s m #[Value.ref b] below meth c H locs 378 153906 (lw_Z below #[Value.ref b] s) (F0 m 1044 ls [])) : W p l e room_1 s m #[Value.ref b] below meth c H locs 378 153906 (lw_Z below #[Value.ref b] s) (F0 m 988 ls []) := by
  obtain ⟨hx, hb, hr, hml, hown, hts0, hX, hbl, hlocks, hgv⟩ := id C0
  have hts : ∀ w ∈ wsL_law, w.before #[Value.ref b] s = true := fun w h => hts0 w (wsL_law_in w h)
  have hown : s.vm.findClass RL = some m.cls := hown
  have hA : ∀ q : Nat, s.heap.size ≤ q → (fun q : Nat => s.heap.size ≤ q) q := fun _ h => h
  have hbA : ¬ (fun q : Nat => s.heap.size ≤ q) b := Nat.not_le.mpr hbl
  obtain ⟨r, I1, J2, e1, e2, hr1⟩ := g_costs (xs (nI (5 * n) + 1).toNatClampNeg) (xs (nI (5 * n) + 2).toNatClampNeg) (xs (nI (5 * n) + 3).toNatClampNeg) h 
  refine lv_aload_n hx hb dL_law_988 rfl (lv_at hl 2 rfl) ?_
  refine lv_aload_n hx hb dL_law_989 rfl (lv_at hl 3 rfl) ?_
  refine lv_iload_n hx hb dL_law_990 rfl (lv_at hl 0 rfl) ?_
  refine lv_iconst (v := 1) hx hb dL_law_991 (by decide) ?_
  refine lv_iadd hx hb dL_law_992 ?_
  refine va_sld hx hb hX hbl hbA hS (lw_in hN hn 1 (by decide)) dL_law_993 ?_
  refine lv_aload_n hx hb dL_law_994 rfl (lv_at hl 3 rfl) ?_
  refine lv_iload_n hx hb dL_law_995 rfl (lv_at hl 0 rfl) ?_
  refine lv_iconst (v := 2) hx hb dL_law_996 (by decide) ?_
  refine lv_iadd hx hb dL_law_997 ?_
  refine va_sld hx hb hX hbl hbA hS (lw_in hN hn 2 (by decide)) dL_law_998 ?_
  refine lv_aload_n hx hb dL_law_999 rfl (lv_at hl 3 rfl) ?_
  refine lv_iload_n hx hb dL_law_1000 rfl (lv_at hl 0 rfl) ?_
  refine lv_iconst (v := 3) hx hb dL_law_1001 (by decide) ?_
  refine lv_iadd hx hb dL_law_1002 ?_
  refine va_sld hx hb hX hbl hbA hS (lw_in hN hn 3 (by decide)) dL_law_1003 ?_
  refine vcL (j := 0) (As := [.int (xs (nI (5 * n) + 1).toNatClampNeg), .int (xs (nI (5 * n) + 2).toNatClampNeg), .int (xs (nI (5 * n) + 3).toNatClampNeg)]) (rest := []) ⟨hx, hb, hml, hown, hts⟩ (e_X6_costs l (dC, dI) K ad hap _ _ _ _ _ _ _  _ _ e1) (cwV 3 hts gL_law_X6_costs rfl rfl rfl (by decide +kernel) ⟨Nat.le_of_ble_eq_true rfl, Nat.le_of_ble_eq_true rfl⟩) hK hP hS hge (by decide) (show kd 0 = 6 by decide) (by decide) rfl rfl rfl hl.1 (Nat.le_of_ble_eq_true rfl) (Nat.le_of_ble_eq_true rfl) (Nat.le_of_ble_eq_true rfl) dL_law_1004 (fun q6 u H locs hw hP hS => ?_) rfl
  obtain ⟨rfl, rfl⟩ := hw
  have hP : va_P (dC, dI) vwCl (VW K ad I1 G A L) H := hP
  refine lv_pop hx hb dL_law_1007 rfl ?_
  refine lv_aload_n hx hb dL_law_1008 rfl (lv_at hl 1 rfl) ?_
  refine lv_aload_n hx hb dL_law_1009 rfl (lv_at hl 3 rfl) ?_
  refine lv_iload_n hx hb dL_law_1010 rfl (lv_at hl 0 rfl) ?_
  refine lv_iconst (v := 1) hx hb dL_law_1011 (by decide) ?_
  refine lv_iadd hx hb dL_law_1012 ?_
  refine va_sld hx hb hX hbl hbA hS (lw_in hN hn 1 (by decide)) dL_law_1013 ?_
  refine lv_aload_n hx hb dL_law_1014 rfl (lv_at hl 3 rfl) ?_
  refine lv_iload_n hx hb dL_law_1015 rfl (lv_at hl 0 rfl) ?_
  refine lv_iconst (v := 2) hx hb dL_law_1016 (by decide) ?_
  refine lv_iadd hx hb dL_law_1017 ?_
  refine va_sld hx hb hX hbl hbA hS (lw_in hN hn 2 (by decide)) dL_law_1018 ?_
  refine lv_aload_n hx hb dL_law_1019 rfl (lv_at hl 3 rfl) ?_
  refine lv_iload_n hx hb dL_law_1020 rfl (lv_at hl 0 rfl) ?_
  refine lv_iconst (v := 3) hx hb dL_law_1021 (by decide) ?_
  refine lv_iadd hx hb dL_law_1022 ?_
  refine va_sld hx hb hX hbl hbA hS (lw_in hN hn 3 (by decide)) dL_law_1023 ?_
  refine vcL (j := 318) (As := [.int (xs (nI (5 * n) + 1).toNatClampNeg), .int (xs (nI (5 * n) + 2).toNatClampNeg), .int (xs (nI (5 * n) + 3).toNatClampNeg)]) (rest := []) ⟨hx, hb, hml, hown, hts⟩ (e_X7_costs l (dC, dI) K ad hap _ _ _ _ _ _ _  _ _ e2) (cwV 3 hts gL_law_X7_costs rfl rfl rfl (by decide +kernel) ⟨Nat.le_of_ble_eq_true rfl, Nat.le_of_ble_eq_true rfl⟩) hK hP hS hge (by decide) (show kd 318 = 7 by decide) (by decide) rfl rfl rfl hl.1 (Nat.le_of_ble_eq_true rfl) (Nat.le_of_ble_eq_true rfl) (Nat.le_of_ble_eq_true rfl) dL_law_1024 (fun q7 u H locs hw hP hS => ?_) rfl
  obtain ⟨rfl, rfl⟩ := hw
  have hP : va_P (dC, dI) vwCl (VW K ad J2 G A L) H := hP
  refine lv_pop hx hb dL_law_1027 rfl ?_
  refine lv_goto (tgt := 1044) hx hb dL_law_1028 (by decide) ?_
  exact kk J2 G A L H locs hr1 hP hS
set_option maxHeartbeats 4000000 in
set_option maxRecDepth 100000 in
/-- the law: status -/
theorem law_c27 {p : Program} {l : Launch} {e : Env} {s : State} {m : MethodId} {below : List Frame} {meth : Method} {c : Code} {dC : Nat → ClassId} {dI : Nat → Nat → Nat} {b N : Nat} {xs : Nat → Int32} {K : Nat → ClassId} {ad : Nat → Nat} (C0 : lw_At p s m meth c b N xs) (hN : N ≤ 2560) (hK : va_K (dC, dI) vwCl (tyA K) s) (hap : apart ad (fun _ => True)) (hge : ∀ j, j < NS → s.heap.size ≤ ad j) {n : Nat} (hn : 5 * n + 5 ≤ N) (I : Nat → Nat → Int32) (G : Nat → Nat → Nat) (A : Nat → Nat → Int32) (L : Nat → Nat → Int64) (h : Rel n I G A L I A) (H : Heap) (locs : List Loc) (hP : va_P (dC, dI) vwCl (VW K ad I G A L) H) (hS : va_S (fun q : Nat => s.heap.size ≤ q) s.heap H locs) (ls : Array Slot) (hl : lv_has ls 4 [(3, .int (nI (5 * n))), (2, .ref (ad 318)), (1, .ref (ad 0)), (0, .ref b)]) (kk : ∀ (I : Nat → Nat → Int32) (G : Nat → Nat → Nat) (A : Nat → Nat → Int32) (L : Nat → Nat → Int64) (H : Heap) (locs : List Loc), Rel (n + 1) I G A L I A → va_P (dC, dI) vwCl (VW K ad I G A L) H → va_S (fun q : Nat => s.heap.size ≤ q) s.heap H locs → W p l e room_1 s m #[Value.ref b] below meth c H locs 378 153906 (lw_Z below #[Value.ref b] s) (F0 m 1044 ls [])) : W p l e room_1 s m #[Value.ref b] below meth c H locs 378 153906 (lw_Z below #[Value.ref b] s) (F0 m 1031 ls []) := by
  obtain ⟨hx, hb, hr, hml, hown, hts0, hX, hbl, hlocks, hgv⟩ := id C0
  have hts : ∀ w ∈ wsL_law, w.before #[Value.ref b] s = true := fun w h => hts0 w (wsL_law_in w h)
  have hown : s.vm.findClass RL = some m.cls := hown
  have hA : ∀ q : Nat, s.heap.size ≤ q → (fun q : Nat => s.heap.size ≤ q) q := fun _ h => h
  have hbA : ¬ (fun q : Nat => s.heap.size ≤ q) b := Nat.not_le.mpr hbl
  obtain ⟨r, J2, e1, e2, hr1⟩ := g_status  h 
  refine lv_aload_n hx hb dL_law_1031 rfl (lv_at hl 2 rfl) ?_
  refine vcL (j := 0) (As := []) (rest := []) ⟨hx, hb, hml, hown, hts⟩ (e_X6_status l (dC, dI) K ad hap  _ _ _ _  _  e1) (cwV 0 hts gL_law_X6_status rfl rfl rfl (by decide +kernel) ⟨Nat.le_of_ble_eq_true rfl, Nat.le_of_ble_eq_true rfl⟩) hK hP hS hge (by decide) (show kd 0 = 6 by decide) (by decide) rfl rfl rfl hl.1 (Nat.le_of_ble_eq_true rfl) (Nat.le_of_ble_eq_true rfl) (Nat.le_of_ble_eq_true rfl) dL_law_1032 (fun q6 u H locs hw hP hS => ?_) rfl
  obtain ⟨rfl, rfl⟩ := hw
  have hP : va_P (dC, dI) vwCl (VW K ad I G A L) H := hP
  refine lv_pop hx hb dL_law_1035 rfl ?_
  refine lv_aload_n hx hb dL_law_1036 rfl (lv_at hl 1 rfl) ?_
  refine vcL (j := 318) (As := []) (rest := []) ⟨hx, hb, hml, hown, hts⟩ (e_X7_status l (dC, dI) K ad hap  _ _ _ _  _ _ e2) (cwV 0 hts gL_law_X7_status rfl rfl rfl (by decide +kernel) ⟨Nat.le_of_ble_eq_true rfl, Nat.le_of_ble_eq_true rfl⟩) hK hP hS hge (by decide) (show kd 318 = 7 by decide) (by decide) rfl rfl rfl hl.1 (Nat.le_of_ble_eq_true rfl) (Nat.le_of_ble_eq_true rfl) (Nat.le_of_ble_eq_true rfl) dL_law_1037 (fun q7 u H locs hw hP hS => ?_) rfl
  obtain ⟨rfl, rfl⟩ := hw
  have hP : va_P (dC, dI) vwCl (VW K ad J2 G A L) H := hP
  refine lv_pop hx hb dL_law_1040 rfl ?_
  refine lv_goto (tgt := 1044) hx hb dL_law_1041 (by decide) ?_
  exact kk J2 G A L H locs hr1 hP hS
