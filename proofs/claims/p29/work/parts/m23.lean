/-! part b2.cases2 -/
set_option maxHeartbeats 4000000 in
set_option maxRecDepth 100000 in
/-- the law: answer -/
theorem law_c14 {p : Program} {l : Launch} {e : Env} {s : State} {m : MethodId} {below : List Frame} {meth : Method} {c : Code} {dC : Nat → ClassId} {dI : Nat → Nat → Nat} {b N : Nat} {xs : Nat → Int32} {K : Nat → ClassId} {ad : Nat → Nat} (C0 : lw_At p s m meth c b N xs) (hN : N ≤ 2560) (hK : va_K (dC, dI) vwCl (tyA K) s) (hap : apart ad (fun _ => True)) (hge : ∀ j, j < NS → s.heap.size ≤ ad j) {n : Nat} (hn : 5 * n + 5 ≤ N) (I : Nat → Nat → Int32) (G : Nat → Nat → Nat) (A : Nat → Nat → Int32) (L : Nat → Nat → Int64) (h : Rel n I G A L I A) (H : Heap) (locs : List Loc) (hP : va_P (dC, dI) vwCl (VW K ad I G A L) H) (hS : va_S (fun q : Nat => s.heap.size ≤ q) s.heap H locs) (ls : Array Slot) (hl : lv_has ls 4 [(3, .int (nI (5 * n))), (2, .ref (ad 318)), (1, .ref (ad 0)), (0, .ref b)]) (kk : ∀ (I : Nat → Nat → Int32) (G : Nat → Nat → Nat) (A : Nat → Nat → Int32) (L : Nat → Nat → Int64) (H : Heap) (locs : List Loc), Rel (n + 1) I G A L I A → va_P (dC, dI) vwCl (VW K ad I G A L) H → va_S (fun q : Nat => s.heap.size ≤ q) s.heap H locs → W p l e room_1 s m #[Value.ref b] below meth c H locs 378 153906 (lw_Z below #[Value.ref b] s) (F0 m 1044 ls [])) : W p l e room_1 s m #[Value.ref b] below meth c H locs 378 153906 (lw_Z below #[Value.ref b] s) (F0 m 602 ls []) := by
  obtain ⟨hx, hb, hr, hml, hown, hts0, hX, hbl, hlocks, hgv⟩ := id C0
  have hts : ∀ w ∈ wsL_law, w.before #[Value.ref b] s = true := fun w h => hts0 w (wsL_law_in w h)
  have hown : s.vm.findClass RL = some m.cls := hown
  have hA : ∀ q : Nat, s.heap.size ≤ q → (fun q : Nat => s.heap.size ≤ q) q := fun _ h => h
  have hbA : ¬ (fun q : Nat => s.heap.size ≤ q) b := Nat.not_le.mpr hbl
  obtain ⟨r, J2, e1, e2, hr1⟩ := g_answer (xs (nI (5 * n) + 1).toNatClampNeg) (xs (nI (5 * n) + 2).toNatClampNeg) h 
  refine lv_aload_n hx hb dL_law_602 rfl (lv_at hl 2 rfl) ?_
  refine lv_aload_n hx hb dL_law_603 rfl (lv_at hl 3 rfl) ?_
  refine lv_iload_n hx hb dL_law_604 rfl (lv_at hl 0 rfl) ?_
  refine lv_iconst (v := 1) hx hb dL_law_605 (by decide) ?_
  refine lv_iadd hx hb dL_law_606 ?_
  refine va_sld hx hb hX hbl hbA hS (lw_in hN hn 1 (by decide)) dL_law_607 ?_
  refine lv_aload_n hx hb dL_law_608 rfl (lv_at hl 3 rfl) ?_
  refine lv_iload_n hx hb dL_law_609 rfl (lv_at hl 0 rfl) ?_
  refine lv_iconst (v := 2) hx hb dL_law_610 (by decide) ?_
  refine lv_iadd hx hb dL_law_611 ?_
  refine va_sld hx hb hX hbl hbA hS (lw_in hN hn 2 (by decide)) dL_law_612 ?_
  refine vcL (j := 0) (As := [.int (xs (nI (5 * n) + 1).toNatClampNeg), .int (xs (nI (5 * n) + 2).toNatClampNeg)]) (rest := []) ⟨hx, hb, hml, hown, hts⟩ (e_X6_answer l (dC, dI) K ad hap _ _ _ _ _ _  _  e1) (cwV 2 hts gL_law_X6_answer rfl rfl rfl (by decide +kernel) ⟨Nat.le_of_ble_eq_true rfl, Nat.le_of_ble_eq_true rfl⟩) hK hP hS hge (by decide) (show kd 0 = 6 by decide) (by decide) rfl rfl rfl hl.1 (Nat.le_of_ble_eq_true rfl) (Nat.le_of_ble_eq_true rfl) (Nat.le_of_ble_eq_true rfl) dL_law_613 (fun q6 u H locs hw hP hS => ?_) rfl
  obtain ⟨rfl, rfl⟩ := hw
  have hP : va_P (dC, dI) vwCl (VW K ad I G A L) H := hP
  refine lv_pop hx hb dL_law_616 rfl ?_
  refine lv_aload_n hx hb dL_law_617 rfl (lv_at hl 1 rfl) ?_
  refine lv_aload_n hx hb dL_law_618 rfl (lv_at hl 3 rfl) ?_
  refine lv_iload_n hx hb dL_law_619 rfl (lv_at hl 0 rfl) ?_
  refine lv_iconst (v := 1) hx hb dL_law_620 (by decide) ?_
  refine lv_iadd hx hb dL_law_621 ?_
  refine va_sld hx hb hX hbl hbA hS (lw_in hN hn 1 (by decide)) dL_law_622 ?_
  refine lv_aload_n hx hb dL_law_623 rfl (lv_at hl 3 rfl) ?_
  refine lv_iload_n hx hb dL_law_624 rfl (lv_at hl 0 rfl) ?_
  refine lv_iconst (v := 2) hx hb dL_law_625 (by decide) ?_
  refine lv_iadd hx hb dL_law_626 ?_
  refine va_sld hx hb hX hbl hbA hS (lw_in hN hn 2 (by decide)) dL_law_627 ?_
  refine vcL (j := 318) (As := [.int (xs (nI (5 * n) + 1).toNatClampNeg), .int (xs (nI (5 * n) + 2).toNatClampNeg)]) (rest := []) ⟨hx, hb, hml, hown, hts⟩ (e_X7_answer l (dC, dI) K ad hap _ _ _ _ _ _  _ _ e2) (cwV 2 hts gL_law_X7_answer rfl rfl rfl (by decide +kernel) ⟨Nat.le_of_ble_eq_true rfl, Nat.le_of_ble_eq_true rfl⟩) hK hP hS hge (by decide) (show kd 318 = 7 by decide) (by decide) rfl rfl rfl hl.1 (Nat.le_of_ble_eq_true rfl) (Nat.le_of_ble_eq_true rfl) (Nat.le_of_ble_eq_true rfl) dL_law_628 (fun q7 u H locs hw hP hS => ?_) rfl
  obtain ⟨rfl, rfl⟩ := hw
  have hP : va_P (dC, dI) vwCl (VW K ad J2 G A L) H := hP
  refine lv_pop hx hb dL_law_631 rfl ?_
  refine lv_goto (tgt := 1044) hx hb dL_law_632 (by decide) ?_
  exact kk J2 G A L H locs hr1 hP hS
set_option maxHeartbeats 4000000 in
set_option maxRecDepth 100000 in
/-- the law: walked -/
theorem law_c15 {p : Program} {l : Launch} {e : Env} {s : State} {m : MethodId} {below : List Frame} {meth : Method} {c : Code} {dC : Nat → ClassId} {dI : Nat → Nat → Nat} {b N : Nat} {xs : Nat → Int32} {K : Nat → ClassId} {ad : Nat → Nat} (C0 : lw_At p s m meth c b N xs) (hN : N ≤ 2560) (hK : va_K (dC, dI) vwCl (tyA K) s) (hap : apart ad (fun _ => True)) (hge : ∀ j, j < NS → s.heap.size ≤ ad j) {n : Nat} (hn : 5 * n + 5 ≤ N) (I : Nat → Nat → Int32) (G : Nat → Nat → Nat) (A : Nat → Nat → Int32) (L : Nat → Nat → Int64) (h : Rel n I G A L I A) (H : Heap) (locs : List Loc) (hP : va_P (dC, dI) vwCl (VW K ad I G A L) H) (hS : va_S (fun q : Nat => s.heap.size ≤ q) s.heap H locs) (ls : Array Slot) (hl : lv_has ls 4 [(3, .int (nI (5 * n))), (2, .ref (ad 318)), (1, .ref (ad 0)), (0, .ref b)]) (kk : ∀ (I : Nat → Nat → Int32) (G : Nat → Nat → Nat) (A : Nat → Nat → Int32) (L : Nat → Nat → Int64) (H : Heap) (locs : List Loc), Rel (n + 1) I G A L I A → va_P (dC, dI) vwCl (VW K ad I G A L) H → va_S (fun q : Nat => s.heap.size ≤ q) s.heap H locs → W p l e room_1 s m #[Value.ref b] below meth c H locs 378 153906 (lw_Z below #[Value.ref b] s) (F0 m 1044 ls [])) : W p l e room_1 s m #[Value.ref b] below meth c H locs 378 153906 (lw_Z below #[Value.ref b] s) (F0 m 635 ls []) := by
  obtain ⟨hx, hb, hr, hml, hown, hts0, hX, hbl, hlocks, hgv⟩ := id C0
  have hts : ∀ w ∈ wsL_law, w.before #[Value.ref b] s = true := fun w h => hts0 w (wsL_law_in w h)
  have hown : s.vm.findClass RL = some m.cls := hown
  have hA : ∀ q : Nat, s.heap.size ≤ q → (fun q : Nat => s.heap.size ≤ q) q := fun _ h => h
  have hbA : ¬ (fun q : Nat => s.heap.size ≤ q) b := Nat.not_le.mpr hbl
  obtain ⟨r, J2, e1, e2, hr1⟩ := g_walked (xs (nI (5 * n) + 1).toNatClampNeg) (xs (nI (5 * n) + 2).toNatClampNeg) h 
  refine lv_aload_n hx hb dL_law_635 rfl (lv_at hl 2 rfl) ?_
  refine lv_aload_n hx hb dL_law_636 rfl (lv_at hl 3 rfl) ?_
  refine lv_iload_n hx hb dL_law_637 rfl (lv_at hl 0 rfl) ?_
  refine lv_iconst (v := 1) hx hb dL_law_638 (by decide) ?_
  refine lv_iadd hx hb dL_law_639 ?_
  refine va_sld hx hb hX hbl hbA hS (lw_in hN hn 1 (by decide)) dL_law_640 ?_
  refine lv_aload_n hx hb dL_law_641 rfl (lv_at hl 3 rfl) ?_
  refine lv_iload_n hx hb dL_law_642 rfl (lv_at hl 0 rfl) ?_
  refine lv_iconst (v := 2) hx hb dL_law_643 (by decide) ?_
  refine lv_iadd hx hb dL_law_644 ?_
  refine va_sld hx hb hX hbl hbA hS (lw_in hN hn 2 (by decide)) dL_law_645 ?_
  refine vcL (j := 0) (As := [.int (xs (nI (5 * n) + 1).toNatClampNeg), .int (xs (nI (5 * n) + 2).toNatClampNeg)]) (rest := []) ⟨hx, hb, hml, hown, hts⟩ (e_X6_walked l (dC, dI) K ad hap _ _ _ _ _ _  _  e1) (cwV 2 hts gL_law_X6_walked rfl rfl rfl (by decide +kernel) ⟨Nat.le_of_ble_eq_true rfl, Nat.le_of_ble_eq_true rfl⟩) hK hP hS hge (by decide) (show kd 0 = 6 by decide) (by decide) rfl rfl rfl hl.1 (Nat.le_of_ble_eq_true rfl) (Nat.le_of_ble_eq_true rfl) (Nat.le_of_ble_eq_true rfl) dL_law_646 (fun q6 u H locs hw hP hS => ?_) rfl
  obtain ⟨rfl, rfl⟩ := hw
  have hP : va_P (dC, dI) vwCl (VW K ad I G A L) H := hP
  refine lv_pop hx hb dL_law_649 rfl ?_
  refine lv_aload_n hx hb dL_law_650 rfl (lv_at hl 1 rfl) ?_
  refine lv_aload_n hx hb dL_law_651 rfl (lv_at hl 3 rfl) ?_
  refine lv_iload_n hx hb dL_law_652 rfl (lv_at hl 0 rfl) ?_
  refine lv_iconst (v := 1) hx hb dL_law_653 (by decide) ?_
  refine lv_iadd hx hb dL_law_654 ?_
  refine va_sld hx hb hX hbl hbA hS (lw_in hN hn 1 (by decide)) dL_law_655 ?_
  refine lv_aload_n hx hb dL_law_656 rfl (lv_at hl 3 rfl) ?_
  refine lv_iload_n hx hb dL_law_657 rfl (lv_at hl 0 rfl) ?_
  refine lv_iconst (v := 2) hx hb dL_law_658 (by decide) ?_
  refine lv_iadd hx hb dL_law_659 ?_
  refine va_sld hx hb hX hbl hbA hS (lw_in hN hn 2 (by decide)) dL_law_660 ?_
  refine vcL (j := 318) (As := [.int (xs (nI (5 * n) + 1).toNatClampNeg), .int (xs (nI (5 * n) + 2).toNatClampNeg)]) (rest := []) ⟨hx, hb, hml, hown, hts⟩ (e_X7_walked l (dC, dI) K ad hap _ _ _ _ _ _  _ _ e2) (cwV 2 hts gL_law_X7_walked rfl rfl rfl (by decide +kernel) ⟨Nat.le_of_ble_eq_true rfl, Nat.le_of_ble_eq_true rfl⟩) hK hP hS hge (by decide) (show kd 318 = 7 by decide) (by decide) rfl rfl rfl hl.1 (Nat.le_of_ble_eq_true rfl) (Nat.le_of_ble_eq_true rfl) (Nat.le_of_ble_eq_true rfl) dL_law_661 (fun q7 u H locs hw hP hS => ?_) rfl
  obtain ⟨rfl, rfl⟩ := hw
  have hP : va_P (dC, dI) vwCl (VW K ad J2 G A L) H := hP
  refine lv_pop hx hb dL_law_664 rfl ?_
  refine lv_goto (tgt := 1044) hx hb dL_law_665 (by decide) ?_
  exact kk J2 G A L H locs hr1 hP hS
set_option maxHeartbeats 4000000 in
set_option maxRecDepth 100000 in
/-- the law: closed -/
theorem law_c16 {p : Program} {l : Launch} {e : Env} {s : State} {m : MethodId} {below : List Frame} {meth : Method} {c : Code} {dC : Nat → ClassId} {dI : Nat → Nat → Nat} {b N : Nat} {xs : Nat → Int32} {K : Nat → ClassId} {ad : Nat → Nat} (C0 : lw_At p s m meth c b N xs) (hN : N ≤ 2560) (hK : va_K (dC, dI) vwCl (tyA K) s) (hap : apart ad (fun _ => True)) (hge : ∀ j, j < NS → s.heap.size ≤ ad j) {n : Nat} (hn : 5 * n + 5 ≤ N) (I : Nat → Nat → Int32) (G : Nat → Nat → Nat) (A : Nat → Nat → Int32) (L : Nat → Nat → Int64) (h : Rel n I G A L I A) (H : Heap) (locs : List Loc) (hP : va_P (dC, dI) vwCl (VW K ad I G A L) H) (hS : va_S (fun q : Nat => s.heap.size ≤ q) s.heap H locs) (ls : Array Slot) (hl : lv_has ls 4 [(3, .int (nI (5 * n))), (2, .ref (ad 318)), (1, .ref (ad 0)), (0, .ref b)]) (kk : ∀ (I : Nat → Nat → Int32) (G : Nat → Nat → Nat) (A : Nat → Nat → Int32) (L : Nat → Nat → Int64) (H : Heap) (locs : List Loc), Rel (n + 1) I G A L I A → va_P (dC, dI) vwCl (VW K ad I G A L) H → va_S (fun q : Nat => s.heap.size ≤ q) s.heap H locs → W p l e room_1 s m #[Value.ref b] below meth c H locs 378 153906 (lw_Z below #[Value.ref b] s) (F0 m 1044 ls [])) : W p l e room_1 s m #[Value.ref b] below meth c H locs 378 153906 (lw_Z below #[Value.ref b] s) (F0 m 668 ls []) := by
  obtain ⟨hx, hb, hr, hml, hown, hts0, hX, hbl, hlocks, hgv⟩ := id C0
  have hts : ∀ w ∈ wsL_law, w.before #[Value.ref b] s = true := fun w h => hts0 w (wsL_law_in w h)
  have hown : s.vm.findClass RL = some m.cls := hown
  have hA : ∀ q : Nat, s.heap.size ≤ q → (fun q : Nat => s.heap.size ≤ q) q := fun _ h => h
  have hbA : ¬ (fun q : Nat => s.heap.size ≤ q) b := Nat.not_le.mpr hbl
  obtain ⟨r, J2, e1, e2, hr1⟩ := g_closed (xs (nI (5 * n) + 1).toNatClampNeg) (xs (nI (5 * n) + 2).toNatClampNeg) (xs (nI (5 * n) + 3).toNatClampNeg) h 
  refine lv_aload_n hx hb dL_law_668 rfl (lv_at hl 2 rfl) ?_
  refine lv_aload_n hx hb dL_law_669 rfl (lv_at hl 3 rfl) ?_
  refine lv_iload_n hx hb dL_law_670 rfl (lv_at hl 0 rfl) ?_
  refine lv_iconst (v := 1) hx hb dL_law_671 (by decide) ?_
  refine lv_iadd hx hb dL_law_672 ?_
  refine va_sld hx hb hX hbl hbA hS (lw_in hN hn 1 (by decide)) dL_law_673 ?_
  refine lv_aload_n hx hb dL_law_674 rfl (lv_at hl 3 rfl) ?_
  refine lv_iload_n hx hb dL_law_675 rfl (lv_at hl 0 rfl) ?_
  refine lv_iconst (v := 2) hx hb dL_law_676 (by decide) ?_
  refine lv_iadd hx hb dL_law_677 ?_
  refine va_sld hx hb hX hbl hbA hS (lw_in hN hn 2 (by decide)) dL_law_678 ?_
  refine lv_aload_n hx hb dL_law_679 rfl (lv_at hl 3 rfl) ?_
  refine lv_iload_n hx hb dL_law_680 rfl (lv_at hl 0 rfl) ?_
  refine lv_iconst (v := 3) hx hb dL_law_681 (by decide) ?_
  refine lv_iadd hx hb dL_law_682 ?_
  refine va_sld hx hb hX hbl hbA hS (lw_in hN hn 3 (by decide)) dL_law_683 ?_
  refine vcL (j := 0) (As := [.int (xs (nI (5 * n) + 1).toNatClampNeg), .int (xs (nI (5 * n) + 2).toNatClampNeg), .int (xs (nI (5 * n) + 3).toNatClampNeg)]) (rest := []) ⟨hx, hb, hml, hown, hts⟩ (e_X6_closed l (dC, dI) K ad hap _ _ _ _ _ _ _  _  e1) (cwV 3 hts gL_law_X6_closed rfl rfl rfl (by decide +kernel) ⟨Nat.le_of_ble_eq_true rfl, Nat.le_of_ble_eq_true rfl⟩) hK hP hS hge (by decide) (show kd 0 = 6 by decide) (by decide) rfl rfl rfl hl.1 (Nat.le_of_ble_eq_true rfl) (Nat.le_of_ble_eq_true rfl) (Nat.le_of_ble_eq_true rfl) dL_law_684 (fun q6 u H locs hw hP hS => ?_) rfl
  obtain ⟨rfl, rfl⟩ := hw
  have hP : va_P (dC, dI) vwCl (VW K ad I G A L) H := hP
  refine lv_pop hx hb dL_law_687 rfl ?_
  refine lv_aload_n hx hb dL_law_688 rfl (lv_at hl 1 rfl) ?_
  refine lv_aload_n hx hb dL_law_689 rfl (lv_at hl 3 rfl) ?_
  refine lv_iload_n hx hb dL_law_690 rfl (lv_at hl 0 rfl) ?_
  refine lv_iconst (v := 1) hx hb dL_law_691 (by decide) ?_
  refine lv_iadd hx hb dL_law_692 ?_
  refine va_sld hx hb hX hbl hbA hS (lw_in hN hn 1 (by decide)) dL_law_693 ?_
  refine lv_aload_n hx hb dL_law_694 rfl (lv_at hl 3 rfl) ?_
  refine lv_iload_n hx hb dL_law_695 rfl (lv_at hl 0 rfl) ?_
  refine lv_iconst (v := 2) hx hb dL_law_696 (by decide) ?_
  refine lv_iadd hx hb dL_law_697 ?_
  refine va_sld hx hb hX hbl hbA hS (lw_in hN hn 2 (by decide)) dL_law_698 ?_
  refine lv_aload_n hx hb dL_law_699 rfl (lv_at hl 3 rfl) ?_
  refine lv_iload_n hx hb dL_law_700 rfl (lv_at hl 0 rfl) ?_
  refine lv_iconst (v := 3) hx hb dL_law_701 (by decide) ?_
  refine lv_iadd hx hb dL_law_702 ?_
  refine va_sld hx hb hX hbl hbA hS (lw_in hN hn 3 (by decide)) dL_law_703 ?_
  refine vcL (j := 318) (As := [.int (xs (nI (5 * n) + 1).toNatClampNeg), .int (xs (nI (5 * n) + 2).toNatClampNeg), .int (xs (nI (5 * n) + 3).toNatClampNeg)]) (rest := []) ⟨hx, hb, hml, hown, hts⟩ (e_X7_closed l (dC, dI) K ad hap _ _ _ _ _ _ _  _ _ e2) (cwV 3 hts gL_law_X7_closed rfl rfl rfl (by decide +kernel) ⟨Nat.le_of_ble_eq_true rfl, Nat.le_of_ble_eq_true rfl⟩) hK hP hS hge (by decide) (show kd 318 = 7 by decide) (by decide) rfl rfl rfl hl.1 (Nat.le_of_ble_eq_true rfl) (Nat.le_of_ble_eq_true rfl) (Nat.le_of_ble_eq_true rfl) dL_law_704 (fun q7 u H locs hw hP hS => ?_) rfl
  obtain ⟨rfl, rfl⟩ := hw
  have hP : va_P (dC, dI) vwCl (VW K ad J2 G A L) H := hP
  refine lv_pop hx hb dL_law_707 rfl ?_
  refine lv_goto (tgt := 1044) hx hb dL_law_708 (by decide) ?_
  exact kk J2 G A L H locs hr1 hP hS
set_option maxHeartbeats 4000000 in
set_option maxRecDepth 100000 in
/-- the law: helper -/
theorem law_c17 {p : Program} {l : Launch} {e : Env} {s : State} {m : MethodId} {below : List Frame} {meth : Method} {c : Code} {dC : Nat → ClassId} {dI : Nat → Nat → Nat} {b N : Nat} {xs : Nat → Int32} {K : Nat → ClassId} {ad : Nat → Nat} (C0 : lw_At p s m meth c b N xs) (hN : N ≤ 2560) (hK : va_K (dC, dI) vwCl (tyA K) s) (hap : apart ad (fun _ => True)) (hge : ∀ j, j < NS → s.heap.size ≤ ad j) {n : Nat} (hn : 5 * n + 5 ≤ N) (I : Nat → Nat → Int32) (G : Nat → Nat → Nat) (A : Nat → Nat → Int32) (L : Nat → Nat → Int64) (h : Rel n I G A L I A) (H : Heap) (locs : List Loc) (hP : va_P (dC, dI) vwCl (VW K ad I G A L) H) (hS : va_S (fun q : Nat => s.heap.size ≤ q) s.heap H locs) (ls : Array Slot) (hl : lv_has ls 4 [(3, .int (nI (5 * n))), (2, .ref (ad 318)), (1, .ref (ad 0)), (0, .ref b)]) (kk : ∀ (I : Nat → Nat → Int32) (G : Nat → Nat → Nat) (A : Nat → Nat → Int32) (L : Nat → Nat → Int64) (H : Heap) (locs : List Loc), Rel (n + 1) I G A L I A → va_P (dC, dI) vwCl (VW K ad I G A L) H → va_S (fun q : Nat => s.heap.size ≤ q) s.heap H locs → W p l e room_1 s m #[Value.ref b] below meth c H locs 378 153906 (lw_Z below #[Value.ref b] s) (F0 m 1044 ls [])) : W p l e room_1 s m #[Value.ref b] below meth c H locs 378 153906 (lw_Z below #[Value.ref b] s) (F0 m 711 ls []) := by
  obtain ⟨hx, hb, hr, hml, hown, hts0, hX, hbl, hlocks, hgv⟩ := id C0
  have hts : ∀ w ∈ wsL_law, w.before #[Value.ref b] s = true := fun w h => hts0 w (wsL_law_in w h)
  have hown : s.vm.findClass RL = some m.cls := hown
  have hA : ∀ q : Nat, s.heap.size ≤ q → (fun q : Nat => s.heap.size ≤ q) q := fun _ h => h
  have hbA : ¬ (fun q : Nat => s.heap.size ≤ q) b := Nat.not_le.mpr hbl
  obtain ⟨r, J2, e1, e2, hr1⟩ := g_helper (xs (nI (5 * n) + 1).toNatClampNeg) (xs (nI (5 * n) + 2).toNatClampNeg) h 
  refine lv_aload_n hx hb dL_law_711 rfl (lv_at hl 2 rfl) ?_
  refine lv_aload_n hx hb dL_law_712 rfl (lv_at hl 3 rfl) ?_
  refine lv_iload_n hx hb dL_law_713 rfl (lv_at hl 0 rfl) ?_
  refine lv_iconst (v := 1) hx hb dL_law_714 (by decide) ?_
  refine lv_iadd hx hb dL_law_715 ?_
  refine va_sld hx hb hX hbl hbA hS (lw_in hN hn 1 (by decide)) dL_law_716 ?_
  refine lv_aload_n hx hb dL_law_717 rfl (lv_at hl 3 rfl) ?_
  refine lv_iload_n hx hb dL_law_718 rfl (lv_at hl 0 rfl) ?_
  refine lv_iconst (v := 2) hx hb dL_law_719 (by decide) ?_
  refine lv_iadd hx hb dL_law_720 ?_
  refine va_sld hx hb hX hbl hbA hS (lw_in hN hn 2 (by decide)) dL_law_721 ?_
  refine vcL (j := 0) (As := [.int (xs (nI (5 * n) + 1).toNatClampNeg), .int (xs (nI (5 * n) + 2).toNatClampNeg)]) (rest := []) ⟨hx, hb, hml, hown, hts⟩ (e_X6_helper l (dC, dI) K ad hap _ _ _ _ _ _  _  e1) (cwV 2 hts gL_law_X6_helper rfl rfl rfl (by decide +kernel) ⟨Nat.le_of_ble_eq_true rfl, Nat.le_of_ble_eq_true rfl⟩) hK hP hS hge (by decide) (show kd 0 = 6 by decide) (by decide) rfl rfl rfl hl.1 (Nat.le_of_ble_eq_true rfl) (Nat.le_of_ble_eq_true rfl) (Nat.le_of_ble_eq_true rfl) dL_law_722 (fun q6 u H locs hw hP hS => ?_) rfl
  obtain ⟨rfl, rfl⟩ := hw
  have hP : va_P (dC, dI) vwCl (VW K ad I G A L) H := hP
  refine lv_pop hx hb dL_law_725 rfl ?_
  refine lv_aload_n hx hb dL_law_726 rfl (lv_at hl 1 rfl) ?_
  refine lv_aload_n hx hb dL_law_727 rfl (lv_at hl 3 rfl) ?_
  refine lv_iload_n hx hb dL_law_728 rfl (lv_at hl 0 rfl) ?_
  refine lv_iconst (v := 1) hx hb dL_law_729 (by decide) ?_
  refine lv_iadd hx hb dL_law_730 ?_
  refine va_sld hx hb hX hbl hbA hS (lw_in hN hn 1 (by decide)) dL_law_731 ?_
  refine lv_aload_n hx hb dL_law_732 rfl (lv_at hl 3 rfl) ?_
  refine lv_iload_n hx hb dL_law_733 rfl (lv_at hl 0 rfl) ?_
  refine lv_iconst (v := 2) hx hb dL_law_734 (by decide) ?_
  refine lv_iadd hx hb dL_law_735 ?_
  refine va_sld hx hb hX hbl hbA hS (lw_in hN hn 2 (by decide)) dL_law_736 ?_
  refine vcL (j := 318) (As := [.int (xs (nI (5 * n) + 1).toNatClampNeg), .int (xs (nI (5 * n) + 2).toNatClampNeg)]) (rest := []) ⟨hx, hb, hml, hown, hts⟩ (e_X7_helper l (dC, dI) K ad hap _ _ _ _ _ _  _ _ e2) (cwV 2 hts gL_law_X7_helper rfl rfl rfl (by decide +kernel) ⟨Nat.le_of_ble_eq_true rfl, Nat.le_of_ble_eq_true rfl⟩) hK hP hS hge (by decide) (show kd 318 = 7 by decide) (by decide) rfl rfl rfl hl.1 (Nat.le_of_ble_eq_true rfl) (Nat.le_of_ble_eq_true rfl) (Nat.le_of_ble_eq_true rfl) dL_law_737 (fun q7 u H locs hw hP hS => ?_) rfl
  obtain ⟨rfl, rfl⟩ := hw
  have hP : va_P (dC, dI) vwCl (VW K ad J2 G A L) H := hP
  refine lv_pop hx hb dL_law_740 rfl ?_
  refine lv_goto (tgt := 1044) hx hb dL_law_741 (by decide) ?_
  exact kk J2 G A L H locs hr1 hP hS
set_option maxHeartbeats 4000000 in
set_option maxRecDepth 100000 in
/-- the law: ask -/
theorem law_c18 {p : Program} {l : Launch} {e : Env} {s : State} {m : MethodId} {below : List Frame} {meth : Method} {c : Code} {dC : Nat → ClassId} {dI : Nat → Nat → Nat} {b N : Nat} {xs : Nat → Int32} {K : Nat → ClassId} {ad : Nat → Nat} (C0 : lw_At p s m meth c b N xs) (hN : N ≤ 2560) (hK : va_K (dC, dI) vwCl (tyA K) s) (hap : apart ad (fun _ => True)) (hge : ∀ j, j < NS → s.heap.size ≤ ad j) {n : Nat} (hn : 5 * n + 5 ≤ N) (I : Nat → Nat → Int32) (G : Nat → Nat → Nat) (A : Nat → Nat → Int32) (L : Nat → Nat → Int64) (h : Rel n I G A L I A) (H : Heap) (locs : List Loc) (hP : va_P (dC, dI) vwCl (VW K ad I G A L) H) (hS : va_S (fun q : Nat => s.heap.size ≤ q) s.heap H locs) (ls : Array Slot) (hl : lv_has ls 4 [(3, .int (nI (5 * n))), (2, .ref (ad 318)), (1, .ref (ad 0)), (0, .ref b)]) (kk : ∀ (I : Nat → Nat → Int32) (G : Nat → Nat → Nat) (A : Nat → Nat → Int32) (L : Nat → Nat → Int64) (H : Heap) (locs : List Loc), Rel (n + 1) I G A L I A → va_P (dC, dI) vwCl (VW K ad I G A L) H → va_S (fun q : Nat => s.heap.size ≤ q) s.heap H locs → W p l e room_1 s m #[Value.ref b] below meth c H locs 378 153906 (lw_Z below #[Value.ref b] s) (F0 m 1044 ls [])) : W p l e room_1 s m #[Value.ref b] below meth c H locs 378 153906 (lw_Z below #[Value.ref b] s) (F0 m 744 ls []) := by
  obtain ⟨hx, hb, hr, hml, hown, hts0, hX, hbl, hlocks, hgv⟩ := id C0
  have hts : ∀ w ∈ wsL_law, w.before #[Value.ref b] s = true := fun w h => hts0 w (wsL_law_in w h)
  have hown : s.vm.findClass RL = some m.cls := hown
  have hA : ∀ q : Nat, s.heap.size ≤ q → (fun q : Nat => s.heap.size ≤ q) q := fun _ h => h
  have hbA : ¬ (fun q : Nat => s.heap.size ≤ q) b := Nat.not_le.mpr hbl
  obtain ⟨r, I1, A1, J2, e1, e2, hr1⟩ := g_ask (xs (nI (5 * n) + 1).toNatClampNeg) h (by omega)
  refine lv_aload_n hx hb dL_law_744 rfl (lv_at hl 2 rfl) ?_
  refine lv_aload_n hx hb dL_law_745 rfl (lv_at hl 3 rfl) ?_
  refine lv_iload_n hx hb dL_law_746 rfl (lv_at hl 0 rfl) ?_
  refine lv_iconst (v := 1) hx hb dL_law_747 (by decide) ?_
  refine lv_iadd hx hb dL_law_748 ?_
  refine va_sld hx hb hX hbl hbA hS (lw_in hN hn 1 (by decide)) dL_law_749 ?_
  refine vcL (j := 0) (As := [.int (xs (nI (5 * n) + 1).toNatClampNeg)]) (rest := []) ⟨hx, hb, hml, hown, hts⟩ (e_X6_ask l (dC, dI) K ad hap _ _ _ _ _  _ _ _ e1) (cwV 1 hts gL_law_X6_ask rfl rfl rfl (by decide +kernel) ⟨Nat.le_of_ble_eq_true rfl, Nat.le_of_ble_eq_true rfl⟩) hK hP hS hge (by decide) (show kd 0 = 6 by decide) (by decide) rfl rfl rfl hl.1 (Nat.le_of_ble_eq_true rfl) (Nat.le_of_ble_eq_true rfl) (Nat.le_of_ble_eq_true rfl) dL_law_750 (fun q6 u H locs hw hP hS => ?_) rfl
  obtain ⟨rfl, rfl⟩ := hw
  have hP : va_P (dC, dI) vwCl (VW K ad I1 G A1 L) H := hP
  refine lv_pop hx hb dL_law_753 rfl ?_
  refine lv_aload_n hx hb dL_law_754 rfl (lv_at hl 1 rfl) ?_
  refine lv_aload_n hx hb dL_law_755 rfl (lv_at hl 3 rfl) ?_
  refine lv_iload_n hx hb dL_law_756 rfl (lv_at hl 0 rfl) ?_
  refine lv_iconst (v := 1) hx hb dL_law_757 (by decide) ?_
  refine lv_iadd hx hb dL_law_758 ?_
  refine va_sld hx hb hX hbl hbA hS (lw_in hN hn 1 (by decide)) dL_law_759 ?_
  refine vcL (j := 318) (As := [.int (xs (nI (5 * n) + 1).toNatClampNeg)]) (rest := []) ⟨hx, hb, hml, hown, hts⟩ (e_X7_ask l (dC, dI) K ad hap _ _ _ _ _  _ _ e2) (cwV 1 hts gL_law_X7_ask rfl rfl rfl (by decide +kernel) ⟨Nat.le_of_ble_eq_true rfl, Nat.le_of_ble_eq_true rfl⟩) hK hP hS hge (by decide) (show kd 318 = 7 by decide) (by decide) rfl rfl rfl hl.1 (Nat.le_of_ble_eq_true rfl) (Nat.le_of_ble_eq_true rfl) (Nat.le_of_ble_eq_true rfl) dL_law_760 (fun q7 u H locs hw hP hS => ?_) rfl
  obtain ⟨rfl, rfl⟩ := hw
  have hP : va_P (dC, dI) vwCl (VW K ad J2 G A1 L) H := hP
  refine lv_pop hx hb dL_law_763 rfl ?_
  refine lv_goto (tgt := 1044) hx hb dL_law_764 (by decide) ?_
  exact kk J2 G A1 L H locs hr1 hP hS
set_option maxHeartbeats 4000000 in
set_option maxRecDepth 100000 in
/-- the law: with -/
theorem law_c19 {p : Program} {l : Launch} {e : Env} {s : State} {m : MethodId} {below : List Frame} {meth : Method} {c : Code} {dC : Nat → ClassId} {dI : Nat → Nat → Nat} {b N : Nat} {xs : Nat → Int32} {K : Nat → ClassId} {ad : Nat → Nat} (C0 : lw_At p s m meth c b N xs) (hN : N ≤ 2560) (hK : va_K (dC, dI) vwCl (tyA K) s) (hap : apart ad (fun _ => True)) (hge : ∀ j, j < NS → s.heap.size ≤ ad j) {n : Nat} (hn : 5 * n + 5 ≤ N) (I : Nat → Nat → Int32) (G : Nat → Nat → Nat) (A : Nat → Nat → Int32) (L : Nat → Nat → Int64) (h : Rel n I G A L I A) (H : Heap) (locs : List Loc) (hP : va_P (dC, dI) vwCl (VW K ad I G A L) H) (hS : va_S (fun q : Nat => s.heap.size ≤ q) s.heap H locs) (ls : Array Slot) (hl : lv_has ls 4 [(3, .int (nI (5 * n))), (2, .ref (ad 318)), (1, .ref (ad 0)), (0, .ref b)]) (kk : ∀ (I : Nat → Nat → Int32) (G : Nat → Nat → Nat) (A : Nat → Nat → Int32) (L : Nat → Nat → Int64) (H : Heap) (locs : List Loc), Rel (n + 1) I G A L I A → va_P (dC, dI) vwCl (VW K ad I G A L) H → va_S (fun q : Nat => s.heap.size ≤ q) s.heap H locs → W p l e room_1 s m #[Value.ref b] below meth c H locs 378 153906 (lw_Z below #[Value.ref b] s) (F0 m 1044 ls [])) : W p l e room_1 s m #[Value.ref b] below meth c H locs 378 153906 (lw_Z below #[Value.ref b] s) (F0 m 767 ls []) := by
  obtain ⟨hx, hb, hr, hml, hown, hts0, hX, hbl, hlocks, hgv⟩ := id C0
  have hts : ∀ w ∈ wsL_law, w.before #[Value.ref b] s = true := fun w h => hts0 w (wsL_law_in w h)
  have hown : s.vm.findClass RL = some m.cls := hown
  have hA : ∀ q : Nat, s.heap.size ≤ q → (fun q : Nat => s.heap.size ≤ q) q := fun _ h => h
  have hbA : ¬ (fun q : Nat => s.heap.size ≤ q) b := Nat.not_le.mpr hbl
  obtain ⟨r, I1, A1, J2, R2, e1, e2, hr1⟩ := g_with (xs (nI (5 * n) + 1).toNatClampNeg) h 
  refine lv_aload_n hx hb dL_law_767 rfl (lv_at hl 2 rfl) ?_
  refine lv_aload_n hx hb dL_law_768 rfl (lv_at hl 3 rfl) ?_
  refine lv_iload_n hx hb dL_law_769 rfl (lv_at hl 0 rfl) ?_
  refine lv_iconst (v := 1) hx hb dL_law_770 (by decide) ?_
  refine lv_iadd hx hb dL_law_771 ?_
  refine va_sld hx hb hX hbl hbA hS (lw_in hN hn 1 (by decide)) dL_law_772 ?_
  refine vcL (j := 0) (As := [.int (xs (nI (5 * n) + 1).toNatClampNeg)]) (rest := []) ⟨hx, hb, hml, hown, hts⟩ (e_X6_with l (dC, dI) K ad hap _ _ _ _ _  _ _ _ e1) (cwV 1 hts gL_law_X6_with rfl rfl rfl (by decide +kernel) ⟨Nat.le_of_ble_eq_true rfl, Nat.le_of_ble_eq_true rfl⟩) hK hP hS hge (by decide) (show kd 0 = 6 by decide) (by decide) rfl rfl rfl hl.1 (Nat.le_of_ble_eq_true rfl) (Nat.le_of_ble_eq_true rfl) (Nat.le_of_ble_eq_true rfl) dL_law_773 (fun q6 u H locs hw hP hS => ?_) rfl
  obtain ⟨rfl, rfl⟩ := hw
  have hP : va_P (dC, dI) vwCl (VW K ad I1 G A1 L) H := hP
  refine lv_pop hx hb dL_law_776 rfl ?_
  refine lv_aload_n hx hb dL_law_777 rfl (lv_at hl 1 rfl) ?_
  refine lv_aload_n hx hb dL_law_778 rfl (lv_at hl 3 rfl) ?_
  refine lv_iload_n hx hb dL_law_779 rfl (lv_at hl 0 rfl) ?_
  refine lv_iconst (v := 1) hx hb dL_law_780 (by decide) ?_
  refine lv_iadd hx hb dL_law_781 ?_
  refine va_sld hx hb hX hbl hbA hS (lw_in hN hn 1 (by decide)) dL_law_782 ?_
  refine vcL (j := 318) (As := [.int (xs (nI (5 * n) + 1).toNatClampNeg)]) (rest := []) ⟨hx, hb, hml, hown, hts⟩ (e_X7_with l (dC, dI) K ad hap _ _ _ _ _  _ _ _ e2) (cwV 1 hts gL_law_X7_with rfl rfl rfl (by decide +kernel) ⟨Nat.le_of_ble_eq_true rfl, Nat.le_of_ble_eq_true rfl⟩) hK hP hS hge (by decide) (show kd 318 = 7 by decide) (by decide) rfl rfl rfl hl.1 (Nat.le_of_ble_eq_true rfl) (Nat.le_of_ble_eq_true rfl) (Nat.le_of_ble_eq_true rfl) dL_law_783 (fun q7 u H locs hw hP hS => ?_) rfl
  obtain ⟨rfl, rfl⟩ := hw
  have hP : va_P (dC, dI) vwCl (VW K ad J2 G R2 L) H := hP
  refine lv_pop hx hb dL_law_786 rfl ?_
  refine lv_goto (tgt := 1044) hx hb dL_law_787 (by decide) ?_
  exact kk J2 G R2 L H locs hr1 hP hS
set_option maxHeartbeats 4000000 in
set_option maxRecDepth 100000 in
/-- the law: node -/
theorem law_c20 {p : Program} {l : Launch} {e : Env} {s : State} {m : MethodId} {below : List Frame} {meth : Method} {c : Code} {dC : Nat → ClassId} {dI : Nat → Nat → Nat} {b N : Nat} {xs : Nat → Int32} {K : Nat → ClassId} {ad : Nat → Nat} (C0 : lw_At p s m meth c b N xs) (hN : N ≤ 2560) (hK : va_K (dC, dI) vwCl (tyA K) s) (hap : apart ad (fun _ => True)) (hge : ∀ j, j < NS → s.heap.size ≤ ad j) {n : Nat} (hn : 5 * n + 5 ≤ N) (I : Nat → Nat → Int32) (G : Nat → Nat → Nat) (A : Nat → Nat → Int32) (L : Nat → Nat → Int64) (h : Rel n I G A L I A) (H : Heap) (locs : List Loc) (hP : va_P (dC, dI) vwCl (VW K ad I G A L) H) (hS : va_S (fun q : Nat => s.heap.size ≤ q) s.heap H locs) (ls : Array Slot) (hl : lv_has ls 4 [(3, .int (nI (5 * n))), (2, .ref (ad 318)), (1, .ref (ad 0)), (0, .ref b)]) (kk : ∀ (I : Nat → Nat → Int32) (G : Nat → Nat → Nat) (A : Nat → Nat → Int32) (L : Nat → Nat → Int64) (H : Heap) (locs : List Loc), Rel (n + 1) I G A L I A → va_P (dC, dI) vwCl (VW K ad I G A L) H → va_S (fun q : Nat => s.heap.size ≤ q) s.heap H locs → W p l e room_1 s m #[Value.ref b] below meth c H locs 378 153906 (lw_Z below #[Value.ref b] s) (F0 m 1044 ls [])) : W p l e room_1 s m #[Value.ref b] below meth c H locs 378 153906 (lw_Z below #[Value.ref b] s) (F0 m 790 ls []) := by
  obtain ⟨hx, hb, hr, hml, hown, hts0, hX, hbl, hlocks, hgv⟩ := id C0
  have hts : ∀ w ∈ wsL_law, w.before #[Value.ref b] s = true := fun w h => hts0 w (wsL_law_in w h)
  have hown : s.vm.findClass RL = some m.cls := hown
  have hA : ∀ q : Nat, s.heap.size ≤ q → (fun q : Nat => s.heap.size ≤ q) q := fun _ h => h
  have hbA : ¬ (fun q : Nat => s.heap.size ≤ q) b := Nat.not_le.mpr hbl
  obtain ⟨r, I1, J2, R2, e1, e2, hr1⟩ := g_node (xs (nI (5 * n) + 1).toNatClampNeg) (xs (nI (5 * n) + 2).toNatClampNeg) (xs (nI (5 * n) + 3).toNatClampNeg) h 
  refine lv_aload_n hx hb dL_law_790 rfl (lv_at hl 2 rfl) ?_
  refine lv_aload_n hx hb dL_law_791 rfl (lv_at hl 3 rfl) ?_
  refine lv_iload_n hx hb dL_law_792 rfl (lv_at hl 0 rfl) ?_
  refine lv_iconst (v := 1) hx hb dL_law_793 (by decide) ?_
  refine lv_iadd hx hb dL_law_794 ?_
  refine va_sld hx hb hX hbl hbA hS (lw_in hN hn 1 (by decide)) dL_law_795 ?_
  refine lv_aload_n hx hb dL_law_796 rfl (lv_at hl 3 rfl) ?_
  refine lv_iload_n hx hb dL_law_797 rfl (lv_at hl 0 rfl) ?_
  refine lv_iconst (v := 2) hx hb dL_law_798 (by decide) ?_
  refine lv_iadd hx hb dL_law_799 ?_
  refine va_sld hx hb hX hbl hbA hS (lw_in hN hn 2 (by decide)) dL_law_800 ?_
  refine lv_aload_n hx hb dL_law_801 rfl (lv_at hl 3 rfl) ?_
  refine lv_iload_n hx hb dL_law_802 rfl (lv_at hl 0 rfl) ?_
  refine lv_iconst (v := 3) hx hb dL_law_803 (by decide) ?_
  refine lv_iadd hx hb dL_law_804 ?_
  refine va_sld hx hb hX hbl hbA hS (lw_in hN hn 3 (by decide)) dL_law_805 ?_
  refine vcL (j := 0) (As := [.int (xs (nI (5 * n) + 1).toNatClampNeg), .int (xs (nI (5 * n) + 2).toNatClampNeg), .int (xs (nI (5 * n) + 3).toNatClampNeg)]) (rest := []) ⟨hx, hb, hml, hown, hts⟩ (e_X6_node l (dC, dI) K ad hap _ _ _ _ _ _ _  _ _ e1) (cwV 3 hts gL_law_X6_node rfl rfl rfl (by decide +kernel) ⟨Nat.le_of_ble_eq_true rfl, Nat.le_of_ble_eq_true rfl⟩) hK hP hS hge (by decide) (show kd 0 = 6 by decide) (by decide) rfl rfl rfl hl.1 (Nat.le_of_ble_eq_true rfl) (Nat.le_of_ble_eq_true rfl) (Nat.le_of_ble_eq_true rfl) dL_law_806 (fun q6 u H locs hw hP hS => ?_) rfl
  obtain ⟨rfl, rfl⟩ := hw
  have hP : va_P (dC, dI) vwCl (VW K ad I1 G A L) H := hP
  refine lv_pop hx hb dL_law_809 rfl ?_
  refine lv_aload_n hx hb dL_law_810 rfl (lv_at hl 1 rfl) ?_
  refine lv_aload_n hx hb dL_law_811 rfl (lv_at hl 3 rfl) ?_
  refine lv_iload_n hx hb dL_law_812 rfl (lv_at hl 0 rfl) ?_
  refine lv_iconst (v := 1) hx hb dL_law_813 (by decide) ?_
  refine lv_iadd hx hb dL_law_814 ?_
  refine va_sld hx hb hX hbl hbA hS (lw_in hN hn 1 (by decide)) dL_law_815 ?_
  refine lv_aload_n hx hb dL_law_816 rfl (lv_at hl 3 rfl) ?_
  refine lv_iload_n hx hb dL_law_817 rfl (lv_at hl 0 rfl) ?_
  refine lv_iconst (v := 2) hx hb dL_law_818 (by decide) ?_
  refine lv_iadd hx hb dL_law_819 ?_
  refine va_sld hx hb hX hbl hbA hS (lw_in hN hn 2 (by decide)) dL_law_820 ?_
  refine lv_aload_n hx hb dL_law_821 rfl (lv_at hl 3 rfl) ?_
  refine lv_iload_n hx hb dL_law_822 rfl (lv_at hl 0 rfl) ?_
  refine lv_iconst (v := 3) hx hb dL_law_823 (by decide) ?_
  refine lv_iadd hx hb dL_law_824 ?_
  refine va_sld hx hb hX hbl hbA hS (lw_in hN hn 3 (by decide)) dL_law_825 ?_
  refine vcL (j := 318) (As := [.int (xs (nI (5 * n) + 1).toNatClampNeg), .int (xs (nI (5 * n) + 2).toNatClampNeg), .int (xs (nI (5 * n) + 3).toNatClampNeg)]) (rest := []) ⟨hx, hb, hml, hown, hts⟩ (e_X7_node l (dC, dI) K ad hap _ _ _ _ _ _ _  _ _ _ e2) (cwV 3 hts gL_law_X7_node rfl rfl rfl (by decide +kernel) ⟨Nat.le_of_ble_eq_true rfl, Nat.le_of_ble_eq_true rfl⟩) hK hP hS hge (by decide) (show kd 318 = 7 by decide) (by decide) rfl rfl rfl hl.1 (Nat.le_of_ble_eq_true rfl) (Nat.le_of_ble_eq_true rfl) (Nat.le_of_ble_eq_true rfl) dL_law_826 (fun q7 u H locs hw hP hS => ?_) rfl
  obtain ⟨rfl, rfl⟩ := hw
  have hP : va_P (dC, dI) vwCl (VW K ad J2 G R2 L) H := hP
  refine lv_pop hx hb dL_law_829 rfl ?_
  refine lv_goto (tgt := 1044) hx hb dL_law_830 (by decide) ?_
  exact kk J2 G R2 L H locs hr1 hP hS
set_option maxHeartbeats 4000000 in
set_option maxRecDepth 100000 in
/-- the law: second -/
theorem law_c21 {p : Program} {l : Launch} {e : Env} {s : State} {m : MethodId} {below : List Frame} {meth : Method} {c : Code} {dC : Nat → ClassId} {dI : Nat → Nat → Nat} {b N : Nat} {xs : Nat → Int32} {K : Nat → ClassId} {ad : Nat → Nat} (C0 : lw_At p s m meth c b N xs) (hN : N ≤ 2560) (hK : va_K (dC, dI) vwCl (tyA K) s) (hap : apart ad (fun _ => True)) (hge : ∀ j, j < NS → s.heap.size ≤ ad j) {n : Nat} (hn : 5 * n + 5 ≤ N) (I : Nat → Nat → Int32) (G : Nat → Nat → Nat) (A : Nat → Nat → Int32) (L : Nat → Nat → Int64) (h : Rel n I G A L I A) (H : Heap) (locs : List Loc) (hP : va_P (dC, dI) vwCl (VW K ad I G A L) H) (hS : va_S (fun q : Nat => s.heap.size ≤ q) s.heap H locs) (ls : Array Slot) (hl : lv_has ls 4 [(3, .int (nI (5 * n))), (2, .ref (ad 318)), (1, .ref (ad 0)), (0, .ref b)]) (kk : ∀ (I : Nat → Nat → Int32) (G : Nat → Nat → Nat) (A : Nat → Nat → Int32) (L : Nat → Nat → Int64) (H : Heap) (locs : List Loc), Rel (n + 1) I G A L I A → va_P (dC, dI) vwCl (VW K ad I G A L) H → va_S (fun q : Nat => s.heap.size ≤ q) s.heap H locs → W p l e room_1 s m #[Value.ref b] below meth c H locs 378 153906 (lw_Z below #[Value.ref b] s) (F0 m 1044 ls [])) : W p l e room_1 s m #[Value.ref b] below meth c H locs 378 153906 (lw_Z below #[Value.ref b] s) (F0 m 833 ls []) := by
  obtain ⟨hx, hb, hr, hml, hown, hts0, hX, hbl, hlocks, hgv⟩ := id C0
  have hts : ∀ w ∈ wsL_law, w.before #[Value.ref b] s = true := fun w h => hts0 w (wsL_law_in w h)
  have hown : s.vm.findClass RL = some m.cls := hown
  have hA : ∀ q : Nat, s.heap.size ≤ q → (fun q : Nat => s.heap.size ≤ q) q := fun _ h => h
  have hbA : ¬ (fun q : Nat => s.heap.size ≤ q) b := Nat.not_le.mpr hbl
  obtain ⟨r, I1, G1, A1, L1, J2, R2, e1, e2, hr1⟩ := g_second (xs (nI (5 * n) + 1).toNatClampNeg) (xs (nI (5 * n) + 2).toNatClampNeg) h 
  refine lv_aload_n hx hb dL_law_833 rfl (lv_at hl 2 rfl) ?_
  refine lv_aload_n hx hb dL_law_834 rfl (lv_at hl 3 rfl) ?_
  refine lv_iload_n hx hb dL_law_835 rfl (lv_at hl 0 rfl) ?_
  refine lv_iconst (v := 1) hx hb dL_law_836 (by decide) ?_
  refine lv_iadd hx hb dL_law_837 ?_
  refine va_sld hx hb hX hbl hbA hS (lw_in hN hn 1 (by decide)) dL_law_838 ?_
  refine lv_aload_n hx hb dL_law_839 rfl (lv_at hl 3 rfl) ?_
  refine lv_iload_n hx hb dL_law_840 rfl (lv_at hl 0 rfl) ?_
  refine lv_iconst (v := 2) hx hb dL_law_841 (by decide) ?_
  refine lv_iadd hx hb dL_law_842 ?_
  refine va_sld hx hb hX hbl hbA hS (lw_in hN hn 2 (by decide)) dL_law_843 ?_
  refine vcL (j := 0) (As := [.int (xs (nI (5 * n) + 1).toNatClampNeg), .int (xs (nI (5 * n) + 2).toNatClampNeg)]) (rest := []) ⟨hx, hb, hml, hown, hts⟩ (e_X6_second l (dC, dI) K ad hap _ _ _ _ _ _  _ _ _ _ _ e1) (cwV 2 hts gL_law_X6_second rfl rfl rfl (by decide +kernel) ⟨Nat.le_of_ble_eq_true rfl, Nat.le_of_ble_eq_true rfl⟩) hK hP hS hge (by decide) (show kd 0 = 6 by decide) (by decide) rfl rfl rfl hl.1 (Nat.le_of_ble_eq_true rfl) (Nat.le_of_ble_eq_true rfl) (Nat.le_of_ble_eq_true rfl) dL_law_844 (fun q6 u H locs hw hP hS => ?_) rfl
  obtain ⟨rfl, rfl⟩ := hw
  have hP : va_P (dC, dI) vwCl (VW K ad I1 G1 A1 L1) H := hP
  refine lv_pop hx hb dL_law_847 rfl ?_
  refine lv_aload_n hx hb dL_law_848 rfl (lv_at hl 1 rfl) ?_
  refine lv_aload_n hx hb dL_law_849 rfl (lv_at hl 3 rfl) ?_
  refine lv_iload_n hx hb dL_law_850 rfl (lv_at hl 0 rfl) ?_
  refine lv_iconst (v := 1) hx hb dL_law_851 (by decide) ?_
  refine lv_iadd hx hb dL_law_852 ?_
  refine va_sld hx hb hX hbl hbA hS (lw_in hN hn 1 (by decide)) dL_law_853 ?_
  refine lv_aload_n hx hb dL_law_854 rfl (lv_at hl 3 rfl) ?_
  refine lv_iload_n hx hb dL_law_855 rfl (lv_at hl 0 rfl) ?_
  refine lv_iconst (v := 2) hx hb dL_law_856 (by decide) ?_
  refine lv_iadd hx hb dL_law_857 ?_
  refine va_sld hx hb hX hbl hbA hS (lw_in hN hn 2 (by decide)) dL_law_858 ?_
  refine vcL (j := 318) (As := [.int (xs (nI (5 * n) + 1).toNatClampNeg), .int (xs (nI (5 * n) + 2).toNatClampNeg)]) (rest := []) ⟨hx, hb, hml, hown, hts⟩ (e_X7_second l (dC, dI) K ad hap _ _ _ _ _ _  _ _ _ e2) (cwV 2 hts gL_law_X7_second rfl rfl rfl (by decide +kernel) ⟨Nat.le_of_ble_eq_true rfl, Nat.le_of_ble_eq_true rfl⟩) hK hP hS hge (by decide) (show kd 318 = 7 by decide) (by decide) rfl rfl rfl hl.1 (Nat.le_of_ble_eq_true rfl) (Nat.le_of_ble_eq_true rfl) (Nat.le_of_ble_eq_true rfl) dL_law_859 (fun q7 u H locs hw hP hS => ?_) rfl
  obtain ⟨rfl, rfl⟩ := hw
  have hP : va_P (dC, dI) vwCl (VW K ad J2 G1 R2 L1) H := hP
  refine lv_pop hx hb dL_law_862 rfl ?_
  refine lv_goto (tgt := 1044) hx hb dL_law_863 (by decide) ?_
  exact kk J2 G1 R2 L1 H locs hr1 hP hS
set_option maxHeartbeats 4000000 in
set_option maxRecDepth 100000 in
/-- the law: row -/
theorem law_c22 {p : Program} {l : Launch} {e : Env} {s : State} {m : MethodId} {below : List Frame} {meth : Method} {c : Code} {dC : Nat → ClassId} {dI : Nat → Nat → Nat} {b N : Nat} {xs : Nat → Int32} {K : Nat → ClassId} {ad : Nat → Nat} (C0 : lw_At p s m meth c b N xs) (hN : N ≤ 2560) (hK : va_K (dC, dI) vwCl (tyA K) s) (hap : apart ad (fun _ => True)) (hge : ∀ j, j < NS → s.heap.size ≤ ad j) {n : Nat} (hn : 5 * n + 5 ≤ N) (I : Nat → Nat → Int32) (G : Nat → Nat → Nat) (A : Nat → Nat → Int32) (L : Nat → Nat → Int64) (h : Rel n I G A L I A) (H : Heap) (locs : List Loc) (hP : va_P (dC, dI) vwCl (VW K ad I G A L) H) (hS : va_S (fun q : Nat => s.heap.size ≤ q) s.heap H locs) (ls : Array Slot) (hl : lv_has ls 4 [(3, .int (nI (5 * n))), (2, .ref (ad 318)), (1, .ref (ad 0)), (0, .ref b)]) (kk : ∀ (I : Nat → Nat → Int32) (G : Nat → Nat → Nat) (A : Nat → Nat → Int32) (L : Nat → Nat → Int64) (H : Heap) (locs : List Loc), Rel (n + 1) I G A L I A → va_P (dC, dI) vwCl (VW K ad I G A L) H → va_S (fun q : Nat => s.heap.size ≤ q) s.heap H locs → W p l e room_1 s m #[Value.ref b] below meth c H locs 378 153906 (lw_Z below #[Value.ref b] s) (F0 m 1044 ls [])) : W p l e room_1 s m #[Value.ref b] below meth c H locs 378 153906 (lw_Z below #[Value.ref b] s) (F0 m 866 ls []) := by
  obtain ⟨hx, hb, hr, hml, hown, hts0, hX, hbl, hlocks, hgv⟩ := id C0
  have hts : ∀ w ∈ wsL_law, w.before #[Value.ref b] s = true := fun w h => hts0 w (wsL_law_in w h)
  have hown : s.vm.findClass RL = some m.cls := hown
  have hA : ∀ q : Nat, s.heap.size ≤ q → (fun q : Nat => s.heap.size ≤ q) q := fun _ h => h
  have hbA : ¬ (fun q : Nat => s.heap.size ≤ q) b := Nat.not_le.mpr hbl
  obtain ⟨r, J2, e1, e2, hr1⟩ := g_row (xs (nI (5 * n) + 1).toNatClampNeg) h 
  refine lv_aload_n hx hb dL_law_866 rfl (lv_at hl 2 rfl) ?_
  refine lv_aload_n hx hb dL_law_867 rfl (lv_at hl 3 rfl) ?_
  refine lv_iload_n hx hb dL_law_868 rfl (lv_at hl 0 rfl) ?_
  refine lv_iconst (v := 1) hx hb dL_law_869 (by decide) ?_
  refine lv_iadd hx hb dL_law_870 ?_
  refine va_sld hx hb hX hbl hbA hS (lw_in hN hn 1 (by decide)) dL_law_871 ?_
  refine vcL (j := 0) (As := [.int (xs (nI (5 * n) + 1).toNatClampNeg)]) (rest := []) ⟨hx, hb, hml, hown, hts⟩ (e_X6_row l (dC, dI) K ad hap _ _ _ _ _  _  e1) (cwV 1 hts gL_law_X6_row rfl rfl rfl (by decide +kernel) ⟨Nat.le_of_ble_eq_true rfl, Nat.le_of_ble_eq_true rfl⟩) hK hP hS hge (by decide) (show kd 0 = 6 by decide) (by decide) rfl rfl rfl hl.1 (Nat.le_of_ble_eq_true rfl) (Nat.le_of_ble_eq_true rfl) (Nat.le_of_ble_eq_true rfl) dL_law_872 (fun q6 u H locs hw hP hS => ?_) rfl
  obtain ⟨rfl, rfl⟩ := hw
  have hP : va_P (dC, dI) vwCl (VW K ad I G A L) H := hP
  refine lv_pop hx hb dL_law_875 rfl ?_
  refine lv_aload_n hx hb dL_law_876 rfl (lv_at hl 1 rfl) ?_
  refine lv_aload_n hx hb dL_law_877 rfl (lv_at hl 3 rfl) ?_
  refine lv_iload_n hx hb dL_law_878 rfl (lv_at hl 0 rfl) ?_
  refine lv_iconst (v := 1) hx hb dL_law_879 (by decide) ?_
  refine lv_iadd hx hb dL_law_880 ?_
  refine va_sld hx hb hX hbl hbA hS (lw_in hN hn 1 (by decide)) dL_law_881 ?_
  refine vcL (j := 318) (As := [.int (xs (nI (5 * n) + 1).toNatClampNeg)]) (rest := []) ⟨hx, hb, hml, hown, hts⟩ (e_X7_row l (dC, dI) K ad hap _ _ _ _ _  _ _ e2) (cwV 1 hts gL_law_X7_row rfl rfl rfl (by decide +kernel) ⟨Nat.le_of_ble_eq_true rfl, Nat.le_of_ble_eq_true rfl⟩) hK hP hS hge (by decide) (show kd 318 = 7 by decide) (by decide) rfl rfl rfl hl.1 (Nat.le_of_ble_eq_true rfl) (Nat.le_of_ble_eq_true rfl) (Nat.le_of_ble_eq_true rfl) dL_law_882 (fun q7 u H locs hw hP hS => ?_) rfl
  obtain ⟨rfl, rfl⟩ := hw
  have hP : va_P (dC, dI) vwCl (VW K ad J2 G A L) H := hP
  refine lv_pop hx hb dL_law_885 rfl ?_
  refine lv_goto (tgt := 1044) hx hb dL_law_886 (by decide) ?_
  exact kk J2 G A L H locs hr1 hP hS
set_option maxHeartbeats 4000000 in
set_option maxRecDepth 100000 in
/-- the law: same -/
theorem law_c23 {p : Program} {l : Launch} {e : Env} {s : State} {m : MethodId} {below : List Frame} {meth : Method} {c : Code} {dC : Nat → ClassId} {dI : Nat → Nat → Nat} {b N : Nat} {xs : Nat → Int32} {K : Nat → ClassId} {ad : Nat → Nat} (C0 : lw_At p s m meth c b N xs) (hN : N ≤ 2560) (hK : va_K (dC, dI) vwCl (tyA K) s) (hap : apart ad (fun _ => True)) (hge : ∀ j, j < NS → s.heap.size ≤ ad j) {n : Nat} (hn : 5 * n + 5 ≤ N) (I : Nat → Nat → Int32) (G : Nat → Nat → Nat) (A : Nat → Nat → Int32) (L : Nat → Nat → Int64) (h : Rel n I G A L I A) (H : Heap) (locs : List Loc) (hP : va_P (dC, dI) vwCl (VW K ad I G A L) H) (hS : va_S (fun q : Nat => s.heap.size ≤ q) s.heap H locs) (ls : Array Slot) (hl : lv_has ls 4 [(3, .int (nI (5 * n))), (2, .ref (ad 318)), (1, .ref (ad 0)), (0, .ref b)]) (kk : ∀ (I : Nat → Nat → Int32) (G : Nat → Nat → Nat) (A : Nat → Nat → Int32) (L : Nat → Nat → Int64) (H : Heap) (locs : List Loc), Rel (n + 1) I G A L I A → va_P (dC, dI) vwCl (VW K ad I G A L) H → va_S (fun q : Nat => s.heap.size ≤ q) s.heap H locs → W p l e room_1 s m #[Value.ref b] below meth c H locs 378 153906 (lw_Z below #[Value.ref b] s) (F0 m 1044 ls [])) : W p l e room_1 s m #[Value.ref b] below meth c H locs 378 153906 (lw_Z below #[Value.ref b] s) (F0 m 889 ls []) := by
  obtain ⟨hx, hb, hr, hml, hown, hts0, hX, hbl, hlocks, hgv⟩ := id C0
  have hts : ∀ w ∈ wsL_law, w.before #[Value.ref b] s = true := fun w h => hts0 w (wsL_law_in w h)
  have hown : s.vm.findClass RL = some m.cls := hown
  have hA : ∀ q : Nat, s.heap.size ≤ q → (fun q : Nat => s.heap.size ≤ q) q := fun _ h => h
  have hbA : ¬ (fun q : Nat => s.heap.size ≤ q) b := Nat.not_le.mpr hbl
  obtain ⟨r, r', I1, G1, A1, L1, J2, e1, e2, _, hr1⟩ := g_same (xs (nI (5 * n) + 1).toNatClampNeg) (xs (nI (5 * n) + 2).toNatClampNeg) h 
  refine lv_aload_n hx hb dL_law_889 rfl (lv_at hl 2 rfl) ?_
  refine lv_aload_n hx hb dL_law_890 rfl (lv_at hl 3 rfl) ?_
  refine lv_iload_n hx hb dL_law_891 rfl (lv_at hl 0 rfl) ?_
  refine lv_iconst (v := 1) hx hb dL_law_892 (by decide) ?_
  refine lv_iadd hx hb dL_law_893 ?_
  refine va_sld hx hb hX hbl hbA hS (lw_in hN hn 1 (by decide)) dL_law_894 ?_
  refine lv_aload_n hx hb dL_law_895 rfl (lv_at hl 3 rfl) ?_
  refine lv_iload_n hx hb dL_law_896 rfl (lv_at hl 0 rfl) ?_
  refine lv_iconst (v := 2) hx hb dL_law_897 (by decide) ?_
  refine lv_iadd hx hb dL_law_898 ?_
  refine va_sld hx hb hX hbl hbA hS (lw_in hN hn 2 (by decide)) dL_law_899 ?_
  refine vcL (j := 0) (As := [.int (xs (nI (5 * n) + 1).toNatClampNeg), .int (xs (nI (5 * n) + 2).toNatClampNeg)]) (rest := []) ⟨hx, hb, hml, hown, hts⟩ (e_X6_same l (dC, dI) K ad hap _ _ _ _ _ _  _ _ _ _ _ e1) (cwV 2 hts gL_law_X6_same rfl rfl rfl (by decide +kernel) ⟨Nat.le_of_ble_eq_true rfl, Nat.le_of_ble_eq_true rfl⟩) hK hP hS hge (by decide) (show kd 0 = 6 by decide) (by decide) rfl rfl rfl hl.1 (Nat.le_of_ble_eq_true rfl) (Nat.le_of_ble_eq_true rfl) (Nat.le_of_ble_eq_true rfl) dL_law_900 (fun q6 u H locs hw hP hS => ?_) rfl
  obtain ⟨rfl, rfl⟩ := hw
  have hP : va_P (dC, dI) vwCl (VW K ad I1 G1 A1 L1) H := hP
  refine lv_pop hx hb dL_law_903 rfl ?_
  refine lv_aload_n hx hb dL_law_904 rfl (lv_at hl 1 rfl) ?_
  refine lv_aload_n hx hb dL_law_905 rfl (lv_at hl 3 rfl) ?_
  refine lv_iload_n hx hb dL_law_906 rfl (lv_at hl 0 rfl) ?_
  refine lv_iconst (v := 1) hx hb dL_law_907 (by decide) ?_
  refine lv_iadd hx hb dL_law_908 ?_
  refine va_sld hx hb hX hbl hbA hS (lw_in hN hn 1 (by decide)) dL_law_909 ?_
  refine lv_aload_n hx hb dL_law_910 rfl (lv_at hl 3 rfl) ?_
  refine lv_iload_n hx hb dL_law_911 rfl (lv_at hl 0 rfl) ?_
  refine lv_iconst (v := 2) hx hb dL_law_912 (by decide) ?_
  refine lv_iadd hx hb dL_law_913 ?_
  refine va_sld hx hb hX hbl hbA hS (lw_in hN hn 2 (by decide)) dL_law_914 ?_
  refine vcL (j := 318) (As := [.int (xs (nI (5 * n) + 1).toNatClampNeg), .int (xs (nI (5 * n) + 2).toNatClampNeg)]) (rest := []) ⟨hx, hb, hml, hown, hts⟩ (e_X7_same l (dC, dI) K ad hap _ _ _ _ _ _  _ _ e2) (cwV 2 hts gL_law_X7_same rfl rfl rfl (by decide +kernel) ⟨Nat.le_of_ble_eq_true rfl, Nat.le_of_ble_eq_true rfl⟩) hK hP hS hge (by decide) (show kd 318 = 7 by decide) (by decide) rfl rfl rfl hl.1 (Nat.le_of_ble_eq_true rfl) (Nat.le_of_ble_eq_true rfl) (Nat.le_of_ble_eq_true rfl) dL_law_915 (fun q7 u H locs hw hP hS => ?_) rfl
  obtain ⟨rfl, rfl⟩ := hw
  have hP : va_P (dC, dI) vwCl (VW K ad J2 G1 A1 L1) H := hP
  refine lv_pop hx hb dL_law_918 rfl ?_
  refine lv_goto (tgt := 1044) hx hb dL_law_919 (by decide) ?_
  exact kk J2 G1 A1 L1 H locs hr1 hP hS
set_option maxHeartbeats 4000000 in
set_option maxRecDepth 100000 in
/-- the law: count -/
theorem law_c24 {p : Program} {l : Launch} {e : Env} {s : State} {m : MethodId} {below : List Frame} {meth : Method} {c : Code} {dC : Nat → ClassId} {dI : Nat → Nat → Nat} {b N : Nat} {xs : Nat → Int32} {K : Nat → ClassId} {ad : Nat → Nat} (C0 : lw_At p s m meth c b N xs) (hN : N ≤ 2560) (hK : va_K (dC, dI) vwCl (tyA K) s) (hap : apart ad (fun _ => True)) (hge : ∀ j, j < NS → s.heap.size ≤ ad j) {n : Nat} (hn : 5 * n + 5 ≤ N) (I : Nat → Nat → Int32) (G : Nat → Nat → Nat) (A : Nat → Nat → Int32) (L : Nat → Nat → Int64) (h : Rel n I G A L I A) (H : Heap) (locs : List Loc) (hP : va_P (dC, dI) vwCl (VW K ad I G A L) H) (hS : va_S (fun q : Nat => s.heap.size ≤ q) s.heap H locs) (ls : Array Slot) (hl : lv_has ls 4 [(3, .int (nI (5 * n))), (2, .ref (ad 318)), (1, .ref (ad 0)), (0, .ref b)]) (kk : ∀ (I : Nat → Nat → Int32) (G : Nat → Nat → Nat) (A : Nat → Nat → Int32) (L : Nat → Nat → Int64) (H : Heap) (locs : List Loc), Rel (n + 1) I G A L I A → va_P (dC, dI) vwCl (VW K ad I G A L) H → va_S (fun q : Nat => s.heap.size ≤ q) s.heap H locs → W p l e room_1 s m #[Value.ref b] below meth c H locs 378 153906 (lw_Z below #[Value.ref b] s) (F0 m 1044 ls [])) : W p l e room_1 s m #[Value.ref b] below meth c H locs 378 153906 (lw_Z below #[Value.ref b] s) (F0 m 922 ls []) := by
  obtain ⟨hx, hb, hr, hml, hown, hts0, hX, hbl, hlocks, hgv⟩ := id C0
  have hts : ∀ w ∈ wsL_law, w.before #[Value.ref b] s = true := fun w h => hts0 w (wsL_law_in w h)
  have hown : s.vm.findClass RL = some m.cls := hown
  have hA : ∀ q : Nat, s.heap.size ≤ q → (fun q : Nat => s.heap.size ≤ q) q := fun _ h => h
  have hbA : ¬ (fun q : Nat => s.heap.size ≤ q) b := Nat.not_le.mpr hbl
  obtain ⟨r, r', J2, e1, e2, _, hr1⟩ := g_count (xs (nI (5 * n) + 1).toNatClampNeg) h 
  refine lv_aload_n hx hb dL_law_922 rfl (lv_at hl 2 rfl) ?_
  refine lv_aload_n hx hb dL_law_923 rfl (lv_at hl 3 rfl) ?_
  refine lv_iload_n hx hb dL_law_924 rfl (lv_at hl 0 rfl) ?_
  refine lv_iconst (v := 1) hx hb dL_law_925 (by decide) ?_
  refine lv_iadd hx hb dL_law_926 ?_
  refine va_sld hx hb hX hbl hbA hS (lw_in hN hn 1 (by decide)) dL_law_927 ?_
  refine vcL (j := 0) (As := [.int (xs (nI (5 * n) + 1).toNatClampNeg)]) (rest := []) ⟨hx, hb, hml, hown, hts⟩ (e_X6_count l (dC, dI) K ad hap _ _ _ _ _  _  e1) (cwV 1 hts gL_law_X6_count rfl rfl rfl (by decide +kernel) ⟨Nat.le_of_ble_eq_true rfl, Nat.le_of_ble_eq_true rfl⟩) hK hP hS hge (by decide) (show kd 0 = 6 by decide) (by decide) rfl rfl rfl hl.1 (Nat.le_of_ble_eq_true rfl) (Nat.le_of_ble_eq_true rfl) (Nat.le_of_ble_eq_true rfl) dL_law_928 (fun q6 u H locs hw hP hS => ?_) rfl
  obtain ⟨rfl, rfl⟩ := hw
  have hP : va_P (dC, dI) vwCl (VW K ad I G A L) H := hP
  refine lv_pop hx hb dL_law_931 rfl ?_
  refine lv_aload_n hx hb dL_law_932 rfl (lv_at hl 1 rfl) ?_
  refine lv_aload_n hx hb dL_law_933 rfl (lv_at hl 3 rfl) ?_
  refine lv_iload_n hx hb dL_law_934 rfl (lv_at hl 0 rfl) ?_
  refine lv_iconst (v := 1) hx hb dL_law_935 (by decide) ?_
  refine lv_iadd hx hb dL_law_936 ?_
  refine va_sld hx hb hX hbl hbA hS (lw_in hN hn 1 (by decide)) dL_law_937 ?_
  refine vcL (j := 318) (As := [.int (xs (nI (5 * n) + 1).toNatClampNeg)]) (rest := []) ⟨hx, hb, hml, hown, hts⟩ (e_X7_count l (dC, dI) K ad hap _ _ _ _ _  _ _ e2) (cwV 1 hts gL_law_X7_count rfl rfl rfl (by decide +kernel) ⟨Nat.le_of_ble_eq_true rfl, Nat.le_of_ble_eq_true rfl⟩) hK hP hS hge (by decide) (show kd 318 = 7 by decide) (by decide) rfl rfl rfl hl.1 (Nat.le_of_ble_eq_true rfl) (Nat.le_of_ble_eq_true rfl) (Nat.le_of_ble_eq_true rfl) dL_law_938 (fun q7 u H locs hw hP hS => ?_) rfl
  obtain ⟨rfl, rfl⟩ := hw
  have hP : va_P (dC, dI) vwCl (VW K ad J2 G A L) H := hP
  refine lv_pop hx hb dL_law_941 rfl ?_
  refine lv_goto (tgt := 1044) hx hb dL_law_942 (by decide) ?_
  exact kk J2 G A L H locs hr1 hP hS
set_option maxHeartbeats 4000000 in
set_option maxRecDepth 100000 in
/-- the law: about -/
theorem law_c25 {p : Program} {l : Launch} {e : Env} {s : State} {m : MethodId} {below : List Frame} {meth : Method} {c : Code} {dC : Nat → ClassId} {dI : Nat → Nat → Nat} {b N : Nat} {xs : Nat → Int32} {K : Nat → ClassId} {ad : Nat → Nat} (C0 : lw_At p s m meth c b N xs) (hN : N ≤ 2560) (hK : va_K (dC, dI) vwCl (tyA K) s) (hap : apart ad (fun _ => True)) (hge : ∀ j, j < NS → s.heap.size ≤ ad j) {n : Nat} (hn : 5 * n + 5 ≤ N) (I : Nat → Nat → Int32) (G : Nat → Nat → Nat) (A : Nat → Nat → Int32) (L : Nat → Nat → Int64) (h : Rel n I G A L I A) (H : Heap) (locs : List Loc) (hP : va_P (dC, dI) vwCl (VW K ad I G A L) H) (hS : va_S (fun q : Nat => s.heap.size ≤ q) s.heap H locs) (ls : Array Slot) (hl : lv_has ls 4 [(3, .int (nI (5 * n))), (2, .ref (ad 318)), (1, .ref (ad 0)), (0, .ref b)]) (kk : ∀ (I : Nat → Nat → Int32) (G : Nat → Nat → Nat) (A : Nat → Nat → Int32) (L : Nat → Nat → Int64) (H : Heap) (locs : List Loc), Rel (n + 1) I G A L I A → va_P (dC, dI) vwCl (VW K ad I G A L) H → va_S (fun q : Nat => s.heap.size ≤ q) s.heap H locs → W p l e room_1 s m #[Value.ref b] below meth c H locs 378 153906 (lw_Z below #[Value.ref b] s) (F0 m 1044 ls [])) : W p l e room_1 s m #[Value.ref b] below meth c H locs 378 153906 (lw_Z below #[Value.ref b] s) (F0 m 945 ls []) := by
  obtain ⟨hx, hb, hr, hml, hown, hts0, hX, hbl, hlocks, hgv⟩ := id C0
  have hts : ∀ w ∈ wsL_law, w.before #[Value.ref b] s = true := fun w h => hts0 w (wsL_law_in w h)
  have hown : s.vm.findClass RL = some m.cls := hown
  have hA : ∀ q : Nat, s.heap.size ≤ q → (fun q : Nat => s.heap.size ≤ q) q := fun _ h => h
  have hbA : ¬ (fun q : Nat => s.heap.size ≤ q) b := Nat.not_le.mpr hbl
  obtain ⟨r, I1, J2, e1, e2, hr1⟩ := g_about (xs (nI (5 * n) + 1).toNatClampNeg) (xs (nI (5 * n) + 2).toNatClampNeg) (xs (nI (5 * n) + 3).toNatClampNeg) h 
  refine lv_aload_n hx hb dL_law_945 rfl (lv_at hl 2 rfl) ?_
  refine lv_aload_n hx hb dL_law_946 rfl (lv_at hl 3 rfl) ?_
  refine lv_iload_n hx hb dL_law_947 rfl (lv_at hl 0 rfl) ?_
  refine lv_iconst (v := 1) hx hb dL_law_948 (by decide) ?_
  refine lv_iadd hx hb dL_law_949 ?_
  refine va_sld hx hb hX hbl hbA hS (lw_in hN hn 1 (by decide)) dL_law_950 ?_
  refine lv_aload_n hx hb dL_law_951 rfl (lv_at hl 3 rfl) ?_
  refine lv_iload_n hx hb dL_law_952 rfl (lv_at hl 0 rfl) ?_
  refine lv_iconst (v := 2) hx hb dL_law_953 (by decide) ?_
  refine lv_iadd hx hb dL_law_954 ?_
  refine va_sld hx hb hX hbl hbA hS (lw_in hN hn 2 (by decide)) dL_law_955 ?_
  refine lv_aload_n hx hb dL_law_956 rfl (lv_at hl 3 rfl) ?_
  refine lv_iload_n hx hb dL_law_957 rfl (lv_at hl 0 rfl) ?_
  refine lv_iconst (v := 3) hx hb dL_law_958 (by decide) ?_
  refine lv_iadd hx hb dL_law_959 ?_
  refine va_sld hx hb hX hbl hbA hS (lw_in hN hn 3 (by decide)) dL_law_960 ?_
  refine vcL (j := 0) (As := [.int (xs (nI (5 * n) + 1).toNatClampNeg), .int (xs (nI (5 * n) + 2).toNatClampNeg), .int (xs (nI (5 * n) + 3).toNatClampNeg)]) (rest := []) ⟨hx, hb, hml, hown, hts⟩ (e_X6_about l (dC, dI) K ad hap _ _ _ _ _ _ _  _ _ e1) (cwV 3 hts gL_law_X6_about rfl rfl rfl (by decide +kernel) ⟨Nat.le_of_ble_eq_true rfl, Nat.le_of_ble_eq_true rfl⟩) hK hP hS hge (by decide) (show kd 0 = 6 by decide) (by decide) rfl rfl rfl hl.1 (Nat.le_of_ble_eq_true rfl) (Nat.le_of_ble_eq_true rfl) (Nat.le_of_ble_eq_true rfl) dL_law_961 (fun q6 u H locs hw hP hS => ?_) rfl
  obtain ⟨rfl, rfl⟩ := hw
  have hP : va_P (dC, dI) vwCl (VW K ad I1 G A L) H := hP
  refine lv_pop hx hb dL_law_964 rfl ?_
  refine lv_aload_n hx hb dL_law_965 rfl (lv_at hl 1 rfl) ?_
  refine lv_aload_n hx hb dL_law_966 rfl (lv_at hl 3 rfl) ?_
  refine lv_iload_n hx hb dL_law_967 rfl (lv_at hl 0 rfl) ?_
  refine lv_iconst (v := 1) hx hb dL_law_968 (by decide) ?_
  refine lv_iadd hx hb dL_law_969 ?_
  refine va_sld hx hb hX hbl hbA hS (lw_in hN hn 1 (by decide)) dL_law_970 ?_
  refine lv_aload_n hx hb dL_law_971 rfl (lv_at hl 3 rfl) ?_
  refine lv_iload_n hx hb dL_law_972 rfl (lv_at hl 0 rfl) ?_
  refine lv_iconst (v := 2) hx hb dL_law_973 (by decide) ?_
  refine lv_iadd hx hb dL_law_974 ?_
  refine va_sld hx hb hX hbl hbA hS (lw_in hN hn 2 (by decide)) dL_law_975 ?_
  refine lv_aload_n hx hb dL_law_976 rfl (lv_at hl 3 rfl) ?_
  refine lv_iload_n hx hb dL_law_977 rfl (lv_at hl 0 rfl) ?_
  refine lv_iconst (v := 3) hx hb dL_law_978 (by decide) ?_
  refine lv_iadd hx hb dL_law_979 ?_
  refine va_sld hx hb hX hbl hbA hS (lw_in hN hn 3 (by decide)) dL_law_980 ?_
  refine vcL (j := 318) (As := [.int (xs (nI (5 * n) + 1).toNatClampNeg), .int (xs (nI (5 * n) + 2).toNatClampNeg), .int (xs (nI (5 * n) + 3).toNatClampNeg)]) (rest := []) ⟨hx, hb, hml, hown, hts⟩ (e_X7_about l (dC, dI) K ad hap _ _ _ _ _ _ _  _ _ e2) (cwV 3 hts gL_law_X7_about rfl rfl rfl (by decide +kernel) ⟨Nat.le_of_ble_eq_true rfl, Nat.le_of_ble_eq_true rfl⟩) hK hP hS hge (by decide) (show kd 318 = 7 by decide) (by decide) rfl rfl rfl hl.1 (Nat.le_of_ble_eq_true rfl) (Nat.le_of_ble_eq_true rfl) (Nat.le_of_ble_eq_true rfl) dL_law_981 (fun q7 u H locs hw hP hS => ?_) rfl
  obtain ⟨rfl, rfl⟩ := hw
  have hP : va_P (dC, dI) vwCl (VW K ad J2 G A L) H := hP
  refine lv_pop hx hb dL_law_984 rfl ?_
  refine lv_goto (tgt := 1044) hx hb dL_law_985 (by decide) ?_
  exact kk J2 G A L H locs hr1 hP hS
set_option maxHeartbeats 4000000 in
set_option maxRecDepth 100000 in
/-- the law: costs -/
theorem law_c26 {p : Program} {l : Launch} {e : Env} {s : State} {m : MethodId} {below : List Frame} {meth : Method} {c : Code} {dC : Nat → ClassId} {dI : Nat → Nat → Nat} {b N : Nat} {xs : Nat → Int32} {K : Nat → ClassId} {ad : Nat → Nat} (C0 : lw_At p s m meth c b N xs) (hN : N ≤ 2560) (hK : va_K (dC, dI) vwCl (tyA K) s) (hap : apart ad (fun _ => True)) (hge : ∀ j, j < NS → s.heap.size ≤ ad j) {n : Nat} (hn : 5 * n + 5 ≤ N) (I : Nat → Nat → Int32) (G : Nat → Nat → Nat) (A : Nat → Nat → Int32) (L : Nat → Nat → Int64) (h : Rel n I G A L I A) (H : Heap) (locs : List Loc) (hP : va_P (dC, dI) vwCl (VW K ad I G A L) H) (hS : va_S (fun q : Nat => s.heap.size ≤ q) s.heap H locs) (ls : Array Slot) (hl : lv_has ls 4 [(3, .int (nI (5 * n))), (2, .ref (ad 318)), (1, .ref (ad 0)), (0, .ref b)]) (kk : ∀ (I : Nat → Nat → Int32) (G : Nat → Nat → Nat) (A : Nat → Nat → Int32) (L : Nat → Nat → Int64) (H : Heap) (locs : List Loc), Rel (n + 1) I G A L I A → va_P (dC, dI) vwCl (VW K ad I G A L) H → va_S (fun q : Nat => s.heap.size ≤ q) s.heap H locs → W p l e room_1 s m #[Value.ref b] below meth c H locs 378 153906 (lw_Z below #[Value.ref b] s) (F0 m 1044 ls [])) : W p l e room_1 s m #[Value.ref b] below meth c H locs 378 153906 (lw_Z below #[Value.ref b] s) (F0 m 988 ls []) := by
  obtain ⟨hx, hb, hr, hml, hown, hts0, hX, hbl, hlocks, hgv⟩ := id C0
  have hts : ∀ w ∈ wsL_law, w.before #[Value.ref b] s = true := fun w h => hts0 w (wsL_law_in w h)
  have hown : s.vm.findClass RL = some m.cls := hown
  have hA : ∀ q : Nat, s.heap.size ≤ q → (fun q : Nat => s.heap.size ≤ q) q := fun _ h => h
  have hbA : ¬ (fun q : Nat => s.heap.size ≤ q) b := Nat.not_le.mpr hbl
  obtain ⟨r, I1, J2, e1, e2, hr1⟩ := g_costs (xs (nI (5 * n) + 1).toNatClampNeg) (xs (nI (5 * n) + 2).toNatClampNeg) (xs (nI (5 * n) + 3).toNatClampNeg) h 
  refine lv_aload_n hx hb dL_law_988 rfl (lv_at hl 2 rfl) ?_
  refine lv_aload_n hx hb dL_law_989 rfl (lv_at hl 3 rfl) ?_
  refine lv_iload_n hx hb dL_law_990 rfl (lv_at hl 0 rfl) ?_
  refine lv_iconst (v := 1) hx hb dL_law_991 (by decide) ?_
  refine lv_iadd hx hb dL_law_992 ?_
  refine va_sld hx hb hX hbl hbA hS (lw_in hN hn 1 (by decide)) dL_law_993 ?_
  refine lv_aload_n hx hb dL_law_994 rfl (lv_at hl 3 rfl) ?_
  refine lv_iload_n hx hb dL_law_995 rfl (lv_at hl 0 rfl) ?_
  refine lv_iconst (v := 2) hx hb dL_law_996 (by decide) ?_
  refine lv_iadd hx hb dL_law_997 ?_
  refine va_sld hx hb hX hbl hbA hS (lw_in hN hn 2 (by decide)) dL_law_998 ?_
  refine lv_aload_n hx hb dL_law_999 rfl (lv_at hl 3 rfl) ?_
  refine lv_iload_n hx hb dL_law_1000 rfl (lv_at hl 0 rfl) ?_
  refine lv_iconst (v := 3) hx hb dL_law_1001 (by decide) ?_
  refine lv_iadd hx hb dL_law_1002 ?_
  refine va_sld hx hb hX hbl hbA hS (lw_in hN hn 3 (by decide)) dL_law_1003 ?_
  refine vcL (j := 0) (As := [.int (xs (nI (5 * n) + 1).toNatClampNeg), .int (xs (nI (5 * n) + 2).toNatClampNeg), .int (xs (nI (5 * n) + 3).toNatClampNeg)]) (rest := []) ⟨hx, hb, hml, hown, hts⟩ (e_X6_costs l (dC, dI) K ad hap _ _ _ _ _ _ _  _ _ e1) (cwV 3 hts gL_law_X6_costs rfl rfl rfl (by decide +kernel) ⟨Nat.le_of_ble_eq_true rfl, Nat.le_of_ble_eq_true rfl⟩) hK hP hS hge (by decide) (show kd 0 = 6 by decide) (by decide) rfl rfl rfl hl.1 (Nat.le_of_ble_eq_true rfl) (Nat.le_of_ble_eq_true rfl) (Nat.le_of_ble_eq_true rfl) dL_law_1004 (fun q6 u H locs hw hP hS => ?_) rfl
  obtain ⟨rfl, rfl⟩ := hw
  have hP : va_P (dC, dI) vwCl (VW K ad I1 G A L) H := hP
  refine lv_pop hx hb dL_law_1007 rfl ?_
  refine lv_aload_n hx hb dL_law_1008 rfl (lv_at hl 1 rfl) ?_
  refine lv_aload_n hx hb dL_law_1009 rfl (lv_at hl 3 rfl) ?_
  refine lv_iload_n hx hb dL_law_1010 rfl (lv_at hl 0 rfl) ?_
  refine lv_iconst (v := 1) hx hb dL_law_1011 (by decide) ?_
  refine lv_iadd hx hb dL_law_1012 ?_
  refine va_sld hx hb hX hbl hbA hS (lw_in hN hn 1 (by decide)) dL_law_1013 ?_
  refine lv_aload_n hx hb dL_law_1014 rfl (lv_at hl 3 rfl) ?_
  refine lv_iload_n hx hb dL_law_1015 rfl (lv_at hl 0 rfl) ?_
  refine lv_iconst (v := 2) hx hb dL_law_1016 (by decide) ?_
  refine lv_iadd hx hb dL_law_1017 ?_
  refine va_sld hx hb hX hbl hbA hS (lw_in hN hn 2 (by decide)) dL_law_1018 ?_
  refine lv_aload_n hx hb dL_law_1019 rfl (lv_at hl 3 rfl) ?_
  refine lv_iload_n hx hb dL_law_1020 rfl (lv_at hl 0 rfl) ?_
  refine lv_iconst (v := 3) hx hb dL_law_1021 (by decide) ?_
  refine lv_iadd hx hb dL_law_1022 ?_
  refine va_sld hx hb hX hbl hbA hS (lw_in hN hn 3 (by decide)) dL_law_1023 ?_
  refine vcL (j := 318) (As := [.int (xs (nI (5 * n) + 1).toNatClampNeg), .int (xs (nI (5 * n) + 2).toNatClampNeg), .int (xs (nI (5 * n) + 3).toNatClampNeg)]) (rest := []) ⟨hx, hb, hml, hown, hts⟩ (e_X7_costs l (dC, dI) K ad hap _ _ _ _ _ _ _  _ _ e2) (cwV 3 hts gL_law_X7_costs rfl rfl rfl (by decide +kernel) ⟨Nat.le_of_ble_eq_true rfl, Nat.le_of_ble_eq_true rfl⟩) hK hP hS hge (by decide) (show kd 318 = 7 by decide) (by decide) rfl rfl rfl hl.1 (Nat.le_of_ble_eq_true rfl) (Nat.le_of_ble_eq_true rfl) (Nat.le_of_ble_eq_true rfl) dL_law_1024 (fun q7 u H locs hw hP hS => ?_) rfl
  obtain ⟨rfl, rfl⟩ := hw
  have hP : va_P (dC, dI) vwCl (VW K ad J2 G A L) H := hP
  refine lv_pop hx hb dL_law_1027 rfl ?_
  refine lv_goto (tgt := 1044) hx hb dL_law_1028 (by decide) ?_
  exact kk J2 G A L H locs hr1 hP hS
set_option maxHeartbeats 4000000 in
set_option maxRecDepth 100000 in
/-- the law: status -/
theorem law_c27 {p : Program} {l : Launch} {e : Env} {s : State} {m : MethodId} {below : List Frame} {meth : Method} {c : Code} {dC : Nat → ClassId} {dI : Nat → Nat → Nat} {b N : Nat} {xs : Nat → Int32} {K : Nat → ClassId} {ad : Nat → Nat} (C0 : lw_At p s m meth c b N xs) (hN : N ≤ 2560) (hK : va_K (dC, dI) vwCl (tyA K) s) (hap : apart ad (fun _ => True)) (hge : ∀ j, j < NS → s.heap.size ≤ ad j) {n : Nat} (hn : 5 * n + 5 ≤ N) (I : Nat → Nat → Int32) (G : Nat → Nat → Nat) (A : Nat → Nat → Int32) (L : Nat → Nat → Int64) (h : Rel n I G A L I A) (H : Heap) (locs : List Loc) (hP : va_P (dC, dI) vwCl (VW K ad I G A L) H) (hS : va_S (fun q : Nat => s.heap.size ≤ q) s.heap H locs) (ls : Array Slot) (hl : lv_has ls 4 [(3, .int (nI (5 * n))), (2, .ref (ad 318)), (1, .ref (ad 0)), (0, .ref b)]) (kk : ∀ (I : Nat → Nat → Int32) (G : Nat → Nat → Nat) (A : Nat → Nat → Int32) (L : Nat → Nat → Int64) (H : Heap) (locs : List Loc), Rel (n + 1) I G A L I A → va_P (dC, dI) vwCl (VW K ad I G A L) H → va_S (fun q : Nat => s.heap.size ≤ q) s.heap H locs → W p l e room_1 s m #[Value.ref b] below meth c H locs 378 153906 (lw_Z below #[Value.ref b] s) (F0 m 1044 ls [])) : W p l e room_1 s m #[Value.ref b] below meth c H locs 378 153906 (lw_Z below #[Value.ref b] s) (F0 m 1031 ls []) := by
  obtain ⟨hx, hb, hr, hml, hown, hts0, hX, hbl, hlocks, hgv⟩ := id C0
  have hts : ∀ w ∈ wsL_law, w.before #[Value.ref b] s = true := fun w h => hts0 w (wsL_law_in w h)
  have hown : s.vm.findClass RL = some m.cls := hown
  have hA : ∀ q : Nat, s.heap.size ≤ q → (fun q : Nat => s.heap.size ≤ q) q := fun _ h => h
  have hbA : ¬ (fun q : Nat => s.heap.size ≤ q) b := Nat.not_le.mpr hbl
  obtain ⟨r, J2, e1, e2, hr1⟩ := g_status  h 
  refine lv_aload_n hx hb dL_law_1031 rfl (lv_at hl 2 rfl) ?_
  refine vcL (j := 0) (As := []) (rest := []) ⟨hx, hb, hml, hown, hts⟩ (e_X6_status l (dC, dI) K ad hap  _ _ _ _  _  e1) (cwV 0 hts gL_law_X6_status rfl rfl rfl (by decide +kernel) ⟨Nat.le_of_ble_eq_true rfl, Nat.le_of_ble_eq_true rfl⟩) hK hP hS hge (by decide) (show kd 0 = 6 by decide) (by decide) rfl rfl rfl hl.1 (Nat.le_of_ble_eq_true rfl) (Nat.le_of_ble_eq_true rfl) (Nat.le_of_ble_eq_true rfl) dL_law_1032 (fun q6 u H locs hw hP hS => ?_) rfl
  obtain ⟨rfl, rfl⟩ := hw
  have hP : va_P (dC, dI) vwCl (VW K ad I G A L) H := hP
  refine lv_aload_n hx hb dL_law_1035 rfl (lv_at hl 1 rfl) ?_
  refine vcL (j := 318) (As := []) (rest := [.int q6]) ⟨hx, hb, hml, hown, hts⟩ (e_X7_status l (dC, dI) K ad hap  _ _ _ _  _ _ e2) (cwV 0 hts gL_law_X7_status rfl rfl rfl (by decide +kernel) ⟨Nat.le_of_ble_eq_true rfl, Nat.le_of_ble_eq_true rfl⟩) hK hP hS hge (by decide) (show kd 318 = 7 by decide) (by decide) rfl rfl rfl hl.1 (Nat.le_of_ble_eq_true rfl) (Nat.le_of_ble_eq_true rfl) (Nat.le_of_ble_eq_true rfl) dL_law_1036 (fun q7 u H locs hw hP hS => ?_) rfl
  obtain ⟨rfl, rfl⟩ := hw
  have hP : va_P (dC, dI) vwCl (VW K ad J2 G A L) H := hP
  refine lv_icmp_eq (tgt := 1044) hx hb dL_law_1039 (by decide) (fun _ => ?_) (fun c_9 => absurd rfl c_9)
  exact kk J2 G A L H locs hr1 hP hS

/-! part b3.start -/
set_option maxHeartbeats 4000000 in
set_option maxRecDepth 100000 in
/-- the law's loop -/
theorem law_loop {p : Program} {l : Launch} {e : Env} {s : State} {m : MethodId} {below : List Frame} {meth : Method} {c : Code} {dC : Nat → ClassId} {dI : Nat → Nat → Nat} {b N : Nat} {xs : Nat → Int32} {K : Nat → ClassId} {ad : Nat → Nat} (C0 : lw_At p s m meth c b N xs) (hN : N ≤ 2560) (hK : va_K (dC, dI) vwCl (tyA K) s) (hap : apart ad (fun _ => True)) (hge : ∀ j, j < NS → s.heap.size ≤ ad j) : ∀ (k n : Nat) (_ : n + k = 512) (I : Nat → Nat → Int32) (G : Nat → Nat → Nat) (A : Nat → Nat → Int32) (L : Nat → Nat → Int64) (_ : Rel n I G A L I A) (H : Heap) (locs : List Loc) (_ : va_P (dC, dI) vwCl (VW K ad I G A L) H) (_ : va_S (fun q : Nat => s.heap.size ≤ q) s.heap H locs) (ls : Array Slot) (_ : lv_has ls 4 [(3, .int (nI (5 * n))), (2, .ref (ad 318)), (1, .ref (ad 0)), (0, .ref b)]), W p l e room_1 s m #[Value.ref b] below meth c H locs 378 153906 (lw_Z below #[Value.ref b] s) (F0 m 18 ls []) := by
  obtain ⟨hx, hb, hr, hml, hown, hts0, hX, hbl, hlocks, hgv⟩ := id C0
  have hts : ∀ w ∈ wsL_law, w.before #[Value.ref b] s = true := fun w h => hts0 w (wsL_law_in w h)
  have hown : s.vm.findClass RL = some m.cls := hown
  have hA : ∀ q : Nat, s.heap.size ≤ q → (fun q : Nat => s.heap.size ≤ q) q := fun _ h => h
  have hbA : ¬ (fun q : Nat => s.heap.size ≤ q) b := Nat.not_le.mpr hbl
  intro k
  induction k with
  | zero =>
    intro n hk I G A L h H locs hP hS ls hl
    refine lv_iload_n hx hb dL_law_18 rfl (lv_at hl 0 rfl) ?_
    refine lv_aload_n hx hb dL_law_19 rfl (lv_at hl 3 rfl) ?_
    refine va_slen hx hb hX hbl hbA hS dL_law_20 ?_
    refine lv_iconst (v := 5) hx hb dL_law_21 (by decide) ?_
    refine lv_isub hx hb dL_law_22 ?_
    refine lv_icmp_gt (tgt := 1050) hx hb dL_law_23 (by decide) (fun _ => ?_) (fun c_9 => ?_)
    · refine lv_iconst (v := 1) hx hb dL_law_1050 (by decide) ?_
      refine va_forget (fun q hq => hS.2.2 q hq) ?_
      refine W.widen (k := 600000) (n := 7302250) (Nat.le_of_ble_eq_true rfl) (Nat.le_of_ble_eq_true rfl) ?_
      exact lw_ret hx hb hr hlocks dL_law_1051
    · exfalso
      have := lw_more hN (by omega) c_9
      omega
  | succ k ih =>
    intro n hk I G A L h H locs hP hS ls hl
    refine lv_iload_n hx hb dL_law_18 rfl (lv_at hl 0 rfl) ?_
    refine lv_aload_n hx hb dL_law_19 rfl (lv_at hl 3 rfl) ?_
    refine va_slen hx hb hX hbl hbA hS dL_law_20 ?_
    refine lv_iconst (v := 5) hx hb dL_law_21 (by decide) ?_
    refine lv_isub hx hb dL_law_22 ?_
    refine lv_icmp_gt (tgt := 1050) hx hb dL_law_23 (by decide) (fun _ => ?_) (fun c_9 => ?_)
    · refine lv_iconst (v := 1) hx hb dL_law_1050 (by decide) ?_
      refine va_forget (fun q hq => hS.2.2 q hq) ?_
      refine W.widen (k := 600000) (n := 7302250) (Nat.le_of_ble_eq_true rfl) (Nat.le_of_ble_eq_true rfl) ?_
      exact lw_ret hx hb hr hlocks dL_law_1051
    · have hn := lw_more hN (by omega) c_9
      have kk : ∀ (I : Nat → Nat → Int32) (G : Nat → Nat → Nat) (A : Nat → Nat → Int32) (L : Nat → Nat → Int64) (H : Heap) (locs : List Loc), Rel (n + 1) I G A L I A → va_P (dC, dI) vwCl (VW K ad I G A L) H → va_S (fun q : Nat => s.heap.size ≤ q) s.heap H locs → W p l e room_1 s m #[Value.ref b] below meth c H locs 378 153906 (lw_Z below #[Value.ref b] s) (F0 m 1044 ls []) := by
        intro I G A L H locs h hP hS
        refine lv_iinc (v := nI (5 * (n + 1))) (lv' := [(3, .int (nI (5 * (n + 1)))), (2, .ref (ad 318)), (1, .ref (ad 0)), (0, .ref b)]) hx hb dL_law_1044 hl (k := 0) rfl (nI_add (5 * n) 5) (by decide) rfl (fun ls hl => ?_)
        refine lv_goto (tgt := 18) hx hb dL_law_1047 (by decide) ?_
        exact ih (n + 1) (by omega) I G A L h H locs hP hS ls hl
      refine lv_aload_n hx hb dL_law_26 rfl (lv_at hl 3 rfl) ?_
      refine lv_iload_n hx hb dL_law_27 rfl (lv_at hl 0 rfl) ?_
      refine va_sld hx hb hX hbl hbA hS (lw_in0 hN hn) dL_law_28 ?_
      refine lv_bipush (v := 31) hx hb dL_law_29 (by decide) ?_
      refine lv_iand hx hb dL_law_31 ?_
      obtain ⟨j, hj, ej⟩ := pk_andE (xs (nI (5 * n)).toNatClampNeg) (m := 31) 5 (by decide)
      rw [ej]
      have hj : j < 32 := hj
      clear ej
      rcases (show j = 0 ∨ j = 1 ∨ j = 2 ∨ j = 3 ∨ j = 4 ∨ j = 5 ∨ j = 6 ∨ j = 7 ∨ j = 8 ∨ j = 9 ∨ j = 10 ∨ j = 11 ∨ j = 12 ∨ j = 13 ∨ j = 14 ∨ j = 15 ∨ j = 16 ∨ j = 17 ∨ j = 18 ∨ j = 19 ∨ j = 20 ∨ j = 21 ∨ j = 22 ∨ j = 23 ∨ j = 24 ∨ j = 25 ∨ j = 26 ∨ j = 27 ∨ j = 28 ∨ j = 29 ∨ j = 30 ∨ j = 31 by omega) with rfl | rfl | rfl | rfl | rfl | rfl | rfl | rfl | rfl | rfl | rfl | rfl | rfl | rfl | rfl | rfl | rfl | rfl | rfl | rfl | rfl | rfl | rfl | rfl | rfl | rfl | rfl | rfl | rfl | rfl | rfl | rfl
      · exact lv_tableIn (off := 128) (tgt := 160) hx hb dL_law_32 (by decide) (by decide) (by decide) (by decide) (law_c0 C0 hN hK hap hge hn I G A L h H locs hP hS ls hl kk)
      · exact lv_tableIn (off := 141) (tgt := 173) hx hb dL_law_32 (by decide) (by decide) (by decide) (by decide) (law_c1 C0 hN hK hap hge hn I G A L h H locs hP hS ls hl kk)
      · exact lv_tableIn (off := 184) (tgt := 216) hx hb dL_law_32 (by decide) (by decide) (by decide) (by decide) (law_c2 C0 hN hK hap hge hn I G A L h H locs hP hS ls hl kk)
      · exact lv_tableIn (off := 237) (tgt := 269) hx hb dL_law_32 (by decide) (by decide) (by decide) (by decide) (law_c3 C0 hN hK hap hge hn I G A L h H locs hP hS ls hl kk)
      · exact lv_tableIn (off := 280) (tgt := 312) hx hb dL_law_32 (by decide) (by decide) (by decide) (by decide) (law_c4 C0 hN hK hap hge hn I G A L h H locs hP hS ls hl kk)
      · exact lv_tableIn (off := 333) (tgt := 365) hx hb dL_law_32 (by decide) (by decide) (by decide) (by decide) (law_c5 C0 hN hK hap hge hn I G A L h H locs hP hS ls hl kk)
      · exact lv_tableIn (off := 376) (tgt := 408) hx hb dL_law_32 (by decide) (by decide) (by decide) (by decide) (law_c6 C0 hN hK hap hge hn I G A L h H locs hP hS ls hl kk)
      · exact lv_tableIn (off := 399) (tgt := 431) hx hb dL_law_32 (by decide) (by decide) (by decide) (by decide) (law_c7 C0 hN hK hap hge hn I G A L h H locs hP hS ls hl kk)
      · exact lv_tableIn (off := 432) (tgt := 464) hx hb dL_law_32 (by decide) (by decide) (by decide) (by decide) (law_c8 C0 hN hK hap hge hn I G A L h H locs hP hS ls hl kk)
      · exact lv_tableIn (off := 455) (tgt := 487) hx hb dL_law_32 (by decide) (by decide) (by decide) (by decide) (law_c9 C0 hN hK hap hge hn I G A L h H locs hP hS ls hl kk)
      · exact lv_tableIn (off := 468) (tgt := 500) hx hb dL_law_32 (by decide) (by decide) (by decide) (by decide) (law_c10 C0 hN hK hap hge hn I G A L h H locs hP hS ls hl kk)
      · exact lv_tableIn (off := 491) (tgt := 523) hx hb dL_law_32 (by decide) (by decide) (by decide) (by decide) (law_c11 C0 hN hK hap hge hn I G A L h H locs hP hS ls hl kk)
      · exact lv_tableIn (off := 524) (tgt := 556) hx hb dL_law_32 (by decide) (by decide) (by decide) (by decide) (law_c12 C0 hN hK hap hge hn I G A L h H locs hP hS ls hl kk)
      · exact lv_tableIn (off := 537) (tgt := 569) hx hb dL_law_32 (by decide) (by decide) (by decide) (by decide) (law_c13 C0 hN hK hap hge hn I G A L h H locs hP hS ls hl kk)
      · exact lv_tableIn (off := 570) (tgt := 602) hx hb dL_law_32 (by decide) (by decide) (by decide) (by decide) (law_c14 C0 hN hK hap hge hn I G A L h H locs hP hS ls hl kk)
      · exact lv_tableIn (off := 603) (tgt := 635) hx hb dL_law_32 (by decide) (by decide) (by decide) (by decide) (law_c15 C0 hN hK hap hge hn I G A L h H locs hP hS ls hl kk)
      · exact lv_tableIn (off := 636) (tgt := 668) hx hb dL_law_32 (by decide) (by decide) (by decide) (by decide) (law_c16 C0 hN hK hap hge hn I G A L h H locs hP hS ls hl kk)
      · exact lv_tableIn (off := 679) (tgt := 711) hx hb dL_law_32 (by decide) (by decide) (by decide) (by decide) (law_c17 C0 hN hK hap hge hn I G A L h H locs hP hS ls hl kk)
      · exact lv_tableIn (off := 712) (tgt := 744) hx hb dL_law_32 (by decide) (by decide) (by decide) (by decide) (law_c18 C0 hN hK hap hge hn I G A L h H locs hP hS ls hl kk)
      · exact lv_tableIn (off := 735) (tgt := 767) hx hb dL_law_32 (by decide) (by decide) (by decide) (by decide) (law_c19 C0 hN hK hap hge hn I G A L h H locs hP hS ls hl kk)
      · exact lv_tableIn (off := 758) (tgt := 790) hx hb dL_law_32 (by decide) (by decide) (by decide) (by decide) (law_c20 C0 hN hK hap hge hn I G A L h H locs hP hS ls hl kk)
      · exact lv_tableIn (off := 801) (tgt := 833) hx hb dL_law_32 (by decide) (by decide) (by decide) (by decide) (law_c21 C0 hN hK hap hge hn I G A L h H locs hP hS ls hl kk)
      · exact lv_tableIn (off := 834) (tgt := 866) hx hb dL_law_32 (by decide) (by decide) (by decide) (by decide) (law_c22 C0 hN hK hap hge hn I G A L h H locs hP hS ls hl kk)
      · exact lv_tableIn (off := 857) (tgt := 889) hx hb dL_law_32 (by decide) (by decide) (by decide) (by decide) (law_c23 C0 hN hK hap hge hn I G A L h H locs hP hS ls hl kk)
      · exact lv_tableIn (off := 890) (tgt := 922) hx hb dL_law_32 (by decide) (by decide) (by decide) (by decide) (law_c24 C0 hN hK hap hge hn I G A L h H locs hP hS ls hl kk)
      · exact lv_tableIn (off := 913) (tgt := 945) hx hb dL_law_32 (by decide) (by decide) (by decide) (by decide) (law_c25 C0 hN hK hap hge hn I G A L h H locs hP hS ls hl kk)
      · exact lv_tableIn (off := 956) (tgt := 988) hx hb dL_law_32 (by decide) (by decide) (by decide) (by decide) (law_c26 C0 hN hK hap hge hn I G A L h H locs hP hS ls hl kk)
      · exact lv_tableIn (off := 999) (tgt := 1031) hx hb dL_law_32 (by decide) (by decide) (by decide) (by decide) (law_c27 C0 hN hK hap hge hn I G A L h H locs hP hS ls hl kk)
      · exact lv_tableOut (tgt := 1044) hx hb dL_law_32 (by decide) (by decide) (kk I G A L H locs (Rel_up h) hP hS)
      · exact lv_tableOut (tgt := 1044) hx hb dL_law_32 (by decide) (by decide) (kk I G A L H locs (Rel_up h) hP hS)
      · exact lv_tableOut (tgt := 1044) hx hb dL_law_32 (by decide) (by decide) (kk I G A L H locs (Rel_up h) hP hS)
      · exact lv_tableOut (tgt := 1044) hx hb dL_law_32 (by decide) (by decide) (kk I G A L H locs (Rel_up h) hP hS)
set_option maxHeartbeats 4000000 in
set_option maxRecDepth 100000 in
/-- THE LAW, from its entry -/
theorem whole_start {p : Program} {e : Env} {s : State} {m : MethodId} {below : List Frame} {meth : Method} {c : Code} (l : Launch) {b N : Nat} {xs : Nat → Int32} (hN : N ≤ 2560) (C0 : lw_At p s m meth c b N xs) : W p l e room_1 s m #[Value.ref b] below meth c s.heap [] 0 0 (lw_Z below #[Value.ref b] s) (entryFrame m ([Value.ref b] : List Value).toArray 4) := by
  obtain ⟨hx, hb, hr, hml, hown, hts0, hX, hbl, hlocks, hgv⟩ := id C0
  have hts : ∀ w ∈ wsL_law, w.before #[Value.ref b] s = true := fun w h => hts0 w (wsL_law_in w h)
  have hown : s.vm.findClass RL = some m.cls := hown
  have hA : ∀ q : Nat, s.heap.size ≤ q → (fun q : Nat => s.heap.size ≤ q) q := fun _ h => h
  have hbA : ¬ (fun q : Nat => s.heap.size ≤ q) b := Nat.not_le.mpr hbl
  obtain ⟨c0, iS0, hKn0⟩ := u_known (C := RX0) (T := TX0) (N := 3) (n := 3) hts inlX0 (hts (.instantiable RX0 3) (by decide +kernel))
  obtain ⟨c1, iS1, hKn1⟩ := u_known (C := RX1) (T := TX1) (N := 9) (n := 9) hts inlX1 (hts (.instantiable RX1 9) (by decide +kernel))
  obtain ⟨c2, iS2, hKn2⟩ := u_known (C := RX2) (T := TX2) (N := 7) (n := 7) hts inlX2 (hts (.instantiable RX2 7) (by decide +kernel))
  obtain ⟨c3, iS3, hKn3⟩ := u_known (C := RX3) (T := TX3) (N := 6) (n := 6) hts inlX3 (hts (.instantiable RX3 6) (by decide +kernel))
  obtain ⟨c4, iS4, hKn4⟩ := u_known (C := RX4) (T := TX4) (N := 7) (n := 7) hts inlX4 (hts (.instantiable RX4 7) (by decide +kernel))
  obtain ⟨c5, iS5, hKn5⟩ := u_known (C := RX5) (T := TX5) (N := 16) (n := 16) hts inlX5 (hts (.instantiable RX5 16) (by decide +kernel))
  obtain ⟨c6, iS6, hKn6⟩ := u_known (C := RX6) (T := TX6) (N := 18) (n := 18) hts inlX6 (hts (.instantiable RX6 18) (by decide +kernel))
  obtain ⟨c7, iS7, hKn7⟩ := u_known (C := RX7) (T := TX7) (N := 79) (n := 79) hts inlX7 (hts (.instantiable RX7 79) (by decide +kernel))
  obtain ⟨dC, dI, hKc⟩ : ∃ (dC : Nat → ClassId) (dI : Nat → Nat → Nat), ∀ (k : Nat) (q : vw_C), vwCl[k]? = some q → u_Kn s q.1 q.2.1 q.2.2 (dC k) (dI k) := by
    refine ⟨fun k => if k = 0 then c0 else if k = 1 then c1 else if k = 2 then c2 else if k = 3 then c3 else if k = 4 then c4 else if k = 5 then c5 else if k = 6 then c6 else c7, fun k => if k = 0 then iS0 else if k = 1 then iS1 else if k = 2 then iS2 else if k = 3 then iS3 else if k = 4 then iS4 else if k = 5 then iS5 else if k = 6 then iS6 else iS7, ?_⟩
    intro k q hq
    match k, hq with
    | 0, hq => cases hq; exact hKn0
    | 1, hq => cases hq; exact hKn1
    | 2, hq => cases hq; exact hKn2
    | 3, hq => cases hq; exact hKn3
    | 4, hq => cases hq; exact hKn4
    | 5, hq => cases hq; exact hKn5
    | 6, hq => cases hq; exact hKn6
    | 7, hq => cases hq; exact hKn7
    | k + 8, hq => simp [vwCl] at hq
  have hS : va_S (fun q : Nat => s.heap.size ≤ q) s.heap s.heap [] := va_S.rf
  obtain ⟨K, hKa⟩ := ty_all (s := s) (args := #[Value.ref b]) (hts0 (.arrayClass .int) (by decide +kernel)) (hts0 (.arrayClass .byte) (by decide +kernel)) (hts0 (.arrayClass .short) (by decide +kernel)) (hts0 (.arrayClass .boolean) (by decide +kernel)) (hts0 (.arrayClass .long) (by decide +kernel)) (hts0 (.arrayOver (.object RX1)) (by decide +kernel)) (hts0 (.arrayOver (.object RX2)) (by decide +kernel)) (hts0 (.arrayOver (.array .int)) (by decide +kernel))
  have hK : va_K (dC, dI) vwCl [(K 0, .int), (K 1, .byte), (K 2, .short), (K 3, .boolean), (K 4, .long), (K 5, .object RX1), (K 6, .object RX2), (K 7, .array .int)] s := ⟨hKc, hKa⟩
  have hP : va_P (dC, dI) vwCl [] s.heap := va_Pnil _ _ _
  have hD : va_D (fun q : Nat => s.heap.size ≤ q) [] := va_Dnil _
  have hN5 : nwX s := ⟨va_Nw.of rfl (hts0 (.methodLinkNest RX6 21 yX4_init "CrateHelpers") (by decide +kernel)), va_Nw.of rfl (hts0 (.methodLinkNest RX6 47 yX0_init "CrateHelpers") (by decide +kernel)), va_Nw.of rfl (hts0 (.methodLinkNest RX1 46 yX2_init "CrateHelpers") (by decide +kernel)), va_Nw.of rfl (hts0 (.methodLinkNest RX5 30 yX0_init "CrateHelpers") (by decide +kernel)), va_AO.of (hts0 (.arrayOver (.object RX1)) (by decide +kernel)), va_AO.of (hts0 (.arrayOver (.object RX2)) (by decide +kernel)), hts0 (.arrayOver (.array .int)) (by decide +kernel)⟩
  have hl := lv_entry ([.ref b]) (n := 4) (Nat.le_of_ble_eq_true rfl)
  rw [lg_entry_eq]
  generalize (lg_sl ([.ref b]) ++ List.replicate (4 - (lg_sl ([.ref b])).length) Slot.unset).toArray = ls at hl ⊢
  have hl : lv_has ls 4 [(0, .ref b)] := hl
  refine va_new (ci := 6) (fs := [.null, .int 0, .null, .int 0, .null, .int 0, .null, .int 0, .int 0, .int 0, .null, .null, .null, .null, .null, .null, .null, .int 0]) (C := RX6) (T := TX6) (N := 18) hx hb hts inlX6 tyX6 tyX6_ok hown (hts (.classLink RL 7 RX6) (by decide +kernel)) (hts (.instantiable RX6 18) (by decide +kernel)) (hts (.initialized RX6) (by decide +kernel)) hK hP hD hS hA rfl (by decide +kernel) (Nat.le_of_ble_eq_true rfl) (Nat.le_of_ble_eq_true rfl) dL_law_0 (fun h0 H hP hD hS => ?_)
  have hP : va_P (dC, dI) vwCl [(h0, .inr (6, [.null, .int 0, .null, .int 0, .null, .int 0, .null, .int 0, .int 0, .int 0, .null, .null, .null, .null, .null, .null, .null, .int 0]))] H := hP
  have hD : va_D (fun q : Nat => s.heap.size ≤ q) [(h0, .inr (6, [.null, .int 0, .null, .int 0, .null, .int 0, .null, .int 0, .int 0, .int 0, .null, .null, .null, .null, .null, .null, .null, .int 0]))] := hD
  refine W.widen (k := 1) (n := 18) (Nat.le_of_ble_eq_true rfl) (Nat.le_of_ble_eq_true rfl) ?_
  refine lv_dup hx hb dL_law_3 rfl ?_
  have hPc := hP.sub (ws' := [(h0, .inr (6, [.null, .int 0, .null, .int 0, .null, .int 0, .null, .int 0, .int 0, .int 0, .null, .null, .null, .null, .null, .null, .null, .int 0]))]) [0] rfl
  have hDc := hD.sub (ws' := [(h0, .inr (6, [.null, .int 0, .null, .int 0, .null, .int 0, .null, .int 0, .int 0, .int 0, .null, .null, .null, .null, .null, .null, .null, .int 0]))]) [0] (by decide) rfl
  have hFc := va_free (wc := [(h0, .inr (6, [.null, .int 0, .null, .int 0, .null, .int 0, .null, .int 0, .int 0, .int 0, .null, .null, .null, .null, .null, .null, .null, .int 0]))]) hD hS hA [0] rfl
  refine va_callv (va_runI (As := []) (rest := [.ref h0]) ⟨hx, hb, hml, hown, hts⟩ (z_X6_init l dC dI H.size K h0) (cwI 0 hts gL_law_X6_init rfl rfl rfl (hts (.initialized RX6) (by decide +kernel)) (hts (.methodLink RL 9 yX6_init) (by decide +kernel)) (hts (.instanceMethod yX6_init) (by decide +kernel)) rfl (by decide +kernel) ⟨Nat.le_of_ble_eq_true rfl, Nat.le_of_ble_eq_true rfl⟩) ⟨fun a U g mk q => by obtain ⟨q0, q1, qP, qK, qD, qN⟩ := q; exact ⟨q0, q1, qP, va_K.moved (u := U) (U := U.calling g mk a) (Vm.Alike.refl U.vm) qK, qD, nwX_same (u := U) (U := U.calling g mk a) rfl qN⟩, fun U hU hW => ⟨rfl, by rw [hU], by rw [hU]; exact hPc, va_K.moved hW.alike hK, hDc.weaken (fun _ _ _ _ => trivial), nwX_moved hW hN5⟩⟩ rfl rfl hl.1 rfl (lv_room (Nat.le_of_ble_eq_true rfl)) dL_law_4 ⟨Nat.le_of_ble_eq_true rfl, Nat.le_of_ble_eq_true rfl⟩) hS (fun q _ h => hFc q h) hFc (fun u t H1 locs ht hvm hw hB hz1 hk1 hS => ?_)
  obtain ⟨ad, u18, u19, h19, ha0, hP1, hK1, hD1⟩ := hB
  rw [ht] at hP1
  obtain ⟨hP, hD⟩ := va_join (wr := []) (w1 := VX K ad u18 u19) hP hD [0] [] rfl rfl (by decide) (by decide) hk1 hFc hP1 hD1
  generalize H1 = H at hP hS ⊢
  have hP : va_P (dC, dI) vwCl (VX K ad u18 u19) H := hP
  have hD : va_D (fun q : Nat => s.heap.size ≤ q) (VX K ad u18 u19) := hD
  refine W.widen (k := 318) (n := 42396) (Nat.le_of_ble_eq_true rfl) (Nat.le_of_ble_eq_true rfl) ?_
  refine lv_astore_n (lv' := [(1, .ref h0), (0, .ref b)]) hx hb dL_law_7 rfl hl (by decide) rfl (fun ls hl => ?_)
  refine va_new (ci := 7) (fs := [.int 0, .int 0, .int 0, .null, .null, .null, .null, .null, .null, .null, .null, .null, .null, .null, .int 0, .int 0, .null, .null, .int 0, .int 0, .null, .null, .null, .int 0, .int 0, .null, .null, .null, .int 0, .int 0, .int 0, .int 0, .null, .null, .null, .null, .null, .null, .null, .null, .null, .null, .null, .null, .null, .null, .null, .null, .int 0, .null, .null, .null, .null, .null, .null, .null, .null, .int 0, .int 0, .int 0, .null, .int 0, .null, .null, .int 0, .int 0, .null, .null, .null, .null, .null, .null, .null, .null, .null, .null, .null, .null, .null]) (C := RX7) (T := TX7) (N := 79) hx hb hts inlX7 tyX7 tyX7_ok hown (hts (.classLink RL 10 RX7) (by decide +kernel)) (hts (.instantiable RX7 79) (by decide +kernel)) (hts (.initialized RX7) (by decide +kernel)) hK hP hD hS hA rfl (by decide +kernel) (Nat.le_of_ble_eq_true rfl) (Nat.le_of_ble_eq_true rfl) dL_law_8 (fun h1 H hP hD hS => ?_)
  refine W.widen (k := 319) (n := 42475) (Nat.le_of_ble_eq_true rfl) (Nat.le_of_ble_eq_true rfl) ?_
  refine lv_dup hx hb dL_law_11 rfl ?_
  have hP := tl_P List.perm_append_comm hP
  have hD := tl_D List.perm_append_comm hD
  have hP : va_P (dC, dI) vwCl ([(h1, .inr (7, [.int 0, .int 0, .int 0, .null, .null, .null, .null, .null, .null, .null, .null, .null, .null, .null, .int 0, .int 0, .null, .null, .int 0, .int 0, .null, .null, .null, .int 0, .int 0, .null, .null, .null, .int 0, .int 0, .int 0, .int 0, .null, .null, .null, .null, .null, .null, .null, .null, .null, .null, .null, .null, .null, .null, .null, .null, .int 0, .null, .null, .null, .null, .null, .null, .null, .null, .int 0, .int 0, .int 0, .null, .int 0, .null, .null, .int 0, .int 0, .null, .null, .null, .null, .null, .null, .null, .null, .null, .null, .null, .null, .null]))] ++ VX K ad u18 u19) H := hP
  have hD : va_D (fun q : Nat => s.heap.size ≤ q) ([(h1, .inr (7, [.int 0, .int 0, .int 0, .null, .null, .null, .null, .null, .null, .null, .null, .null, .null, .null, .int 0, .int 0, .null, .null, .int 0, .int 0, .null, .null, .null, .int 0, .int 0, .null, .null, .null, .int 0, .int 0, .int 0, .int 0, .null, .null, .null, .null, .null, .null, .null, .null, .null, .null, .null, .null, .null, .null, .null, .null, .int 0, .null, .null, .null, .null, .null, .null, .null, .null, .int 0, .int 0, .int 0, .null, .int 0, .null, .null, .int 0, .int 0, .null, .null, .null, .null, .null, .null, .null, .null, .null, .null, .null, .null, .null]))] ++ VX K ad u18 u19) := hD
  have hPc := hP.sub (ws' := [(h1, .inr (7, [.int 0, .int 0, .int 0, .null, .null, .null, .null, .null, .null, .null, .null, .null, .null, .null, .int 0, .int 0, .null, .null, .int 0, .int 0, .null, .null, .null, .int 0, .int 0, .null, .null, .null, .int 0, .int 0, .int 0, .int 0, .null, .null, .null, .null, .null, .null, .null, .null, .null, .null, .null, .null, .null, .null, .null, .null, .int 0, .null, .null, .null, .null, .null, .null, .null, .null, .int 0, .int 0, .int 0, .null, .int 0, .null, .null, .int 0, .int 0, .null, .null, .null, .null, .null, .null, .null, .null, .null, .null, .null, .null, .null]))]) [0] rfl
  have hDc := hD.sub (ws' := [(h1, .inr (7, [.int 0, .int 0, .int 0, .null, .null, .null, .null, .null, .null, .null, .null, .null, .null, .null, .int 0, .int 0, .null, .null, .int 0, .int 0, .null, .null, .null, .int 0, .int 0, .null, .null, .null, .int 0, .int 0, .int 0, .int 0, .null, .null, .null, .null, .null, .null, .null, .null, .null, .null, .null, .null, .null, .null, .null, .null, .int 0, .null, .null, .null, .null, .null, .null, .null, .null, .int 0, .int 0, .int 0, .null, .int 0, .null, .null, .int 0, .int 0, .null, .null, .null, .null, .null, .null, .null, .null, .null, .null, .null, .null, .null]))]) [0] (by decide) rfl
  have hFc := va_free (wc := [(h1, .inr (7, [.int 0, .int 0, .int 0, .null, .null, .null, .null, .null, .null, .null, .null, .null, .null, .null, .int 0, .int 0, .null, .null, .int 0, .int 0, .null, .null, .null, .int 0, .int 0, .null, .null, .null, .int 0, .int 0, .int 0, .int 0, .null, .null, .null, .null, .null, .null, .null, .null, .null, .null, .null, .null, .null, .null, .null, .null, .int 0, .null, .null, .null, .null, .null, .null, .null, .null, .int 0, .int 0, .int 0, .null, .int 0, .null, .null, .int 0, .int 0, .null, .null, .null, .null, .null, .null, .null, .null, .null, .null, .null, .null, .null]))]) hD hS hA [0] rfl
  refine va_callv (va_runI (As := []) (rest := [.ref h1]) ⟨hx, hb, hml, hown, hts⟩ (z_X7_init l dC dI H.size K h1) (cwI 0 hts gL_law_X7_init rfl rfl rfl (hts (.initialized RX7) (by decide +kernel)) (hts (.methodLink RL 12 yX7_init) (by decide +kernel)) (hts (.instanceMethod yX7_init) (by decide +kernel)) rfl (by decide +kernel) ⟨Nat.le_of_ble_eq_true rfl, Nat.le_of_ble_eq_true rfl⟩) ⟨fun a U g mk q => by obtain ⟨q0, q1, qP, qK, qD⟩ := q; exact ⟨q0, q1, qP, va_K.moved (u := U) (U := U.calling g mk a) (Vm.Alike.refl U.vm) qK, qD⟩, fun U hU hW => ⟨rfl, by rw [hU], by rw [hU]; exact hPc, va_K.moved hW.alike hK, hDc.weaken (fun _ _ _ _ => trivial)⟩⟩ rfl rfl hl.1 rfl (lv_room (Nat.le_of_ble_eq_true rfl)) dL_law_12 ⟨Nat.le_of_ble_eq_true rfl, Nat.le_of_ble_eq_true rfl⟩) hS (fun q _ h => hFc q h) hFc (fun u t H1 locs ht hvm hw hB hz1 hk1 hS => ?_)
  obtain ⟨m9, hm0, hP1, hK1, hD1⟩ := hB
  rw [ht] at hP1
  obtain ⟨hP, hD⟩ := tl_join (lits := [(h1, .inr (7, [.int 0, .int 0, .int 0, .null, .null, .null, .null, .null, .null, .null, .null, .null, .null, .null, .int 0, .int 0, .null, .null, .int 0, .int 0, .null, .null, .null, .int 0, .int 0, .null, .null, .null, .int 0, .int 0, .int 0, .int 0, .null, .null, .null, .null, .null, .null, .null, .null, .null, .null, .null, .null, .null, .null, .null, .null, .int 0, .null, .null, .null, .null, .null, .null, .null, .null, .int 0, .int 0, .int 0, .null, .int 0, .null, .null, .int 0, .int 0, .null, .null, .null, .null, .null, .null, .null, .null, .null, .null, .null, .null, .null]))]) (tl := VX K ad u18 u19) (wr := []) (w1 := VMR K m9) hP hD [0] [] rfl rfl (by decide) (by decide) 1 rfl (by decide) (by decide) hk1 hFc hP1 hD1
  generalize H1 = H at hP hS ⊢
  refine W.widen (k := 378) (n := 153906) (Nat.le_of_ble_eq_true rfl) (Nat.le_of_ble_eq_true rfl) ?_
  refine lv_astore_n (lv' := [(2, .ref h1), (1, .ref h0), (0, .ref b)]) hx hb dL_law_15 rfl hl (by decide) rfl (fun ls hl => ?_)
  refine lv_iconst (v := 0) hx hb dL_law_16 (by decide) ?_
  refine lv_istore_n (lv' := [(3, .int 0), (2, .ref h1), (1, .ref h0), (0, .ref b)]) hx hb dL_law_17 rfl hl (by decide) rfl (fun ls hl => ?_)
  have hP := tl_eqP vw_all hP
  have hD := tl_eqD vw_all hD
  obtain ⟨hap, hge⟩ := vw_ap hD
  refine law_loop (ad := adx ad m9) C0 hN hK hap hge 512 0 (by omega) I0 G0 (A0 u18 u19) L0 (Rel_0 h19) H _ hP hS ls ?_
  have e0 : adx ad m9 0 = h0 := ha0
  have e1 : adx ad m9 318 = h1 := hm0
  rw [e0, e1]
  exact hl
