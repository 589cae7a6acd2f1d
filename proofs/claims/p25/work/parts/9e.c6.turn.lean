/-! p25: a turn keeps the run's invariant -/
section TU
variable {I A J R : Nat → Nat → Int32} {B v p nv nr nn dd tk tn z n m a h c : Nat}
theorem el_s (z1 : 1 ≤ z) (z5 : z ≤ 5) (hh : h < z) (hne : h ≠ tn % z) : el (tn + 1) z h = el tn z h + 1 := by
  unfold el
  rcases (show z = 1 ∨ z = 2 ∨ z = 3 ∨ z = 4 ∨ z = 5 by omega) with rfl | rfl | rfl | rfl | rfl <;> omega
theorem el_0 (z1 : 1 ≤ z) (z5 : z ≤ 5) : el (tn + 1) z (tn % z) = 0 := by
  unfold el
  rcases (show z = 1 ∨ z = 2 ∨ z = 3 ∨ z = 4 ∨ z = 5 by omega) with rfl | rfl | rfl | rfl | rfl <;> omega
theorem M2_c {R' : Nat → Nat → Int32} (h : M2 I A R B v nv nr nn) (h6 : nv ≤ 6) (hR : ∀ j m, 338 ≤ j → j ≤ 342 → R' j m = R j m) (h4 : ∀ m, R 344 m = 1 → R' 344 m = 1) : M2 I A R' B v nv nr nn := fun n hn => by
  have ed : ∀ m, dn R' m = dn R m := fun m => by unfold dn; rw [hR _ _ (by omega) (by omega)]
  have ew : ∀ m i, wn R' m i = wn R m i := fun m i => by unfold wn; rw [hR _ _ (by omega) (by omega)]
  obtain ⟨⟨a1, a2, a3, a4, a5, a6, a7⟩, b⟩ := h n hn
  have ewf : wn R' n = wn R n := funext (ew n)
  refine ⟨?_, ?_⟩
  · unfold NdS
    rw [ed, ewf, hR 338 _ (by omega) (by omega), hR 340 _ (by omega) (by omega), hR 341 _ (by omega) (by omega)]
    exact ⟨a1, a2, fun i hi => by rw [hR _ _ (by omega) (by omega)]; exact a3 i hi, fun i h1 h2 => by rw [hR _ _ (by omega) (by omega)]; exact a4 i h1 h2, a5, a6, a7⟩
  · rw [ed, hR 342 _ (by omega) (by omega)]
    rcases b with b | ⟨a, ⟨b1, b2⟩, b3, b4, b5⟩
    · exact Or.inl b
    · exact Or.inr ⟨a, ⟨b1, by rw [hR 342 _ (by omega) (by omega)]; exact b2⟩, by rw [ed]; exact b3, fun i hi => by rw [ew, ew]; exact b4 i (by rw [← ed]; exact hi), h4 a b5⟩
theorem M4_c {R' : Nat → Nat → Int32} (h : M4 I A R B v nv nr nn) (hR : ∀ j m, 338 ≤ j → j ≤ 342 → R' j m = R j m) (h4 : ∀ m, R' 344 m = R 344 m) : M4 I A R' B v nv nr nn := by
  have ed : ∀ m, dn R' m = dn R m := fun m => by unfold dn; rw [hR _ _ (by omega) (by omega)]
  have ew : ∀ m, wn R' m = wn R m := fun m => funext fun i => by unfold wn; rw [hR _ _ (by omega) (by omega)]
  unfold M4
  simp only [ed, ew, h4, fun m => hR 342 m (by omega) (by omega)]
  exact h
theorem Lt_fr {R' : Nat → Nat → Int32} (hR : ∀ j m, 338 ≤ j → j ≤ 342 → R' j m = R j m) : Lt R' n m ↔ Lt R n m := Lt_c (hR _ _ (by omega) (by omega)) (hR _ _ (by omega) (by omega)) (hR _ _ (by omega) (by omega)) (hR _ _ (by omega) (by omega))
theorem qlt_fr {R' : Nat → Nat → Int32} (hR : ∀ j m, 338 ≤ j → j ≤ 342 → R' j m = R j m) : qlt R' n m = qlt R n m := by
  unfold qlt; rw [hR 341 _ (by omega) (by omega), hR 341 _ (by omega) (by omega), hR 340 _ (by omega) (by omega), hR 340 _ (by omega) (by omega)]
theorem M8_c {R' : Nat → Nat → Int32} (h : M8 R nn tk) (hR : ∀ j m, 338 ≤ j → j ≤ 342 → R' j m = R j m) (h5 : ∀ m, R' 345 m = R 345 m) (h6 : ∀ m, R' 346 m = R 346 m) : M8 R' nn tk := by
  unfold M8 Rch
  simp only [h5, h6, fun m => hR 342 m (by omega) (by omega), Lt_fr hR]
  exact h
/-- nobody else moves: a helper that holds nothing stays so -/
theorem idle (hM : MV I A J R p B v nv nr nn dd tk tn z) (hc : R 337 (tn % z) = -9) {J' R' : Nat → Nat → Int32} (hJ : ∀ k, k ≠ 28 → J' 318 k = J 318 k) (hR : ∀ j m, j ≠ 332 → R' j m = R j m) : MV I A J' R' p B v nv nr nn dd tk (tn + 1) z := by
  obtain ⟨hP, hv, z1, z5, j1, j2, j3, hnn, ht, h2, h3, h4, h5, h6, h7, h8⟩ := hM
  have hR5 : ∀ j m, 338 ≤ j → j ≤ 342 → R' j m = R j m := fun j m q1 q2 => hR j m (by omega)
  refine ⟨TPr_of hP (fun _ _ _ _ => rfl) (fun _ _ _ _ => rfl) (fun j m q1 q2 => hR j m (by omega)), hv, z1, z5, by rw [hJ _ (by decide)]; exact j1, by rw [hJ _ (by decide)]; exact j2, by rw [hJ _ (by decide)]; exact j3, hnn, ht, M2_c h2 hP.2.2.1.1 hR5 (fun m q => by rw [hR _ _ (by decide)]; exact q), ?_, M4_c h4 hR5 (fun m => hR _ _ (by decide)), ?_, ?_, ?_, M8_c h8 hR5 (fun m => hR _ _ (by decide)) (fun m => hR _ _ (by decide))⟩
  · unfold M3; simp only [fun m => hR 343 m (by decide), fun m => hR 344 m (by decide), fun m => hR 345 m (by decide)]; exact h3
  · unfold M5; simp only [fun m => hR 343 m (by decide), fun m => hR 344 m (by decide), fun m => hR 337 m (by decide), fun m => hR 335 m (by decide)]; exact h5
  · intro n hn hq
    rw [hR _ _ (by decide)] at hq
    have ec : cnt (pkb R' n) nn = cnt (pkb R n) nn := cnt_c nn (fun i _ => by unfold pkb; rw [hR 343 _ (by decide), qlt_fr hR5])
    have ed : dn R' n = dn R n := by unfold dn; rw [hR _ _ (by decide)]
    rw [ec, ed, hR 343 _ (by decide)]
    refine ⟨(h6 n hn hq).1, fun h hh e => ?_⟩
    have hne : h ≠ tn % z := fun r => by
      rcases h5.1 n hn with f | ⟨h', f1, f2, f3⟩
      · rw [e] at f; exact absurd f (t_m9 (by omega))
      · obtain rfl : h = h' := (t_eq (by omega) (by omega)).mp (e.symm.trans f2)
        rcases f3 with f3 | f3
        · rw [hq] at f3; exact absurd f3 (by decide)
        · rw [r, hc] at f3; exact absurd f3.symm (t_m9 (by omega))
    rw [el_s z1 z5 hh hne]
    have := (h6 n hn hq).2 h hh e
    omega
  · unfold M7 dnb tkb; simp only [fun m => hR 344 m (by decide), fun m => hR 345 m (by decide)]; exact h7
/-- the least free node is picked -/
theorem pick (hM : MV I A J R p B v nv nr nn dd tk tn z) (hc : R 337 (tn % z) = -9) {x : Nat} (hx : nxf R nn = some x) {J' R' : Nat → Nat → Int32} (hJ : ∀ k, k ≠ 28 → J' 318 k = J 318 k) (hR : ∀ j m, j ≠ 336 → ¬ (j = 337 ∧ m = tn % z) → ¬ (j = 343 ∧ m = x) → R' j m = R j m) (h37 : R' 337 (tn % z) = nI x) (h43 : R' 343 x = nI (tn % z)) : MV I A J' R' p B v nv nr nn dd tk (tn + 1) z := by
  obtain ⟨hP, hv, z1, z5, j1, j2, j3, hnn, ht, h2, h3, h4, h5, h6, h7, h8⟩ := hM
  have hcz : tn % z < z := Nat.mod_lt _ (by omega)
  have hm := amin_o _ _ _ hx
  have hq : x ∈ List.range' 0 nn ∧ qfr R x = true := hm.resolve_left (by simp)
  have hxn : x < nn := by have := (List.mem_range'_1.mp hq.1).2; omega
  have hxf : R 343 x = -9 := of_decide_eq_true hq.2
  have hx0 : R 344 x = 0 := (h3 x hxn).2.2.2 hxf
  have hlt : ∀ y, y < nn → R 343 y = -9 → y ≠ x → Lt R x y := fun y hy hf hne => by
    have := (amin_l _ _ _ hx).2 y (List.mem_range'_1.mpr ⟨by omega, by omega⟩) (decide_eq_true hf)
    rcases this with e | e
    · exact absurd e.symm hne
    · exact ((nd_k hP h2 h4 hy hxn hne).resolve_left e)
  have hR5 : ∀ j m, 338 ≤ j → j ≤ 342 → R' j m = R j m := fun j m q1 q2 => hR j m (by omega) (by omega) (by omega)
  have r44 : ∀ m, R' 344 m = R 344 m := fun m => hR _ _ (by decide) (by omega) (by omega)
  have r45 : ∀ m, R' 345 m = R 345 m := fun m => hR _ _ (by decide) (by omega) (by omega)
  have r43 : ∀ m, m ≠ x → R' 343 m = R 343 m := fun m q => hR _ _ (by decide) (by omega) (by omega)
  have r37 : ∀ h, h ≠ tn % z → R' 337 h = R 337 h := fun h q => hR _ _ (by decide) (by omega) (by omega)
  refine ⟨TPr_of hP (fun _ _ _ _ => rfl) (fun _ _ _ _ => rfl) (fun j m q1 q2 => hR j m (by omega) (by omega) (by omega)), hv, z1, z5, by rw [hJ _ (by decide)]; exact j1, by rw [hJ _ (by decide)]; exact j2, by rw [hJ _ (by decide)]; exact j3, hnn, ht, M2_c h2 hP.2.2.1.1 hR5 (fun m q => by rw [r44]; exact q), ?_, M4_c h4 hR5 r44, ⟨fun n hn => ?_, fun h hh => ?_⟩, ?_, ?_, M8_c h8 hR5 r45 (fun m => hR _ _ (by decide) (by omega) (by omega))⟩
  · intro n hn
    rw [r44, r45]
    obtain ⟨a1, a2, a3, a4⟩ := h3 n hn
    refine ⟨a1, a2, a3, fun e => ?_⟩
    by_cases q : n = x
    · rw [q]; exact hx0
    · rw [r43 n q] at e; exact a4 e
  · by_cases q : n = x
    · subst q; exact Or.inr ⟨tn % z, hcz, h43, Or.inr h37⟩
    · rw [r43 n q, r44]
      rcases h5.1 n hn with f | ⟨h', f1, f2, f3⟩
      · exact Or.inl f
      · refine Or.inr ⟨h', f1, f2, ?_⟩
        rcases f3 with f3 | f3
        · exact Or.inl f3
        · refine Or.inr ?_
          have : h' ≠ tn % z := fun r => by rw [r, hc] at f3; exact absurd f3.symm (t_m9 (by omega))
          rw [r37 _ this]; exact f3
  · refine ⟨by rw [hR _ _ (by decide) (by omega) (by omega)]; exact (h5.2 h hh).1, ?_⟩
    by_cases q : h = tn % z
    · rw [q]; exact Or.inr ⟨x, hxn, h37, h43, by rw [r44]; exact hx0⟩
    · rw [r37 h q]
      rcases (h5.2 h hh).2 with f | ⟨n, f1, f2, f3, f4⟩
      · exact Or.inl f
      · refine Or.inr ⟨n, f1, f2, ?_, by rw [r44]; exact f4⟩
        rw [r43 n (fun r => by rw [r, hxf] at f3; exact absurd f3.symm (t_m9 (by omega)))]; exact f3
  · intro n hn hd
    rw [r44] at hd
    have ed : dn R' n = dn R n := by unfold dn; rw [hR5 _ _ (by omega) (by omega)]
    rw [ed]
    have same : ∀ i, i ≠ x → pkb R' n i = pkb R n i := fun i q => by unfold pkb; rw [r43 i q, qlt_fr hR5]
    by_cases q : n = x
    · subst q
      have ec : cnt (pkb R' n) nn = cnt (pkb R n) nn := cnt_c nn (fun i hi => by
        by_cases e : i = n
        · subst e
          have f1 : qlt R i i = false := by
            cases e0 : qlt R i i with
            | false => rfl
            | true => exact absurd (qlt_i.mp e0) Lt_ir
          unfold pkb
          rw [qlt_fr hR5, f1, Bool.and_false, Bool.and_false]
        · exact same i e)
      rw [ec]
      refine ⟨fun e => ?_, fun h hh e => ?_⟩
      · rw [h43] at e; exact absurd e (t_m9 (by omega))
      · have := (h6 n hn hd).1 hxf
        omega
    · rw [r43 n q]
      refine ⟨fun e => ?_, fun h hh e => ?_⟩
      · have ec : cnt (pkb R' n) nn = cnt (pkb R n) nn := cnt_c nn (fun i hi => by
          by_cases e1 : i = x
          · subst e1
            have f1 : qlt R n i = false := by
              cases e0 : qlt R n i with
              | false => rfl
              | true => exact absurd (qlt_i.mp e0) (Lt_as (hlt n hn e q))
            unfold pkb
            rw [qlt_fr hR5, f1, Bool.and_false, Bool.and_false]
          · exact same i e1)
        rw [ec]
        exact (h6 n hn hd).1 e
      · have hne : h ≠ tn % z := fun r => by
          rcases h5.1 n hn with f | ⟨h', f1, f2, f3⟩
          · rw [e] at f; exact absurd f (t_m9 (by omega))
          · obtain rfl : h = h' := (t_eq (by omega) (by omega)).mp (e.symm.trans f2)
            rcases f3 with f3 | f3
            · rw [hd] at f3; exact absurd f3 (by decide)
            · rw [r, hc] at f3; exact absurd f3.symm (t_m9 (by omega))
        rw [el_s z1 z5 hh hne]
        have h1 := (h6 n hn hd).2 h hh e
        have h2 : cnt (pkb R' n) nn ≤ cnt (pkb R n) nn + 1 := by
          by_cases b : pkb R' n x = true
          · have b0 : pkb R n x = false := by unfold pkb; rw [hxf]; simp
            rw [cnt_s (P := pkb R n) (Q := pkb R' n) nn hxn (fun i _ hi => (same i hi).symm) b0 b]
            omega
          · have : cnt (pkb R' n) nn ≤ cnt (pkb R n) nn := cnt_le nn (fun i _ hi => by
              by_cases e1 : i = x
              · rw [e1] at hi; exact absurd hi b
              · rw [← same i e1]; exact hi)
            omega
        omega
  · unfold M7 dnb tkb; simp only [r44, r45]; exact h7
end TU
