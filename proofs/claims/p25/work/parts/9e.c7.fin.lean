/-! p25: a node is finished; the walk takes nodes -/
section FI
variable {I A J R : Nat → Nat → Int32} {B v p nv nr nn dd tk tn z n m a h c u : Nat}
theorem fins (hM : MV I A J R p B v nv nr nn dd tk tn z) (had : dd ≤ tk + 24) (hun : u < nn) (hu : R 337 (tn % z) = nI u) (hu3 : R 343 u = nI (tn % z)) (hu4 : R 344 u = 0) {J0 R0 : Nat → Nat → Int32} (hJ0 : ∀ k, k ≠ 28 → J0 318 k = J 318 k) (hR0 : ∀ j m, j ≠ 334 → ¬ (j = 337 ∧ m = tn % z) → R0 j m = R j m) (h037 : R0 337 (tn % z) = -9) : ∃ J' R' nn', f_X7_opens J0 R0 (nI p) (nI u) 1 = some (J', R') ∧ MV I A J' R' p B v nv nr nn' (dd + 1) tk (tn + 1) z ∧ (∀ k, ¬ (k = 28 ∨ k = 29 ∨ k = 30 ∨ k = 64 ∨ k = 65) → J' 318 k = J 318 k) ∧ (∀ m, m < nn → dn R' m = dn R m) ∧ (∀ m, R' 346 m = R 346 m) ∧ nn ≤ nn' := by
  obtain ⟨hP, hv, z1, z5, j1, j2, j3, hnn, ht, h2, h3, h4, h5, h6, h7, h8⟩ := hM
  have hnv := hP.2.2.1.1
  have hcz : tn % z < z := Nat.mod_lt _ (by omega)
  have hR05 : ∀ j m, 338 ≤ j → R0 j m = R j m := fun j m q => hR0 j m (by omega) (by omega)
  have hP0 : TPr I A R0 p B nv nr := TPr_of hP (fun _ _ _ _ => rfl) (fun _ _ _ _ => rfl) (fun j m q1 q2 => hR0 j m (by omega) (by omega))
  have h20 : M2 I A R0 B v nv nr nn := M2_c h2 hnv (fun j m q1 q2 => hR05 j m q1) (fun m q => by rw [hR05 _ _ (by decide)]; exact q)
  obtain ⟨J', R', nn', g1, g2, g3, g4, g5, g6, g7, g8⟩ := r_opn (J := J0) hP0 hv (h20 u hun).1 hun (by rw [hJ0 _ (by decide)]; exact j1) (by omega) (dd := dd) (by rw [hJ0 _ (by decide)]; exact j2)
  have rm : ∀ j m, 338 ≤ j → j ≠ 344 → up2 R0 344 u 1 j m = R j m := fun j m q1 q2 => by rw [up2_j q2, hR05 j m q1]
  -- old nodes
  have o1 : ∀ j m, (j = 338 ∨ j = 340 ∨ j = 341 ∨ j = 342 ∨ j = 343 ∨ j = 345) → m < nn → R' j m = R j m := fun j m q hm => by rw [g7 j m (by omega) (by omega) (by omega), rm j m (by omega) (by omega)]
  have o2 : ∀ m, m < 6 * nn → R' 339 m = R 339 m := fun m hm => by rw [g7 339 m (by omega) (by omega) (by omega), rm 339 m (by omega) (by omega)]
  have o4 : ∀ m, m < nn → m ≠ u → R' 344 m = R 344 m := fun m hm hne => by rw [g7 344 m (by omega) (by omega) (by omega), up2_k hne, hR05 _ _ (by decide)]
  have o4u : R' 344 u = 1 := by rw [g7 344 u (by omega) (by omega) (by omega), up2_s]
  have o46 : ∀ m, R' 346 m = R 346 m := fun m => by rw [g7 346 m (by omega) (by omega) (by omega), rm 346 m (by omega) (by omega)]
  have o37 : ∀ h, h ≠ tn % z → R' 337 h = R 337 h := fun h q => by rw [g7 337 h (by omega) (by omega) (by omega), up2_j (by omega), hR0 _ _ (by omega) (by omega)]
  have o37c : R' 337 (tn % z) = -9 := by rw [g7 337 _ (by omega) (by omega) (by omega), up2_j (by omega)]; exact h037
  have o35 : ∀ h, R' 335 h = R 335 h := fun h => by rw [g7 335 h (by omega) (by omega) (by omega), up2_j (by omega), hR0 _ _ (by omega) (by omega)]
  have odn : ∀ m, m < nn → dn R' m = dn R m := fun m hm => by unfold dn; rw [o1 338 m (by omega) hm]
  have own : ∀ m i, m < nn → i < 6 → wn R' m i = wn R m i := fun m i hm hi => by unfold wn; rw [o2 _ (by omega)]
  have edu : dn R0 u = dn R u := by unfold dn; rw [hR05 _ _ (by decide)]
  have ewu : wn R0 u = wn R u := funext fun i => by unfold wn; rw [hR05 _ _ (by decide)]
  rw [edu, ewu] at g8
  -- new nodes
  have new : ∀ m, nn ≤ m → m < nn' → dn R u < nv ∧ NdS I A R' B v nv nr m ∧ dn R' m = dn R u + 1 ∧ (∀ i, i < dn R u → wn R' m i = wn R u i) ∧ R' 342 m = nI u ∧ R' 343 m = -9 ∧ R' 344 m = 0 ∧ R' 345 m = 0 := fun m q1 q2 => by
    rcases g8 with ⟨_, e⟩ | ⟨e, f, _⟩
    · omega
    · obtain ⟨c1, c2, c3, c4, c5, c6, c7, c8⟩ := f m q1 q2
      exact ⟨e, c1, c2, c3, c5, c6, c7, c8⟩
  have hP' : TPr I A R' p B nv nr := TPr_of hP0 (fun _ _ _ _ => rfl) (fun _ _ _ _ => rfl) (fun j m q1 q2 => by rw [g7 j m (by omega) (by omega) (by omega), up2_j (by omega)])
  have ltO : ∀ a b, a < nn → b < nn → (Lt R' a b ↔ Lt R a b) := fun a b ha hb => Lt_c (o1 341 a (by omega) ha) (o1 340 a (by omega) ha) (o1 341 b (by omega) hb) (o1 340 b (by omega) hb)
  have qltO : ∀ a b, a < nn → b < nn → qlt R' a b = qlt R a b := fun a b ha hb => by
    unfold qlt; rw [o1 341 a (by omega) ha, o1 340 a (by omega) ha, o1 341 b (by omega) hb, o1 340 b (by omega) hb]
  have ndu := (h2 u hun).1
  have nochild : ∀ m, m < nn → R 342 m ≠ nI u := fun m hm e => by
    rcases (h2 m hm).2 with ⟨_, _, f⟩ | ⟨a, ⟨a1, a2⟩, _, _, a5⟩
    · rw [e] at f; exact absurd f (t_m9 (by omega))
    · obtain rfl : u = a := (t_eq (by omega) (by omega)).mp (e.symm.trans a2)
      rw [hu4] at a5; exact absurd a5 (by decide)
  have h2' : M2 I A R' B v nv nr nn' := fun n hn => by
    rcases Nat.lt_or_ge n nn with q | q
    · obtain ⟨c1, c2⟩ := h2 n q
      have n1 : NdS I A (up2 R0 344 u 1) B v nv nr n := ((M2_c h2 hnv (R' := up2 R0 344 u 1) (fun j m q1 q2 => rm j m q1 (by omega)) (fun m q => by
        by_cases e : m = u
        · rw [e, up2_s]
        · rw [up2_k e, hR05 _ _ (by decide)]; exact q)) n q).1
      refine ⟨(NdS_fr n1 g7 q hnv).1, ?_⟩
      rw [odn n q, o1 342 n (by omega) q]
      rcases c2 with c2 | ⟨a, ⟨a1, a2⟩, a3, a4, a5⟩
      · exact Or.inl c2
      · have d6 := (nd_b hP c1).1
        refine Or.inr ⟨a, ⟨a1, by rw [o1 342 n (by omega) q]; exact a2⟩, by rw [odn a (by omega)]; exact a3, fun i hi => ?_, ?_⟩
        · rw [odn a (by omega)] at hi
          rw [own n i q (by omega), own a i (by omega) (by omega)]
          exact a4 i hi
        · by_cases e : a = u
          · rw [e]; exact o4u
          · rw [o4 a (by omega) e]; exact a5
    · obtain ⟨c0, c1, c2, c3, c4, c5, c6, c7⟩ := new n q hn
      refine ⟨c1, Or.inr ⟨u, ⟨by omega, c4⟩, by rw [odn u hun]; exact c2, fun i hi => ?_, o4u⟩⟩
      rw [odn u hun] at hi
      rw [c3 i hi, own u i hun (by omega)]
  have bel : ∀ x, nn ≤ x → x < nn' → Lt R' u x := fun x q1 q2 => by
    obtain ⟨c0, c1, c2, c3, _⟩ := new x q1 q2
    exact nd_ch hP' hv c1 (h2' u (by omega)).1 (by rw [odn u hun]; exact c2) (fun i hi => by rw [odn u hun] at hi; rw [c3 i hi, own u i hun (by omega)])
  refine ⟨J', R', nn', g1, ⟨hP', hv, z1, z5, g2, g3, ?_, ⟨by omega, by omega⟩, ht, h2', ?_, ⟨?_, ?_⟩, ⟨?_, ?_⟩, ?_, ⟨?_, ?_⟩, ⟨?_, ?_, ?_⟩⟩, fun k hk => by rw [g6 k (by omega), hJ0 k (by omega)], odn, o46, g4⟩
  · rw [g6 31 (by omega), hJ0 31 (by omega)]; exact j3
  · intro n hn
    rcases Nat.lt_or_ge n nn with q | q
    · obtain ⟨a1, a2, a3, a4⟩ := h3 n q
      rw [o1 343 n (by omega) q, o1 345 n (by omega) q]
      by_cases e : n = u
      · subst e
        rw [o4u]
        refine ⟨Or.inr rfl, a2, fun _ => rfl, fun r => ?_⟩
        rw [hu3] at r; exact absurd r (t_m9 (by omega))
      · rw [o4 n q e]; exact ⟨a1, a2, a3, a4⟩
    · obtain ⟨c0, c1, c2, c3, c4, c5, c6, c7⟩ := new n q hn
      rw [c6, c7]
      exact ⟨Or.inl rfl, Or.inl rfl, fun r => absurd r (by decide), fun _ => rfl⟩
  · intro n hn hd hdn x hx hl
    rcases Nat.lt_or_ge n nn with q | q
    · rw [odn n q] at hdn hx hl ⊢
      have d6 := hdn
      have ewc : ∀ i, i < dn R n + 1 → wx (wn R' n) (dn R n) x i = wx (wn R n) (dn R n) x i := fun i hi => by
        unfold wx
        by_cases e : i = dn R n
        · rw [if_pos e, if_pos e]
        · rw [if_neg e, if_neg e, own n i q (by omega)]
      rw [lkw_c ewc] at hl
      by_cases e : n = u
      · subst e
        rcases g8 with ⟨r, _⟩ | ⟨_, _, f, _⟩
        · omega
        · obtain ⟨m, m1, m2, m3⟩ := f x hx hl
          exact ⟨m, m2, (new m m1 m2).2.2.2.2.1, m3⟩
      · rw [o4 n q e] at hd
        obtain ⟨m, m1, m2, m3⟩ := h4.1 n q hd hdn x hx hl
        exact ⟨m, by omega, by rw [o1 342 m (by omega) m1]; exact m2, by rw [own m _ m1 (by omega)]; exact m3⟩
    · have := (new n q hn).2.2.2.2.2.2.1
      rw [this] at hd; exact absurd hd (by decide)
  · intro n m m' hn hm hm' e1 e2 e3
    have cas : ∀ k, k < nn' → R' 342 k = nI n → (k < nn ∧ R 342 k = nI n ∧ n < nn ∧ n ≠ u) ∨ (nn ≤ k ∧ n = u) := fun k hk e => by
      rcases Nat.lt_or_ge k nn with q | q
      · rw [o1 342 k (by omega) q] at e
        refine Or.inl ⟨q, e, ?_, fun r => nochild k q (by rw [e, r])⟩
        rcases (h2 k q).2 with ⟨_, _, f⟩ | ⟨a, ⟨a1, a2⟩, _⟩
        · rw [e] at f; exact absurd f (t_m9 (by omega))
        · obtain rfl : n = a := (t_eq (by omega) (by omega)).mp (e.symm.trans a2)
          omega
      · have := (new k q hk).2.2.2.2.1
        exact Or.inr ⟨q, (t_eq (by omega) (by omega)).mp (e.symm.trans this)⟩
    rcases cas m hm e1 with ⟨a1, a2, a3, a4⟩ | ⟨a1, a2⟩
    · rcases cas m' hm' e2 with ⟨b1, b2, b3, b4⟩ | ⟨b1, b2⟩
      · have d6 := (nd_b hP (h2 m a1).1).1
        have dle : dn R n < 6 := by
          rcases (h2 m a1).2 with ⟨_, _, f⟩ | ⟨a, ⟨c1, c2⟩, c3, _⟩
          · rw [a2] at f; exact absurd f (t_m9 (by omega))
          · obtain rfl : n = a := (t_eq (by omega) (by omega)).mp (a2.symm.trans c2)
            omega
        rw [odn n a3, own m _ a1 dle, own m' _ b1 dle] at e3
        exact h4.2 n m m' a3 a1 b1 a2 b2 e3
      · exact absurd b2 a4
    · subst a2
      rcases cas m' hm' e2 with ⟨b1, b2, b3, b4⟩ | ⟨b1, b2⟩
      · exact absurd rfl b4
      · rcases g8 with ⟨_, r⟩ | ⟨_, _, _, f⟩
        · omega
        · rw [odn n hun] at e3
          exact f m m' a1 hm b1 hm' e3
  · intro n hn
    rcases Nat.lt_or_ge n nn with q | q
    · rw [o1 343 n (by omega) q]
      by_cases e : n = u
      · subst e; exact Or.inr ⟨tn % z, hcz, hu3, Or.inl o4u⟩
      · rw [o4 n q e]
        rcases h5.1 n q with f | ⟨h', f1, f2, f3⟩
        · exact Or.inl f
        · refine Or.inr ⟨h', f1, f2, ?_⟩
          rcases f3 with f3 | f3
          · exact Or.inl f3
          · refine Or.inr ?_
            rw [o37 h' (fun r => by rw [r, hu] at f3; exact e ((t_eq (by omega) (by omega)).mp f3.symm))]
            exact f3
    · exact Or.inl (new n q hn).2.2.2.2.2.1
  · intro h hh
    refine ⟨by rw [o35]; exact (h5.2 h hh).1, ?_⟩
    by_cases q : h = tn % z
    · rw [q]; exact Or.inl o37c
    · rw [o37 h q]
      rcases (h5.2 h hh).2 with f | ⟨n, f1, f2, f3, f4⟩
      · exact Or.inl f
      · have hne : n ≠ u := fun r => by rw [r, hu3] at f3; exact q ((t_eq (by omega) (by omega)).mp f3).symm
        exact Or.inr ⟨n, by omega, f2, by rw [o1 343 n (by omega) f1]; exact f3, by rw [o4 n f1 hne]; exact f4⟩
  · intro n hn hd
    have cx : ∀ k, cnt (pkb R' k) nn' = cnt (pkb R' k) nn := fun k => by
      obtain ⟨e, he⟩ : ∃ e, nn' = nn + e := ⟨nn' - nn, by omega⟩
      rw [he]
      exact cnt_x nn e (fun i q1 q2 => by unfold pkb; rw [(new i q1 (by omega)).2.2.2.2.2.1]; simp)
    rw [cx]
    rcases Nat.lt_or_ge n nn with q | q
    · have hne : n ≠ u := fun r => by rw [r, o4u] at hd; exact absurd hd (by decide)
      rw [o4 n q hne] at hd
      have ec : cnt (pkb R' n) nn = cnt (pkb R n) nn := cnt_c nn (fun i hi => by unfold pkb; rw [o1 343 i (by omega) hi, qltO n i q hi])
      rw [ec, odn n q, o1 343 n (by omega) q]
      refine ⟨(h6 n q hd).1, fun h hh e => ?_⟩
      have hne2 : h ≠ tn % z := fun r => by
        rcases h5.1 n q with f | ⟨h', f1, f2, f3⟩
        · rw [e] at f; exact absurd f (t_m9 (by omega))
        · obtain rfl : h = h' := (t_eq (by omega) (by omega)).mp (e.symm.trans f2)
          rcases f3 with f3 | f3
          · rw [hd] at f3; exact absurd f3 (by decide)
          · rw [r, hu] at f3; exact hne ((t_eq (by omega) (by omega)).mp f3.symm)
      rw [el_s z1 z5 hh hne2]
      have := (h6 n q hd).2 h hh e
      omega
    · obtain ⟨c0, c1, c2, c3, c4, c5, c6, c7⟩ := new n q hn
      rw [c2, c5]
      refine ⟨fun _ => ?_, fun h hh e => absurd e.symm (t_m9 (by omega))⟩
      have hle : cnt (pkb R' n) nn ≤ cnt (pkb R u) nn := cnt_le nn (fun i hi b => by
        unfold pkb at b ⊢
        rw [Bool.and_eq_true] at b ⊢
        rw [o1 343 i (by omega) hi] at b
        refine ⟨b.1, qlt_i.mpr ((ltO u i hun hi).mp (Lt_tr (bel n q hn) (qlt_i.mp b.2)))⟩)
      have hu6 := (h6 u hun hu4).2 (tn % z) hcz hu3
      have he : el tn z (tn % z) < z := Nat.mod_lt _ (by omega)
      by_cases d0 : dn R u = 0
      · have hu0 : u = 0 := by
          rcases (h2 u hun).2 with ⟨r, _⟩ | ⟨a, _, r, _⟩ <;> omega
        have h1 : nn = 1 := by
          rcases Nat.lt_or_ge 1 nn with r | r
          · rcases (h2 1 r).2 with ⟨e, _⟩ | ⟨a, ⟨a1, a2⟩, _⟩
            · omega
            · exact absurd (show R 342 1 = nI u by rw [a2, show a = u by omega]) (nochild 1 r)
          · omega
        have h0 : cnt (pkb R u) nn = 0 := by
          rw [h1, hu0]
          have : pkb R 0 0 = false := by
            unfold pkb
            have f1 : qlt R 0 0 = false := by
              cases e0 : qlt R 0 0 with
              | false => rfl
              | true => exact absurd (qlt_i.mp e0) Lt_ir
            rw [f1, Bool.and_false]
          show cnt (pkb R 0) 0 + _ = 0
          rw [this]
          rfl
        omega
      · omega
  · obtain ⟨e, he⟩ : ∃ e, nn' = nn + e := ⟨nn' - nn, by omega⟩
    rw [he, cnt_x nn e (fun i q1 q2 => by unfold dnb; rw [(new i q1 (by omega)).2.2.2.2.2.2.1]; decide)]
    rw [cnt_s (P := dnb R) (Q := dnb R') nn hun (fun i hi hne => by unfold dnb; rw [o4 i hi hne]) (by unfold dnb; rw [hu4]; decide) (by unfold dnb; rw [o4u]; decide), h7.1]
  · obtain ⟨e, he⟩ : ∃ e, nn' = nn + e := ⟨nn' - nn, by omega⟩
    rw [he, cnt_x nn e (fun i q1 q2 => by unfold tkb; rw [(new i q1 (by omega)).2.2.2.2.2.2.2]; decide)]
    rw [cnt_c (P := tkb R') (Q := tkb R) nn (fun i hi => by unfold tkb; rw [o1 345 i (by omega) hi])]
    exact h7.2
  · intro k hk
    obtain ⟨m, m1, m2, m3, m4, m5⟩ := h8.1 k hk
    have notu : ∀ j, j < tk → R 346 j ≠ nI u := fun j hj e => by
      obtain ⟨y, y1, y2, y3, _⟩ := h8.1 j hj
      obtain rfl : u = y := (t_eq (by omega) (by omega)).mp (e.symm.trans y2)
      have := (h3 u hun).2.2.1 y3
      rw [hu4] at this; exact absurd this (by decide)
    have rch : ∀ x, x < nn' → Rch R' k x → x < nn ∧ Rch R k x := fun x hx r => by
      rcases r with r | ⟨a, j, r1, r2, r3⟩
      · exact ⟨by omega, Or.inl r⟩
      · rw [o46] at r3
        rcases Nat.lt_or_ge x nn with q | q
        · rw [o1 342 x (by omega) q] at r1
          exact ⟨q, Or.inr ⟨a, j, r1, r2, r3⟩⟩
        · rw [(new x q hx).2.2.2.2.1] at r1
          exact absurd (r3.trans r1.symm) (notu j (by omega))
    refine ⟨m, by omega, by rw [o46]; exact m2, by rw [o1 345 m (by omega) m1]; exact m3, ?_, fun x hx r hn => ?_⟩
    · rcases m4 with r | ⟨a, j, r1, r2, r3⟩
      · exact Or.inl r
      · exact Or.inr ⟨a, j, by rw [o1 342 m (by omega) m1]; exact r1, r2, by rw [o46]; exact r3⟩
    · obtain ⟨x1, x2⟩ := rch x hx r
      rcases m5 x x1 x2 (fun j hj => by have := hn j hj; rw [o46] at this; exact this) with e | e
      · exact Or.inl e
      · exact Or.inr ((ltO m x m1 x1).mpr e)
  · intro m hm e
    rcases Nat.lt_or_ge m nn with q | q
    · rw [o1 345 m (by omega) q] at e
      obtain ⟨k, k1, k2⟩ := h8.2.1 m q e
      exact ⟨k, k1, by rw [o46]; exact k2⟩
    · rw [(new m q hm).2.2.2.2.2.2.2] at e; exact absurd e (by decide)
  · intro k k' hk hk' e
    rw [o46, o46] at e
    exact h8.2.2 k k' hk hk' e
/-- the walk takes its next node -/
theorem takes (hM : MV I A J R p B v nv nr nn dd tk tn z) (hx : nxw R nn = some m) (hd : R 344 m = 1) (ht : tk < 250) : f_X7_takes J R (nI m) = some (up2 J 318 31 (nI (tk + 1)), up2 (up2 R 345 m 1) 346 tk (nI m)) ∧ MV I A (up2 J 318 31 (nI (tk + 1))) (up2 (up2 R 345 m 1) 346 tk (nI m)) p B v nv nr nn dd (tk + 1) tn z := by
  obtain ⟨hP, hv, z1, z5, j1, j2, j3, hnn, ht2, h2, h3, h4, h5, h6, h7, h8⟩ := hM
  have hnn2 : nn < 2000 := by omega
  obtain ⟨m1, m2, m3, m4⟩ := nx_l h2 hP hv h3 h4 hx hnn2
  have nar1 : vp_nar .boolean 1 = 1 := by decide
  refine ⟨?_, ?_⟩
  · unfold f_X7_takes
    simp (disch := omega) only [gd_in, t_cl, bd, nar1, j3, nI_1]
  obtain ⟨R', eR⟩ : ∃ w, w = up2 (up2 R 345 m 1) 346 tk (nI m) := ⟨_, rfl⟩
  rw [← eR]
  have hR : ∀ j x, j ≠ 345 → j ≠ 346 → R' j x = R j x := fun j x q1 q2 => by rw [eR, up2_j q2, up2_j q1]
  have r45 : ∀ x, x ≠ m → R' 345 x = R 345 x := fun x q => by rw [eR, up2_j (by decide), up2_k q]
  have r45m : R' 345 m = 1 := by rw [eR, up2_j (by decide), up2_s]
  have r46 : ∀ k, k ≠ tk → R' 346 k = R 346 k := fun k q => by rw [eR, up2_k q, up2_j (by decide)]
  have r46t : R' 346 tk = nI m := by rw [eR, up2_s]
  have hR5 : ∀ j x, 338 ≤ j → j ≤ 342 → R' j x = R j x := fun j x q1 q2 => hR j x (by omega) (by omega)
  have notin : ∀ j, j < tk → R 346 j ≠ nI m := fun j hj e => by
    obtain ⟨y, y1, y2, y3, _⟩ := h8.1 j hj
    obtain rfl : m = y := (t_eq (by omega) (by omega)).mp (e.symm.trans y2)
    rw [m2] at y3; exact absurd y3 (by decide)
  have rch : ∀ k x, k ≤ tk → (Rch R' k x ↔ Rch R k x) := fun k x hk => by
    unfold Rch
    constructor
    · rintro (r | ⟨a, j, r1, r2, r3⟩)
      · exact Or.inl r
      · exact Or.inr ⟨a, j, by rw [← hR 342 x (by decide) (by decide)]; exact r1, r2, by rw [← r46 j (by omega)]; exact r3⟩
    · rintro (r | ⟨a, j, r1, r2, r3⟩)
      · exact Or.inl r
      · exact Or.inr ⟨a, j, by rw [hR 342 x (by decide) (by decide)]; exact r1, r2, by rw [r46 j (by omega)]; exact r3⟩
  refine ⟨TPr_of hP (fun _ _ _ _ => rfl) (fun _ _ _ _ => rfl) (fun j x q1 q2 => hR j x (by omega) (by omega)), hv, z1, z5, by rw [up2_k (by decide)]; exact j1, by rw [up2_k (by decide)]; exact j2, up2_s _ _ _ _, hnn, by omega, M2_c h2 hP.2.2.1.1 hR5 (fun x q => by rw [hR _ _ (by decide) (by decide)]; exact q), fun n hn => ?_, M4_c h4 hR5 (fun x => hR _ _ (by decide) (by decide)), ?_, ?_, ⟨?_, ?_⟩, ⟨?_, ?_, ?_⟩⟩
  · rw [hR 344 n (by decide) (by decide), hR 343 n (by decide) (by decide)]
    obtain ⟨a1, a2, a3, a4⟩ := h3 n hn
    by_cases e : n = m
    · subst e; rw [r45m]; exact ⟨a1, Or.inr rfl, fun _ => hd, a4⟩
    · rw [r45 n e]; exact ⟨a1, a2, a3, a4⟩
  · unfold M5; simp only [fun x => hR 343 x (by decide) (by decide), fun x => hR 344 x (by decide) (by decide), fun x => hR 337 x (by decide) (by decide), fun x => hR 335 x (by decide) (by decide)]; exact h5
  · intro n hn hq
    rw [hR _ _ (by decide) (by decide)] at hq
    have ec : cnt (pkb R' n) nn = cnt (pkb R n) nn := cnt_c nn (fun i _ => by unfold pkb; rw [hR 343 _ (by decide) (by decide), qlt_fr hR5])
    have ed : dn R' n = dn R n := by unfold dn; rw [hR _ _ (by decide) (by decide)]
    rw [ec, ed, hR 343 _ (by decide) (by decide)]
    exact h6 n hn hq
  · rw [cnt_c (P := dnb R') (Q := dnb R) nn (fun i hi => by unfold dnb; rw [hR _ _ (by decide) (by decide)])]; exact h7.1
  · rw [cnt_s (P := tkb R) (Q := tkb R') nn m1 (fun i hi hne => by unfold tkb; rw [r45 i hne]) (by unfold tkb; rw [m2]; decide) (by unfold tkb; rw [r45m]; decide), h7.2]
  · intro k hk
    by_cases e : k = tk
    · subst e
      refine ⟨m, m1, r46t, r45m, (rch k m (Nat.le_refl _)).mpr ?_, fun x hx r hn => ?_⟩
      · rcases m3 with q | ⟨a, a1, a2, a3⟩
        · rcases (h2 m m1).2 with ⟨r, _⟩ | ⟨a, ⟨b1, b2⟩, _⟩
          · exact Or.inl r
          · rw [b2] at q; exact absurd q (t_m9 (by omega))
        · obtain ⟨j, j1, j2⟩ := h8.2.1 a a1 a3
          exact Or.inr ⟨a, j, a2, j1, j2⟩
      · have r := (rch k x (Nat.le_refl _)).mp r
        have nt : R 345 x = 0 := by
          rcases (h3 x hx).2.1 with q | q
          · exact q
          · obtain ⟨j, j1, j2⟩ := h8.2.1 x hx q
            have := hn j j1
            rw [r46 j (by omega)] at this
            exact absurd j2 this
        rcases m4 x hx nt with q | q
        · exact Or.inl q
        · exact Or.inr ((Lt_fr hR5).mpr q)
    · obtain ⟨y, y1, y2, y3, y4, y5⟩ := h8.1 k (by omega)
      refine ⟨y, y1, by rw [r46 k e]; exact y2, ?_, (rch k y (by omega)).mpr y4, fun x hx r hn => ?_⟩
      · by_cases q : y = m
        · rw [q]; exact r45m
        · rw [r45 y q]; exact y3
      · rcases y5 x hx ((rch k x (by omega)).mp r) (fun j hj => by have := hn j hj; rw [r46 j (by omega)] at this; exact this) with q | q
        · exact Or.inl q
        · exact Or.inr ((Lt_fr hR5).mpr q)
  · intro x hx e
    by_cases q : x = m
    · subst q; exact ⟨tk, by omega, r46t⟩
    · rw [r45 x q] at e
      obtain ⟨k, k1, k2⟩ := h8.2.1 x hx e
      exact ⟨k, by omega, by rw [r46 k (by omega)]; exact k2⟩
  · intro k k' hk hk' e
    by_cases q : k = tk
    · by_cases q' : k' = tk
      · omega
      · rw [q, r46t, r46 k' q'] at e; exact absurd e.symm (notin k' (by omega))
    · by_cases q' : k' = tk
      · rw [q', r46t, r46 k q] at e; exact absurd e (notin k (by omega))
      · rw [r46 k q, r46 k' q'] at e; exact h8.2.2 k k' (by omega) (by omega) e
end FI
