/-! part 83.walked -/
/-! THE TIE: the walk, as it is told -/
section CE
variable {I A : Nat → Nat → Int32} {G : Nat → Nat → Nat} {L : Nat → Nat → Int64} {J R : Nat → Nat → Int32} {n : Nat}
theorem t_oB {T B nv i c d : Nat} (hT : T = 22 ∨ T = 34) (hG : G T 14 = B) (hB : PrAt B) (hc : c < 1711) (hd : A (T + 2) c = nI d) (hd6 : d ≤ 6) (hnv : nv ≤ 6) (h : (A (T + 7) c = -1 ∧ R 359 i = 0 ∧ R 358 i = 0) ∨ ∃ f s, A (T + 7) c = nI f ∧ s ≤ 6 ∧ f + s ≤ 1711 ∧ d < nv ∧ A (B + 1) d = nI s ∧ R 359 i = nI s ∧ R 358 i = sm (fun y => if A (T + 3) (f + y) = 0 then 1 else 0) s 0 0 ∧ ∀ y, y < s → A (T + 3) (f + y) = R 360 (6 * i + y) ∧ A (T + 4) (f + y) = R 361 (6 * i + y)) : f_X5_openBelow G A T (nI c) = some (R 358 i) := by
  have hTr : TrAt T := by unfold TrAt; omega
  have hl : lT T = 1711 := by unfold lT; rw [if_pos (by omega)]
  have ec : (nI c).toNatClampNeg = c := t_cl (by omega)
  unfold f_X5_openBelow
  rcases h with ⟨h1, h2, h3⟩ | ⟨f, s, h1, h2, h3, h4, h5, h6, h7, h8⟩
  · have ew : wdo G A T c = 0 := by unfold wdo; rw [if_pos h1]
    have hp : pre_X5_openBelow G A T (nI c) := by
      unfold pre_X5_openBelow
      rw [ec, ew, hG]
      exact ⟨hTr, by omega, hB, by omega, Or.inl ⟨h1, rfl⟩, rfl⟩
    unfold gd
    rw [if_pos hp, ec, ew, h3]
    rfl
  · have ef : (nI f).toNatClampNeg = f := t_cl (by omega)
    have ed : (nI d).toNatClampNeg = d := t_cl (by omega)
    have ew : wdo G A T c = s := by unfold wdo; rw [if_neg (by rw [h1]; exact t_m1 (by omega)), hG, hd, ed, h5, t_cl (by omega)]
    have hp : pre_X5_openBelow G A T (nI c) := by
      unfold pre_X5_openBelow
      rw [ec, ew, hG, h1, ef]
      exact ⟨hTr, by omega, hB, by omega, Or.inr ⟨by rw [h1]; exact t_m1 (by omega), h1, by omega, by rw [hd]; exact nI_in (by omega) (by omega), by rw [hd, ed]; exact h5⟩, rfl⟩
    unfold gd
    rw [if_pos hp, ec, ew, h1, ef, h7]
theorem k_walked (a1 a2 : Int32) (h : Rel n I G A L J R) : ∃ r J', f_X6_walked I G A L a1 a2 = some r ∧ f_X7_walked J R a1 a2 = some (r, J') ∧ Rel (n + 1) I G A L J' R := by
  have hr := Rel_J0 h
  obtain ⟨np, z, sc, q1, q2, q3, ⟨T, B, wk, nv, b1, b2, b3, b4, b5, b6, b7, b8, b9, b10⟩, _⟩ := id h
  have hT : TrAt T := by unfold TrAt; omega
  have hl : lT T = 1711 := by unfold lT; rw [if_pos (by omega)]
  obtain ⟨g0, g1, g2, g3, g4, g5, g6, g7, g8, g9, g10, g11⟩ := tgd hT
  obtain ⟨l1, l2, l3, l4, l5, l6, l7, l8, l9, _⟩ := tr_l hT
  have e48 : up2 J 318 0 0 318 48 = nI wk := (up0 (by decide)).trans b6
  unfold f_X6_walked f_X7_walked
  simp only [bd, e48, b1, b5, gd_t g0, (t_wi _ _ _).1, (t_wi _ _ _).2, Option.bind_some]
  rcases t_rng (a := a2) (hi := 9) (by omega) with ⟨x, hx, rfl⟩ | hc
  · rw [if_pos (show ¬ nI x < 0 ∧ ¬ 9 < nI x from t_rng1 (hi := 9) (by omega) hx), if_neg z10, if_neg z10]
    rcases t_ix (a := a1) (m := wk) (by omega) with ⟨i, i1, rfl, i3, i4, i5⟩ | ⟨h1, h2⟩
    · rw [if_pos i3, if_neg z10, if_neg z10]
      obtain ⟨c, d, c1, c2, c3, c4, c5, c6, c7, c8, c9, c10⟩ := b10 i i1
      have hoB := t_oB (i := i) b2 b3 b4 c1 c4 c3 b9 c10
      have hx10 : x = 0 ∨ x = 1 ∨ x = 2 ∨ x = 3 ∨ x = 4 ∨ x = 5 ∨ x = 6 ∨ x = 7 ∨ x = 8 ∨ x = 9 := by omega
      rcases hx10 with rfl | rfl | rfl | rfl | rfl | rfl | rfl | rfl | rfl | rfl
      · simp only [eq_true (show nI 0 = (0 : Int32) from rfl), eq_false (show ¬ nI 0 = (1 : Int32) by decide), eq_false (show ¬ nI 0 = (2 : Int32) by decide), eq_false (show ¬ nI 0 = (3 : Int32) by decide), eq_false (show ¬ nI 0 = (4 : Int32) by decide), eq_false (show ¬ nI 0 = (5 : Int32) by decide), eq_false (show ¬ nI 0 = (6 : Int32) by decide), eq_false (show ¬ nI 0 = (7 : Int32) by decide), eq_false (show ¬ nI 0 = (8 : Int32) by decide), eq_false (show ¬ nI 0 = (9 : Int32) by decide), eq_true (show nI 0 < (7 : Int32) by decide), if_true, if_false]
        simp (disch := omega) only [gd_t g9, gd_t g2, gd_t g6, l9, l2, l6, hl, gd_in, t_cl, c2, c4, m6, t_vOf hT, t_bOf hT, hoB, Option.bind_some, c5, c8, c9]
        exact ⟨_, _, rfl, rfl, hr⟩
      · simp only [eq_false (show ¬ nI 1 = (0 : Int32) by decide), eq_true (show nI 1 = (1 : Int32) from rfl), eq_false (show ¬ nI 1 = (2 : Int32) by decide), eq_false (show ¬ nI 1 = (3 : Int32) by decide), eq_false (show ¬ nI 1 = (4 : Int32) by decide), eq_false (show ¬ nI 1 = (5 : Int32) by decide), eq_false (show ¬ nI 1 = (6 : Int32) by decide), eq_false (show ¬ nI 1 = (7 : Int32) by decide), eq_false (show ¬ nI 1 = (8 : Int32) by decide), eq_false (show ¬ nI 1 = (9 : Int32) by decide), eq_true (show nI 1 < (7 : Int32) by decide), if_true, if_false]
        simp (disch := omega) only [gd_t g9, gd_t g2, gd_t g6, l9, l2, l6, hl, gd_in, t_cl, c2, c4, m6, t_vOf hT, t_bOf hT, hoB, Option.bind_some, c5, c8, c9]
        have e1 : nI (6 * i + 1) - 1 = nI (6 * i + 0) := nI_pred (6 * i + 0)
        have e2 : nI 1 - 1 = nI 0 := nI_pred 0
        simp (disch := omega) only [e1, e2, gd_in, t_cl, t_vOf hT, hl, Option.bind_some]
        by_cases hd : d < 1
        · rw [if_pos (nI_lt hd (by omega)), c7 0 (by omega) (by omega)]
          exact ⟨_, _, rfl, rfl, hr⟩
        · rw [if_neg (nI_nlt (by omega) (by omega)), c6 0 (by omega)]
          exact ⟨_, _, rfl, rfl, hr⟩
      · simp only [eq_false (show ¬ nI 2 = (0 : Int32) by decide), eq_false (show ¬ nI 2 = (1 : Int32) by decide), eq_true (show nI 2 = (2 : Int32) from rfl), eq_false (show ¬ nI 2 = (3 : Int32) by decide), eq_false (show ¬ nI 2 = (4 : Int32) by decide), eq_false (show ¬ nI 2 = (5 : Int32) by decide), eq_false (show ¬ nI 2 = (6 : Int32) by decide), eq_false (show ¬ nI 2 = (7 : Int32) by decide), eq_false (show ¬ nI 2 = (8 : Int32) by decide), eq_false (show ¬ nI 2 = (9 : Int32) by decide), eq_true (show nI 2 < (7 : Int32) by decide), if_true, if_false]
        simp (disch := omega) only [gd_t g9, gd_t g2, gd_t g6, l9, l2, l6, hl, gd_in, t_cl, c2, c4, m6, t_vOf hT, t_bOf hT, hoB, Option.bind_some, c5, c8, c9]
        have e1 : nI (6 * i + 2) - 1 = nI (6 * i + 1) := nI_pred (6 * i + 1)
        have e2 : nI 2 - 1 = nI 1 := nI_pred 1
        simp (disch := omega) only [e1, e2, gd_in, t_cl, t_vOf hT, hl, Option.bind_some]
        by_cases hd : d < 2
        · rw [if_pos (nI_lt hd (by omega)), c7 1 (by omega) (by omega)]
          exact ⟨_, _, rfl, rfl, hr⟩
        · rw [if_neg (nI_nlt (by omega) (by omega)), c6 1 (by omega)]
          exact ⟨_, _, rfl, rfl, hr⟩
      · simp only [eq_false (show ¬ nI 3 = (0 : Int32) by decide), eq_false (show ¬ nI 3 = (1 : Int32) by decide), eq_false (show ¬ nI 3 = (2 : Int32) by decide), eq_true (show nI 3 = (3 : Int32) from rfl), eq_false (show ¬ nI 3 = (4 : Int32) by decide), eq_false (show ¬ nI 3 = (5 : Int32) by decide), eq_false (show ¬ nI 3 = (6 : Int32) by decide), eq_false (show ¬ nI 3 = (7 : Int32) by decide), eq_false (show ¬ nI 3 = (8 : Int32) by decide), eq_false (show ¬ nI 3 = (9 : Int32) by decide), eq_true (show nI 3 < (7 : Int32) by decide), if_true, if_false]
        simp (disch := omega) only [gd_t g9, gd_t g2, gd_t g6, l9, l2, l6, hl, gd_in, t_cl, c2, c4, m6, t_vOf hT, t_bOf hT, hoB, Option.bind_some, c5, c8, c9]
        have e1 : nI (6 * i + 3) - 1 = nI (6 * i + 2) := nI_pred (6 * i + 2)
        have e2 : nI 3 - 1 = nI 2 := nI_pred 2
        simp (disch := omega) only [e1, e2, gd_in, t_cl, t_vOf hT, hl, Option.bind_some]
        by_cases hd : d < 3
        · rw [if_pos (nI_lt hd (by omega)), c7 2 (by omega) (by omega)]
          exact ⟨_, _, rfl, rfl, hr⟩
        · rw [if_neg (nI_nlt (by omega) (by omega)), c6 2 (by omega)]
          exact ⟨_, _, rfl, rfl, hr⟩
      · simp only [eq_false (show ¬ nI 4 = (0 : Int32) by decide), eq_false (show ¬ nI 4 = (1 : Int32) by decide), eq_false (show ¬ nI 4 = (2 : Int32) by decide), eq_false (show ¬ nI 4 = (3 : Int32) by decide), eq_true (show nI 4 = (4 : Int32) from rfl), eq_false (show ¬ nI 4 = (5 : Int32) by decide), eq_false (show ¬ nI 4 = (6 : Int32) by decide), eq_false (show ¬ nI 4 = (7 : Int32) by decide), eq_false (show ¬ nI 4 = (8 : Int32) by decide), eq_false (show ¬ nI 4 = (9 : Int32) by decide), eq_true (show nI 4 < (7 : Int32) by decide), if_true, if_false]
        simp (disch := omega) only [gd_t g9, gd_t g2, gd_t g6, l9, l2, l6, hl, gd_in, t_cl, c2, c4, m6, t_vOf hT, t_bOf hT, hoB, Option.bind_some, c5, c8, c9]
        have e1 : nI (6 * i + 4) - 1 = nI (6 * i + 3) := nI_pred (6 * i + 3)
        have e2 : nI 4 - 1 = nI 3 := nI_pred 3
        simp (disch := omega) only [e1, e2, gd_in, t_cl, t_vOf hT, hl, Option.bind_some]
        by_cases hd : d < 4
        · rw [if_pos (nI_lt hd (by omega)), c7 3 (by omega) (by omega)]
          exact ⟨_, _, rfl, rfl, hr⟩
        · rw [if_neg (nI_nlt (by omega) (by omega)), c6 3 (by omega)]
          exact ⟨_, _, rfl, rfl, hr⟩
      · simp only [eq_false (show ¬ nI 5 = (0 : Int32) by decide), eq_false (show ¬ nI 5 = (1 : Int32) by decide), eq_false (show ¬ nI 5 = (2 : Int32) by decide), eq_false (show ¬ nI 5 = (3 : Int32) by decide), eq_false (show ¬ nI 5 = (4 : Int32) by decide), eq_true (show nI 5 = (5 : Int32) from rfl), eq_false (show ¬ nI 5 = (6 : Int32) by decide), eq_false (show ¬ nI 5 = (7 : Int32) by decide), eq_false (show ¬ nI 5 = (8 : Int32) by decide), eq_false (show ¬ nI 5 = (9 : Int32) by decide), eq_true (show nI 5 < (7 : Int32) by decide), if_true, if_false]
        simp (disch := omega) only [gd_t g9, gd_t g2, gd_t g6, l9, l2, l6, hl, gd_in, t_cl, c2, c4, m6, t_vOf hT, t_bOf hT, hoB, Option.bind_some, c5, c8, c9]
        have e1 : nI (6 * i + 5) - 1 = nI (6 * i + 4) := nI_pred (6 * i + 4)
        have e2 : nI 5 - 1 = nI 4 := nI_pred 4
        simp (disch := omega) only [e1, e2, gd_in, t_cl, t_vOf hT, hl, Option.bind_some]
        by_cases hd : d < 5
        · rw [if_pos (nI_lt hd (by omega)), c7 4 (by omega) (by omega)]
          exact ⟨_, _, rfl, rfl, hr⟩
        · rw [if_neg (nI_nlt (by omega) (by omega)), c6 4 (by omega)]
          exact ⟨_, _, rfl, rfl, hr⟩
      · simp only [eq_false (show ¬ nI 6 = (0 : Int32) by decide), eq_false (show ¬ nI 6 = (1 : Int32) by decide), eq_false (show ¬ nI 6 = (2 : Int32) by decide), eq_false (show ¬ nI 6 = (3 : Int32) by decide), eq_false (show ¬ nI 6 = (4 : Int32) by decide), eq_false (show ¬ nI 6 = (5 : Int32) by decide), eq_true (show nI 6 = (6 : Int32) from rfl), eq_false (show ¬ nI 6 = (7 : Int32) by decide), eq_false (show ¬ nI 6 = (8 : Int32) by decide), eq_false (show ¬ nI 6 = (9 : Int32) by decide), eq_true (show nI 6 < (7 : Int32) by decide), if_true, if_false]
        simp (disch := omega) only [gd_t g9, gd_t g2, gd_t g6, l9, l2, l6, hl, gd_in, t_cl, c2, c4, m6, t_vOf hT, t_bOf hT, hoB, Option.bind_some, c5, c8, c9]
        have e1 : nI (6 * i + 6) - 1 = nI (6 * i + 5) := nI_pred (6 * i + 5)
        have e2 : nI 6 - 1 = nI 5 := nI_pred 5
        simp (disch := omega) only [e1, e2, gd_in, t_cl, t_vOf hT, hl, Option.bind_some]
        by_cases hd : d < 6
        · rw [if_pos (nI_lt hd (by omega)), c7 5 (by omega) (by omega)]
          exact ⟨_, _, rfl, rfl, hr⟩
        · rw [if_neg (nI_nlt (by omega) (by omega)), c6 5 (by omega)]
          exact ⟨_, _, rfl, rfl, hr⟩
      · simp only [eq_false (show ¬ nI 7 = (0 : Int32) by decide), eq_false (show ¬ nI 7 = (1 : Int32) by decide), eq_false (show ¬ nI 7 = (2 : Int32) by decide), eq_false (show ¬ nI 7 = (3 : Int32) by decide), eq_false (show ¬ nI 7 = (4 : Int32) by decide), eq_false (show ¬ nI 7 = (5 : Int32) by decide), eq_false (show ¬ nI 7 = (6 : Int32) by decide), eq_true (show nI 7 = (7 : Int32) from rfl), eq_false (show ¬ nI 7 = (8 : Int32) by decide), eq_false (show ¬ nI 7 = (9 : Int32) by decide), eq_false (show ¬ nI 7 < (7 : Int32) by decide), if_true, if_false]
        simp (disch := omega) only [gd_t g9, gd_t g2, gd_t g6, l9, l2, l6, hl, gd_in, t_cl, c2, c4, m6, t_vOf hT, t_bOf hT, hoB, Option.bind_some, c5, c8, c9]
        exact ⟨_, _, rfl, rfl, hr⟩
      · simp only [eq_false (show ¬ nI 8 = (0 : Int32) by decide), eq_false (show ¬ nI 8 = (1 : Int32) by decide), eq_false (show ¬ nI 8 = (2 : Int32) by decide), eq_false (show ¬ nI 8 = (3 : Int32) by decide), eq_false (show ¬ nI 8 = (4 : Int32) by decide), eq_false (show ¬ nI 8 = (5 : Int32) by decide), eq_false (show ¬ nI 8 = (6 : Int32) by decide), eq_false (show ¬ nI 8 = (7 : Int32) by decide), eq_true (show nI 8 = (8 : Int32) from rfl), eq_false (show ¬ nI 8 = (9 : Int32) by decide), eq_false (show ¬ nI 8 < (7 : Int32) by decide), if_true, if_false]
        simp (disch := omega) only [gd_t g9, gd_t g2, gd_t g6, l9, l2, l6, hl, gd_in, t_cl, c2, c4, m6, t_vOf hT, t_bOf hT, hoB, Option.bind_some, c5, c8, c9]
        exact ⟨_, _, rfl, rfl, hr⟩
      · simp only [eq_false (show ¬ nI 9 = (0 : Int32) by decide), eq_false (show ¬ nI 9 = (1 : Int32) by decide), eq_false (show ¬ nI 9 = (2 : Int32) by decide), eq_false (show ¬ nI 9 = (3 : Int32) by decide), eq_false (show ¬ nI 9 = (4 : Int32) by decide), eq_false (show ¬ nI 9 = (5 : Int32) by decide), eq_false (show ¬ nI 9 = (6 : Int32) by decide), eq_false (show ¬ nI 9 = (7 : Int32) by decide), eq_false (show ¬ nI 9 = (8 : Int32) by decide), eq_true (show nI 9 = (9 : Int32) from rfl), eq_false (show ¬ nI 9 < (7 : Int32) by decide), if_true, if_false]
        simp (disch := omega) only [gd_t g9, gd_t g2, gd_t g6, l9, l2, l6, hl, gd_in, t_cl, c2, c4, m6, t_vOf hT, t_bOf hT, hoB, Option.bind_some, c5, c8, c9]
        exact ⟨_, _, rfl, rfl, hr⟩
    · rw [if_neg h1, if_pos rfl, if_pos rfl]
      exact ⟨_, _, rfl, rfl, hr⟩
  · rw [if_neg (show ¬ (¬ a2 < 0 ∧ ¬ 9 < a2) from hc), if_pos rfl, if_pos rfl]
    exact ⟨_, _, rfl, rfl, hr⟩
theorem k_closed (a1 a2 a3 : Int32) (h : Rel n I G A L J R) : ∃ r J', f_X6_closed I G A a1 a2 a3 = some r ∧ f_X7_closed J R a1 a2 a3 = some (r, J') ∧ Rel (n + 1) I G A L J' R := by
  have hr := Rel_J0 h
  obtain ⟨np, z, sc, q1, q2, q3, ⟨T, B, wk, nv, b1, b2, b3, b4, b5, b6, b7, b8, b9, b10⟩, _⟩ := id h
  have hT : TrAt T := by unfold TrAt; omega
  have hl : lT T = 1711 := by unfold lT; rw [if_pos (by omega)]
  obtain ⟨g0, g1, g2, g3, g4, g5, g6, g7, g8, g9, g10, g11⟩ := tgd hT
  obtain ⟨l1, l2, l3, l4, l5, l6, l7, l8, l9, _⟩ := tr_l hT
  have e48 : up2 J 318 0 0 318 48 = nI wk := (up0 (by decide)).trans b6
  unfold f_X6_closed f_X7_closed f_X5_below f_X5_widthBelow
  simp only [bd, e48, b1, b3, b5, gd_t g0, gd_t g9, gd_t g7, gd_t g2, (t_wi _ _ _).1, (t_wi _ _ _).2, Option.bind_some]
  rcases t_rng (a := a3) (hi := 1) (by omega) with ⟨x, hx, rfl⟩ | hc
  · rw [if_pos (show ¬ nI x < 0 ∧ ¬ 1 < nI x from t_rng1 (hi := 1) (by omega) hx), if_neg z10, if_neg z10]
    rcases t_ix (a := a1) (m := wk) (by omega) with ⟨i, i1, rfl, i3, i4, i5⟩ | ⟨h1, h2⟩
    · rw [if_pos i3, if_neg z10, if_neg z10]
      obtain ⟨c, d, c1, c2, c3, c4, c5, c6, c7, c8, c9, c10⟩ := b10 i i1
      obtain ⟨pB, hpB, eB⟩ := b4
      obtain ⟨gB0, gB1, _, _, _, _, lB1, _⟩ := pq_all pB hpB
      rw [← eB] at gB0 gB1 lB1
      simp (disch := omega) only [l9, l2, l7, hl, gd_in, t_cl, c2, c4]
      rcases c10 with ⟨h1, h2, h3⟩ | ⟨f, s, h1, h2, h3, h4, h5, h6, h7, h8⟩
      · rw [h1, h2, if_pos rfl, Option.bind_some]
        have hz : ¬ (¬ a2 < 0 ∧ ¬ (0 : Int32) - 1 < a2) := by
          rintro ⟨r1, r2⟩
          exact absurd (Int32.le_trans (Int32.not_lt.mp r1) (Int32.not_lt.mp r2)) (by decide)
        rw [if_neg hz, if_pos rfl]
        by_cases h0 : a2 < 0
        · rw [if_pos h0, Option.bind_some, if_pos rfl]
          exact ⟨_, _, rfl, rfl, hr⟩
        · rw [if_neg h0, if_neg h0, Option.bind_some, if_pos rfl]
          exact ⟨_, _, rfl, rfl, hr⟩
      · simp (disch := omega) only [gd_t gB0, gd_t gB1, lB1, gd_in, h1, h5, h6, Option.bind_some, if_neg (show ¬ nI f = -1 from t_m1 (by omega))]
        rcases t_ix (a := a2) (m := s) (by omega) with ⟨y, y1, rfl, y3, y4, y5⟩ | ⟨r1, r2⟩
        · rw [if_pos y3, if_neg z10, if_neg y4, if_pos y5, Option.bind_some, nI_add, if_neg (t_m1 (by omega))]
          simp (disch := omega) only [gd_t g3, gd_t g4, l3, l4, hl, gd_in, t_cl, m6]
          obtain ⟨u1, u2⟩ := h8 y y1
          rw [u1, u2]
          by_cases h0 : nI x = 0
          · rw [if_pos h0, if_pos h0]
            exact ⟨_, _, rfl, rfl, hr⟩
          · rw [if_neg h0, if_neg h0]
            exact ⟨_, _, rfl, rfl, hr⟩
        · rw [if_neg r1, if_pos rfl]
          have hv : (if a2 < 0 then some (-1 : Int32) else if a2 < nI s then some (nI f + a2) else some (-1)) = some (-1) := by
            by_cases h0 : a2 < 0
            · rw [if_pos h0]
            · rw [if_neg h0, if_neg (fun q => r2 ⟨h0, q⟩)]
          rw [hv, Option.bind_some, if_pos rfl]
          exact ⟨_, _, rfl, rfl, hr⟩
    · rw [if_neg h1, if_pos rfl, if_pos rfl]
      exact ⟨_, _, rfl, rfl, hr⟩
  · rw [if_neg (show ¬ (¬ a3 < 0 ∧ ¬ 1 < a3) from hc), if_pos rfl, if_pos rfl]
    exact ⟨_, _, rfl, rfl, hr⟩
end CE

/-! part 84.change -/
/-! THE TIE: calls that change a problem -/
/-- the reference's words of problem q -/
def RPw (q j m : Nat) : Prop := ((j = 319 ∨ j = 320 ∨ j = 329 ∨ j = 351 ∨ j = 352) ∧ m = q) ∨ ((j = 321 ∨ j = 322) ∧ 6 * q ≤ m ∧ m < 6 * q + 6) ∨ (j = 323 ∧ 36 * q ≤ m ∧ m < 36 * q + 36) ∨ ((j = 324 ∨ j = 325 ∨ j = 326) ∧ 8 * q ≤ m ∧ m < 8 * q + 8) ∨ ((j = 327 ∨ j = 328) ∧ 48 * q ≤ m ∧ m < 48 * q + 48)
theorem TPr_of3 {I A R I2 A2 R2 : Nat → Nat → Int32} {p nv nr : Nat} (h : TPr I A R p (58 + 52 * p) nv nr) (hI : ∀ j k, 58 + 52 * p ≤ j → j < 110 + 52 * p → I2 j k = I j k) (hA : ∀ j k, 58 + 52 * p ≤ j → j < 110 + 52 * p → A2 j k = A j k) (hR : ∀ j m, RPw p j m → R2 j m = R j m) : TPr I2 A2 R2 p (58 + 52 * p) nv nr := by
  obtain ⟨hp, hB, hw, h1, h2, h3, h4, h5⟩ := h
  refine ⟨hp, hB, ?_, by rw [hR _ _ (by unfold RPw; omega)]; exact h1, by rw [hR _ _ (by unfold RPw; omega)]; exact h2, fun m hm => by rw [hR _ _ (by unfold RPw; omega), hA _ _ (by omega) (by omega)]; exact h3 m hm, fun x k hx hk => by rw [hR _ _ (by unfold RPw; omega), hA _ _ (by omega) (by omega)]; exact h4 x k hx hk, fun r hr => ?_⟩
  · refine ⟨hw.1, hw.2.1, by rw [hI _ _ (by omega) (by omega)]; exact hw.2.2.1, by rw [hI _ _ (by omega) (by omega)]; exact hw.2.2.2.1, fun x hx => by rw [hA _ _ (by omega) (by omega)]; exact hw.2.2.2.2.1 x hx, fun r hr => ?_⟩
    have e : nP I2 (58 + 52 * p + 12 + 5 * r) = nP I (58 + 52 * p + 12 + 5 * r) := by unfold nP; rw [hI _ _ (by omega) (by omega)]
    rw [e]
    have w := hw.2.2.2.2.2 r hr
    exact ⟨w.1, by rw [hI _ _ (by omega) (by omega)]; exact w.2.1, fun i hi => by rw [hA _ _ (by omega) (by omega)]; exact w.2.2 i hi⟩
  · have e : nP I2 (58 + 52 * p + 12 + 5 * r) = nP I (58 + 52 * p + 12 + 5 * r) := by unfold nP; rw [hI _ _ (by omega) (by omega)]
    obtain ⟨⟨a1, a2, a3, a4⟩, b, c, d, k, k7, ek⟩ := h5 r hr
    unfold TRl
    rw [e]
    refine ⟨⟨by rw [hR _ _ (by unfold RPw; omega), hI _ _ (by omega) (by omega)]; exact a1, by rw [hR _ _ (by unfold RPw; omega), hI _ _ (by omega) (by omega)]; exact a2, by rw [hR _ _ (by unfold RPw; omega), hI _ _ (by omega) (by omega)]; exact a3, fun k hk => by rw [hR _ _ (by unfold RPw; omega), hR _ _ (by unfold RPw; omega), hA _ _ (by omega) (by omega), hA _ _ (by omega) (by omega)]; exact a4 k hk⟩, fun k hk => by rw [hA _ _ (by omega) (by omega)]; exact b k hk, fun i hi => by rw [hA (58 + 52 * p + 1) _ (by omega) (by omega), hA (58 + 52 * p + 12 + 5 * r + 1) _ (by omega) (by omega)]; exact c i hi, fun x hx => ?_, k, k7, by rw [hI _ _ (by omega) (by omega)]; exact ek⟩
    rw [hA _ _ (by omega) (by omega), hA (58 + 52 * p + 12 + 5 * r + 4) _ (by omega) (by omega)]
    rcases d x hx with ⟨d1, d2⟩ | ⟨d1, ⟨k0, d2, d3⟩, d4⟩
    · exact Or.inl ⟨d1, fun k hk => by rw [hA _ _ (by omega) (by omega)]; exact d2 k hk⟩
    · exact Or.inr ⟨d1, ⟨k0, d2, by rw [hA _ _ (by omega) (by omega)]; exact d3⟩, fun k hk => by rw [hA _ _ (by omega) (by omega), hA _ _ (by omega) (by omega)]; exact d4 k hk⟩
section CF
variable {I A : Nat → Nat → Int32} {G : Nat → Nat → Nat} {L : Nat → Nat → Int64} {J R I' A' J' R' : Nat → Nat → Int32} {n : Nat}
/-- one problem is changed -/
theorem Rel_P {p nv' nr' : Nat} (h : Rel n I G A L J R) (hn : n < 1073741000) (hp : p < 5) (hw : I 0 5 = -9)
    (hI : ∀ j k, ¬ (58 + 52 * p ≤ j ∧ j < 110 + 52 * p) → ¬ (j = 0 ∧ k = 17) → I' j k = I j k)
    (hI2 : I' (58 + 52 * p) 2 = I (58 + 52 * p) 2 + 1) (hI3 : I' (58 + 52 * p) 3 = 0)
    (hA : ∀ j m, ¬ (58 + 52 * p ≤ j ∧ j < 110 + 52 * p) → A' j m = A j m)
    (hJ : ∀ k, ¬ (k = 0 ∨ k = 1 ∨ k = 14) → J' 318 k = J 318 k) (hJ14 : J' 318 14 = J 318 14 + 1)
    (hR : ∀ j m, ¬ (319 ≤ j ∧ j ≤ 329 ∨ j = 351 ∨ j = 352) → R' j m = R j m)
    (hR329 : R' 329 p = J 318 14 + 1) (h351 : R' 351 p = 0) (h352 : R' 352 p = 0)
    (hRo : ∀ q j m, q < 5 → q ≠ p → RPw q j m → R' j m = R j m)
    (hs : I' 0 17 = J' 318 1)
    (hT : TPr I' A' R' p (58 + 52 * p) nv' nr') (hK : ∀ v, v < 6 → R' 322 (6 * p + v) = A' (58 + 52 * p + 2) v)
    (hC : ∀ r, r < 8 → npc A' (58 + 52 * p + 12 + 5 * r) = nP I' (58 + 52 * p + 12 + 5 * r))
    (hV : ∀ nv, I (58 + 52 * p) 0 = nI nv → nv ≤ 6 → nv ≤ nv' ∧ ∀ m, m < nv → A' (58 + 52 * p + 1) m = A (58 + 52 * p + 1) m) : Rel (n + 1) I' G A' L J' R' := by
  have hTr := Rel_T h
  obtain ⟨np, z, sc, ⟨p1, p2, p3, p4⟩, q2, q3, q4, ⟨g, c1, c2, c3⟩, q5, q6, q7, q8, q9⟩ := h
  have hnv' := hT.2.2.1.1
  obtain ⟨cc, cc', d1, d2, d3, d4⟩ := c3 p hp
  refine ⟨np, z, sc, ⟨p1, by rw [hI _ _ (by omega) (by omega)]; exact p2, by rw [hJ _ (by omega)]; exact p3, fun q hq => ?_⟩, Q2_of q2 (fun k => hI _ _ (by omega) (by omega)) (hJ _ (by omega)) (hJ _ (by omega)) (fun j m h1 h2 => hA j m (by omega)) (fun j m h1 h2 => hR j m (by omega)), fun q hq => ?_, Q4_of q4 rfl (fun _ _ => rfl) (fun T h => hI _ _ (by omega) (by omega)) (hJ _ (by omega)) (fun T j m h1 h2 h3 => hA j m (by omega)) (fun _ _ _ => rfl) (fun j m h1 h2 => hR j m (by omega)) ?_, ⟨g + 1, by rw [hJ14, c1, nI_1], by omega, fun q hq => ?_⟩, ?_, Q6_of q6 (hJ _ (by omega)) (fun m => hA _ _ (by omega)) (fun m => hR _ _ (by omega)), ⟨hs, by rw [hI _ _ (by omega) (by omega)]; exact q7.2⟩, Q8_u q8 hw (hI _ _ (by omega) (by omega)) (hI _ _ (by omega) (by omega)) (hJ _ (by omega)) (hJ _ (by omega)), fun j x q => by rw [hR _ _ (by omega)]; exact q9 j x q⟩
  · by_cases e : q = p
    · subst e
      exact ⟨⟨nv', nr', hT⟩, hK, hC⟩
    · obtain ⟨⟨nv, nr, hP⟩, f1, f2⟩ := p4 q hq
      refine ⟨⟨nv, nr, TPr_of3 hP (fun j k h1 h2 => hI j k (by omega) (by omega)) (fun j k h1 h2 => hA j k (by omega)) (fun j m => hRo q j m hq e)⟩, fun v hv => by rw [hRo q _ _ hq e (by unfold RPw; omega), hA _ _ (by omega)]; exact f1 v hv, fun r hr => ?_⟩
      unfold npc nP
      rw [hI _ _ (by omega) (by omega)]
      simp only [fun m => hA (58 + 52 * q + 12 + 5 * r + 3) m (by omega)]
      exact f2 r hr
  · by_cases e : q = p
    · subst e
      exact Or.inl ⟨hI3, h351, h352⟩
    · have := q3 q hq
      rw [hI _ _ (by omega) (by omega), hRo q 351 q hq e (by unfold RPw; omega), hRo q 352 q hq e (by unfold RPw; omega)]
      simp only [fun m => hA (58 + 52 * q + 11) m (by omega), fun m => hR 350 m (by omega), fun m => hR 353 m (by omega)]
      exact this
  · intro B nv ⟨q, hq, d⟩ e1 e2
    by_cases e : q = p
    · subst e
      subst d
      obtain ⟨v1, v2⟩ := hV nv e1 e2
      exact ⟨nv', v1, hnv', hT.2.2.1.2.2.1, v2⟩
    · exact ⟨nv, Nat.le_refl _, e2, by rw [hI _ _ (by omega) (by omega)]; exact e1, fun m _ => hA _ _ (by omega)⟩
  · by_cases e : q = p
    · subst e
      exact ⟨cc + 1, g + 1, by rw [hI2, d1, nI_1], by rw [hR329, c1, nI_1], by omega, by omega⟩
    · obtain ⟨x, y, y1, y2, y3, y4⟩ := c3 q hq
      exact ⟨x, y, by rw [hI _ _ (by omega) (by omega)]; exact y1, by rw [hRo q _ _ hq e (by unfold RPw; omega)]; exact y2, by omega, by omega⟩
  · rcases q5 with ⟨a, b⟩ | ⟨q, ad, nv, c, a, c', a', ⟨hq, hqn⟩, r2, r3, r4, r5, r6, r7, r8, r9, r10, r11, r12, r13, r14, r15, r16⟩
    · exact Or.inl ⟨by rw [hI _ _ (by omega) (by omega)]; exact a, by rw [hJ _ (by omega)]; exact b⟩
    · have k0 : ∀ k, 7 ≤ k → k ≤ 9 → I' 0 k = I 0 k := fun k _ _ => hI _ _ (by omega) (by omega)
      have k1 : ∀ k, 57 ≤ k → k ≤ 59 → J' 318 k = J 318 k := fun k _ _ => hJ _ (by omega)
      by_cases e : q = p
      · subst e
        obtain ⟨v1, v2⟩ := hV nv r4 r5.2
        have ec : c = cc := (t_eq (by omega) (by omega)).mp (r10.symm.trans d1)
        have ec' : c' = cc' := (t_eq (by omega) (by omega)).mp (r12.symm.trans d2)
        refine Or.inr ⟨q, ad, nv', c + 1, a, g + 1, a', ⟨hq, Qn_of (hJ _ (by omega)) q hqn⟩, by rw [k0 _ (by omega) (by omega)]; exact r2, by rw [k1 _ (by omega) (by omega)]; exact r3, hT.2.2.1.2.2.1, ⟨by omega, hnv'⟩, by rw [k0 _ (by omega) (by omega)]; exact r6, by rw [k1 _ (by omega) (by omega)]; exact r7, fun i hi => ?_, fun i h1 h2 => by rw [hA _ _ (by omega)]; exact r9 i h1 h2, by rw [hI2, r10, nI_1], by rw [k0 _ (by omega) (by omega)]; exact r11, by rw [hR329, c1, nI_1], by rw [k1 _ (by omega) (by omega)]; exact r13, by omega, by omega, Or.inr (by omega)⟩
        unfold szo
        rw [v2 i (by omega), hA _ _ (by omega), hR _ _ (by omega)]
        exact r8 i hi
      · refine Or.inr ⟨q, ad, nv, c, a, c', a', ⟨hq, Qn_of (hJ _ (by omega)) q hqn⟩, by rw [k0 _ (by omega) (by omega)]; exact r2, by rw [k1 _ (by omega) (by omega)]; exact r3, by rw [hI _ _ (by omega) (by omega)]; exact r4, r5, by rw [k0 _ (by omega) (by omega)]; exact r6, by rw [k1 _ (by omega) (by omega)]; exact r7, fun i hi => ?_, fun i h1 h2 => by rw [hA _ _ (by omega)]; exact r9 i h1 h2, by rw [hI _ _ (by omega) (by omega)]; exact r10, by rw [k0 _ (by omega) (by omega)]; exact r11, by rw [hRo q _ _ hq e (by unfold RPw; omega)]; exact r12, by rw [k1 _ (by omega) (by omega)]; exact r13, r14, r15, r16⟩
        unfold szo
        rw [hA (58 + 52 * q + 1) _ (by omega), hA _ _ (by omega), hR _ _ (by omega)]
        exact r8 i hi
end CF

/-! part 85.rules -/
/-! THE TIE: rules, numbers, variables -/
theorem up2_n {α : Type} {F : Nat → Nat → α} {j k a b : Nat} {v : α} (h : ¬ (a = j ∧ b = k)) : up2 F j k v a b = F a b := by unfold up2; rw [if_neg h]
section CG
variable {I A : Nat → Nat → Int32} {G : Nat → Nat → Nat} {L : Nat → Nat → Int64} {J R I' A' J' R' : Nat → Nat → Int32} {n p nv nr : Nat}
theorem TPr_ru {r0 nr' : Nat} (h : TPr I A R p (58 + 52 * p) nv nr) (hr0 : r0 < 8) (hnr : nr' ≤ 8)
    (hI : ∀ j k, 58 ≤ j → ¬ (j = 58 + 52 * p ∧ (k = 1 ∨ k = 2 ∨ k = 3)) → ¬ (j = 58 + 52 * p + 12 + 5 * r0 ∧ (k = 0 ∨ k = 1)) → I' j k = I j k)
    (h1 : I' (58 + 52 * p) 1 = nI nr') (h2 : R' 320 p = nI nr') (h3 : R' 324 (8 * p + r0) = I' (58 + 52 * p + 12 + 5 * r0) 0) (h4 : R' 325 (8 * p + r0) = I' (58 + 52 * p + 12 + 5 * r0) 1) (h5 : ∃ k, k ≤ 7 ∧ I' (58 + 52 * p + 12 + 5 * r0) 0 = nI k)
    (hR : ∀ j m, 319 ≤ j → j ≤ 328 → ¬ (j = 320 ∧ m = p) → ¬ ((j = 324 ∨ j = 325) ∧ m = 8 * p + r0) → R' j m = R j m) : TPr I' A R' p (58 + 52 * p) nv nr' := by
  obtain ⟨hp, hB, hw, k1, k2, k3, k4, k5⟩ := h
  have en : ∀ r, nP I' (58 + 52 * p + 12 + 5 * r) = nP I (58 + 52 * p + 12 + 5 * r) := fun r => by unfold nP; rw [hI _ _ (by omega) (by omega) (by omega)]
  refine ⟨hp, hB, ⟨hw.1, hnr, by rw [hI _ _ (by omega) (by omega) (by omega)]; exact hw.2.2.1, h1, hw.2.2.2.2.1, fun r hr => ?_⟩, by rw [hR _ _ (by omega) (by omega) (by omega) (by omega)]; exact k1, h2, fun m hm => by rw [hR _ _ (by omega) (by omega) (by omega) (by omega)]; exact k3 m hm, fun x k hx hk => by rw [hR _ _ (by omega) (by omega) (by omega) (by omega)]; exact k4 x k hx hk, fun r hr => ?_⟩
  · have w := hw.2.2.2.2.2 r hr
    rw [en r]
    exact ⟨w.1, by rw [hI _ _ (by omega) (by omega) (by omega)]; exact w.2.1, w.2.2⟩
  · obtain ⟨⟨a1, a2, a3, a4⟩, b, c, d, k, k7, ek⟩ := k5 r hr
    unfold TRl
    rw [en r]
    by_cases e : r = r0
    · subst e
      exact ⟨⟨h3, h4, by rw [hR _ _ (by omega) (by omega) (by omega) (by omega), hI _ _ (by omega) (by omega) (by omega)]; exact a3, fun k hk => by rw [hR _ _ (by omega) (by omega) (by omega) (by omega), hR _ _ (by omega) (by omega) (by omega) (by omega)]; exact a4 k hk⟩, b, c, d, h5⟩
    · exact ⟨⟨by rw [hR _ _ (by omega) (by omega) (by omega) (by omega), hI _ _ (by omega) (by omega) (by omega)]; exact a1, by rw [hR _ _ (by omega) (by omega) (by omega) (by omega), hI _ _ (by omega) (by omega) (by omega)]; exact a2, by rw [hR _ _ (by omega) (by omega) (by omega) (by omega), hI _ _ (by omega) (by omega) (by omega)]; exact a3, fun k hk => by rw [hR _ _ (by omega) (by omega) (by omega) (by omega), hR _ _ (by omega) (by omega) (by omega) (by omega)]; exact a4 k hk⟩, b, c, d, k, k7, by rw [hI _ _ (by omega) (by omega) (by omega)]; exact ek⟩
theorem TPr_var {s : Nat} (h : TPr I A R p (58 + 52 * p) nv nr) (hs1 : 1 ≤ s) (hs6 : s ≤ 6) (hv : nv < 6)
    (hI : ∀ j k, 58 ≤ j → ¬ (j = 58 + 52 * p ∧ (k = 0 ∨ k = 2 ∨ k = 3)) → I' j k = I j k) (h1 : I' (58 + 52 * p) 0 = nI (nv + 1)) (h2 : R' 319 p = nI (nv + 1))
    (hA : ∀ j m, ¬ ((j = 58 + 52 * p + 1 ∨ j = 58 + 52 * p + 2) ∧ m = nv) → A' j m = A j m) (h3 : A' (58 + 52 * p + 1) nv = nI s) (h4 : R' 321 (6 * p + nv) = nI s)
    (hR : ∀ j m, 319 ≤ j → j ≤ 328 → ¬ (j = 319 ∧ m = p) → ¬ ((j = 321 ∨ j = 322) ∧ m = 6 * p + nv) → R' j m = R j m) : TPr I' A' R' p (58 + 52 * p) (nv + 1) nr := by
  obtain ⟨hp, hB, hw, k1, k2, k3, k4, k5⟩ := h
  have en : ∀ r, nP I' (58 + 52 * p + 12 + 5 * r) = nP I (58 + 52 * p + 12 + 5 * r) := fun r => by unfold nP; rw [hI _ _ (by omega) (by omega)]
  refine ⟨hp, hB, ⟨by omega, hw.2.1, h1, by rw [hI _ _ (by omega) (by omega)]; exact hw.2.2.2.1, fun x hx => ?_, fun r hr => ?_⟩, h2, by rw [hR _ _ (by omega) (by omega) (by omega) (by omega)]; exact k2, fun m hm => ?_, fun x k hx hk => by rw [hR _ _ (by omega) (by omega) (by omega) (by omega), hA _ _ (by omega)]; exact k4 x k hx hk, fun r hr => ?_⟩
  · by_cases e : x = nv
    · subst e
      exact ⟨s, hs1, hs6, h3⟩
    · rw [hA _ _ (by omega)]
      exact hw.2.2.2.2.1 x (by omega)
  · have w := hw.2.2.2.2.2 r hr
    rw [en r]
    exact ⟨w.1, by rw [hI _ _ (by omega) (by omega)]; exact w.2.1, fun i hi => by rw [hA _ _ (by omega)]; exact w.2.2 i hi⟩
  · by_cases e : m = nv
    · subst e
      rw [h3, h4]
    · rw [hA _ _ (by omega), hR _ _ (by omega) (by omega) (by omega) (by omega)]
      exact k3 m hm
  · obtain ⟨⟨a1, a2, a3, a4⟩, b, c, d, k, k7, ek⟩ := k5 r hr
    unfold TRl
    rw [en r]
    refine ⟨⟨by rw [hR _ _ (by omega) (by omega) (by omega) (by omega), hI _ _ (by omega) (by omega)]; exact a1, by rw [hR _ _ (by omega) (by omega) (by omega) (by omega), hI _ _ (by omega) (by omega)]; exact a2, by rw [hR _ _ (by omega) (by omega) (by omega) (by omega), hI _ _ (by omega) (by omega)]; exact a3, fun k hk => by rw [hR _ _ (by omega) (by omega) (by omega) (by omega), hR _ _ (by omega) (by omega) (by omega) (by omega), hA _ _ (by omega), hA _ _ (by omega)]; exact a4 k hk⟩, fun k hk => by rw [hA _ _ (by omega)]; exact b k hk, fun i hi => ?_, fun x hx => ?_, k, k7, by rw [hI _ _ (by omega) (by omega)]; exact ek⟩
    · rw [hA (58 + 52 * p + 12 + 5 * r + 1) _ (by omega)]
      by_cases e : (A (58 + 52 * p + 12 + 5 * r + 1) i).toNatClampNeg = nv
      · rw [e]
        exact ⟨s, hs1, hs6, h3⟩
      · rw [hA _ _ (by omega)]
        exact c i hi
    · rw [hA _ _ (by omega), hA (58 + 52 * p + 12 + 5 * r + 4) _ (by omega)]
      simp only [fun m => hA (58 + 52 * p + 12 + 5 * r + 1) m (by omega), fun m => hA (58 + 52 * p + 12 + 5 * r + 2) m (by omega)]
      exact d x hx
theorem t_chg (hp : p < 5) : f_X7_changes J R (nI p) = some (up2 J 318 14 (J 318 14 + 1), up2 (up2 (up2 R 329 p (J 318 14 + 1)) 351 p 0) 352 p 0) := by
  unfold f_X7_changes
  simp (disch := omega) only [bd, gd_in, t_cl, up2_s]
  rfl
theorem t_cng (hp : p < 5) : f_X1_change I (58 + 52 * p) = some (up2 (up2 I (58 + 52 * p) 2 (I (58 + 52 * p) 2 + 1)) (58 + 52 * p) 3 0) := by
  unfold f_X1_change
  rw [gd_t (pq_all p hp).1]
  rfl
theorem t_rn (a : Int32) : f_X6_isRuleNumber a = f_X7_in a (-1000) 1000 := by
  unfold f_X6_isRuleNumber
  rw [(t_wi _ _ _).1, (t_wi _ _ _).2, Option.bind_some]
  by_cases h : ¬ a < -1000 ∧ ¬ 1000 < a
  · rw [if_pos h]; exact gd_t (Or.inr rfl)
  · rw [if_neg h]; exact gd_t (Or.inl rfl)
theorem k_number (a1 a2 a3 : Int32) (h : Rel n I G A L J R) (hn : n < 1073741000) : ∃ r I' J' R', f_X6_number I a1 a2 a3 = some (r, I') ∧ f_X7_number J R a1 a2 a3 = some (r, J', R') ∧ Rel (n + 1) I' G A L J' R' := by
  have hu := Rel_u h
  obtain ⟨np, z, sc, ⟨p1, p2, p3, p4⟩, _⟩ := id h
  have hno : ∀ w : Int32, Rel (n + 1) (up2 I 0 17 w) G A L (up2 (up2 (up2 J 318 0 0) 318 1 0) 318 1 w) R := fun w => Rel_st h (up2_s _ _ _ _) (fun k q => by rw [up2_k (by omega), up2_k (by omega), up2_k (by omega)])
  have e2' : up2 (up2 J 318 0 0) 318 1 0 318 2 = nI np := by rw [up2_k (by decide), up2_k (by decide)]; exact p3
  have e23 : up2 (up2 J 318 0 0) 318 1 0 318 23 = I 0 5 := by rw [up2_k (by decide), up2_k (by decide)]; exact hu.symm
  unfold f_X6_number f_X7_number f_X6_refuse f_X6_grant f_X7_no
  simp only [bd, Option.bind_some, t_rn, (t_wi _ _ _).2, e23]
  rcases t_isP (a := a1) (I := I) (J := up2 (up2 J 318 0 0) 318 1 0) p2 e2' p1 with ⟨p, hp, rfl, e1, e2⟩ | ⟨e1, e2⟩
  · rw [e1, Option.bind_some, if_neg z10]
    obtain ⟨g0, g1, g2, g3, g10, g11, l1, l2, l3, l10, l11⟩ := pq_all p (by omega)
    obtain ⟨⟨nv, nr, hP⟩, hK, hC⟩ := p4 p (by omega)
    have hnr := hP.2.2.1.2.1
    simp (disch := omega) only [gd_in, t_cl, gd_t g0]
    rcases t_isRu (a := a2) hP e2 with ⟨x, x1, rfl, v1, v2⟩ | ⟨v1, v2⟩
    · rw [v1, v2, Option.bind_some, Option.bind_some, if_neg z10, if_neg z10]
      by_cases hc : ¬ a3 < -1000 ∧ ¬ 1000 < a3
      · rw [if_pos hc, if_neg z10, if_neg z10]
        by_cases hw : I 0 5 = -9
        · rw [if_pos hw, if_pos hw]
          obtain ⟨gr, _⟩ := pq_ru p (by omega) x (by omega)
          obtain ⟨⟨u0, u1, u2, u3⟩, _, _, _, ku⟩ := hP.2.2.2.2.2.2.2 x (by omega)
          unfold f_X1_setNumber
          simp (disch := omega) only [t_cng, t_chg, Option.bind_some, gd_t g0, gd_t g10, gd_t gr, l10, gd_in, t_cl, bd, m8]
          rw [up2_j (show 58 + 52 * p + 12 + 5 * x ≠ 58 + 52 * p by omega), up2_j (show 58 + 52 * p + 12 + 5 * x ≠ 58 + 52 * p by omega), u1]
          refine ⟨_, _, _, _, rfl, rfl, Rel_P (nv' := nv) (nr' := nr) h hn (by omega) hw (fun j k q1 q2 => ?_) ?_ ?_ (fun _ _ _ => rfl) (fun k q => ?_) ?_ (fun j m q => ?_) ?_ ?_ (up2_s _ _ _ _) (fun q j m hq hne hm => ?_) ?_ (TPr_ru hP (r0 := x) (by omega) hnr (fun j k q1 q2 q3 => ?_) ?_ ?_ ?_ ?_ ?_ (fun j m q1 q2 q3 q4 => ?_)) (fun v hv => ?_) (fun r hr => ?_) (fun nv2 q1 q2 => ?_)⟩
          · rw [up2_n q2, up2_n (by omega), up2_n (by omega), up2_n (by omega)]
          · rw [up2_n (by omega), up2_n (by omega), up2_n (by omega), up2_s]
          · rw [up2_n (by omega), up2_n (by omega), up2_s]
          · rw [up2_n (by omega), up2_n (by omega), up2_n (by omega)]
          · rw [up2_s, up2_n (by omega), up2_n (by omega)]
          · rw [up2_n (by omega), up2_n (by omega), up2_n (by omega), up2_n (by omega)]
          · rw [up2_n (by omega), up2_n (by omega), up2_s, up2_n (by omega), up2_n (by omega)]
          · rw [up2_n (by omega), up2_s]
          · unfold RPw at hm
            rw [up2_n (by omega), up2_n (by omega), up2_n (by omega), up2_n (by omega)]
          · rw [up2_s, up2_n (by omega), up2_s]
          · rw [up2_n (by omega), up2_n (by omega), up2_n (by omega), up2_n (by omega)]
          · rw [up2_n (by omega), up2_n (by omega), up2_n (by omega), up2_n (by omega)]; exact hP.2.2.1.2.2.2.1
          · rw [up2_n (by omega), up2_n (by omega), up2_n (by omega), up2_n (by omega)]; exact hP.2.2.2.2.1
          · rw [up2_n (by omega), up2_n (by omega), up2_n (by omega), up2_n (by omega), up2_n (by omega), up2_n (by omega), up2_n (by omega), up2_n (by omega)]; exact u0
          · rw [up2_n (by omega), up2_n (by omega), up2_n (by omega), up2_s, up2_n (by omega), up2_s]
          · rw [up2_n (by omega), up2_n (by omega), up2_n (by omega), up2_n (by omega)]; exact ku
          · rw [up2_n (by omega), up2_n (by omega), up2_n (by omega), up2_n (by omega)]
          · rw [up2_n (by omega), up2_n (by omega), up2_n (by omega), up2_n (by omega)]; exact hK v hv
          · unfold nP
            rw [up2_n (by omega), up2_n (by omega), up2_n (by omega), up2_n (by omega)]; exact hC r hr
          · have := (t_eq (by omega) (by have := hP.2.2.1.1; omega)).mp (q1.symm.trans hP.2.2.1.2.2.1)
            exact ⟨by omega, fun _ _ => rfl⟩
        · rw [if_neg hw, if_neg hw]
          exact ⟨_, _, _, _, rfl, rfl, hno _⟩
      · rw [if_neg hc, if_pos rfl, if_pos rfl]
        exact ⟨_, _, _, _, rfl, rfl, hno _⟩
    · rw [v1, v2]
      exact ⟨_, _, _, _, rfl, rfl, hno _⟩
  · unfold f_X7_isRule
    rw [e1, e2]
    exact ⟨_, _, _, _, rfl, rfl, hno _⟩
theorem k_rule (a1 a2 a3 : Int32) (h : Rel n I G A L J R) (hn : n < 1073741000) : ∃ r I' J' R', f_X6_rule I a1 a2 a3 = some (r, I') ∧ f_X7_rule J R a1 a2 a3 = some (r, J', R') ∧ Rel (n + 1) I' G A L J' R' := by
  have hr := Rel_J0 h
  have hu := Rel_u h
  obtain ⟨np, z, sc, ⟨p1, p2, p3, p4⟩, q2, q3, q4, q5c, q5, q6, q7, _⟩ := id h
  have e2' : up2 J 318 0 0 318 2 = nI np := by rw [up2_k (by decide)]; exact p3
  have e23 : up2 J 318 0 0 318 23 = I 0 5 := by rw [up2_k (by decide)]; exact hu.symm
  unfold f_X6_rule f_X7_rule
  simp only [bd, Option.bind_some, t_rn, (t_wi _ _ _).1, (t_wi _ _ _).2, e23]
  rcases t_isP (a := a1) (I := I) (J := up2 J 318 0 0) p2 e2' p1 with ⟨p, hp, rfl, e1, e2⟩ | ⟨e1, e2⟩
  · rw [e1, e2, Option.bind_some, Option.bind_some, if_neg z10, if_neg z10]
    obtain ⟨g0, g1, g2, g3, g10, g11, l1, l2, l3, l10, l11⟩ := pq_all p (by omega)
    obtain ⟨⟨nv, nr, hP⟩, hK, hC⟩ := p4 p (by omega)
    have hnr := hP.2.2.1.2.1
    have hB1 := hP.2.2.1.2.2.2.1
    simp (disch := omega) only [gd_in, t_cl, gd_t g0, hB1, hP.2.2.2.2.1, m8]
    rcases t_rng (a := a2) (hi := 7) (by omega) with ⟨x, hx, rfl⟩ | hc
    · rw [if_pos (show ¬ nI x < 0 ∧ ¬ 7 < nI x from t_rng1 (hi := 7) (by omega) hx), if_neg z10, if_neg z10]
      by_cases hc : ¬ a3 < -1000 ∧ ¬ 1000 < a3
      · rw [if_pos hc, if_neg z10, if_neg z10]
        by_cases hw : I 0 5 = -9
        · rw [if_pos hw, if_pos hw]
          by_cases h8 : nr = 8
          · subst h8
            rw [if_neg (show ¬ nI 8 < 8 by decide), if_pos (show nI 8 = 8 from rfl)]
            exact ⟨_, _, _, _, rfl, rfl, hr⟩
          · rw [if_pos (show nI nr < 8 from nI_lt (b := 8) (by omega) (by omega)), if_neg (show ¬ nI nr = 8 from fun q => h8 ((t_eq (b := 8) (by omega) (by omega)).mp q))]
            obtain ⟨gr, _⟩ := pq_ru p (by omega) nr (by omega)
            have eJ1 : ∀ (a b : Int32), up2 (up2 R 324 (8 * p + nr) a) 325 (8 * p + nr) b 320 p = nI nr := fun a b => by rw [up2_n (by omega), up2_n (by omega)]; exact hP.2.2.2.2.1
            have eI1 : ∀ (a b : Int32), up2 (up2 I (58 + 52 * p) 2 a) (58 + 52 * p) 3 b (58 + 52 * p) 1 = nI nr := fun a b => by rw [up2_n (by omega), up2_n (by omega)]; exact hB1
            have eI2 : ∀ (F : Nat → Nat → Int32) (a : Int32) (k : Nat), up2 F (58 + 52 * p + 12 + 5 * nr) k a (58 + 52 * p) 1 = F (58 + 52 * p) 1 := fun F a k => up2_n (by omega)
            unfold f_X1_addRule
            simp (disch := omega) only [t_cng, t_chg, Option.bind_some, gd_t g0, gd_t g10, gd_t gr, l10, gd_in, t_cl, bd, m8, eJ1, eI1, eI2, nI_1]
            refine ⟨_, _, _, _, rfl, rfl, Rel_P (nv' := nv) (nr' := nr + 1) h hn (by omega) hw (fun j k q1 q2 => ?_) ?_ ?_ (fun _ _ _ => rfl) (fun k q => ?_) ?_ (fun j m q => ?_) ?_ ?_ (up2_s _ _ _ _) (fun q j m hq hne hm => ?_) ?_ (TPr_ru hP (r0 := nr) (by omega) (by omega) (fun j k q1 q2 q3 => ?_) ?_ ?_ ?_ ?_ ⟨x, hx, ?_⟩ (fun j m q1 q2 q3 q4 => ?_)) (fun v hv => ?_) (fun r hr => ?_) (fun nv2 q1 q2 => ?_)⟩
            · rw [up2_n (by omega), up2_n (by omega), up2_n (by omega), up2_n (by omega), up2_n (by omega)]
            · rw [up2_n (by omega), up2_n (by omega), up2_n (by omega), up2_n (by omega), up2_s]
            · rw [up2_n (by omega), up2_n (by omega), up2_n (by omega), up2_s]
            · rw [up2_n (by omega), up2_n (by omega)]
            · rw [up2_s, up2_n (by omega)]
            · rw [up2_n (by omega), up2_n (by omega), up2_n (by omega), up2_n (by omega), up2_n (by omega), up2_n (by omega)]
            · rw [up2_n (by omega), up2_n (by omega), up2_s, up2_n (by omega)]
            · rw [up2_n (by omega), up2_s]
            · unfold RPw at hm
              rw [up2_n (by omega), up2_n (by omega), up2_n (by omega), up2_n (by omega), up2_n (by omega), up2_n (by omega)]
            · rw [up2_n (by omega), up2_n (by omega), up2_n (by omega), up2_n (by omega), up2_n (by omega), up2_n (by omega), up2_n (by omega)]; exact q7.1
            · rw [up2_n (by omega), up2_n (by omega), up2_n (by omega), up2_n (by omega), up2_n (by omega)]
            · rw [up2_s]
            · rw [up2_n (by omega), up2_n (by omega), up2_n (by omega), up2_s]
            · rw [up2_n (by omega), up2_n (by omega), up2_n (by omega), up2_n (by omega), up2_n (by omega), up2_s, up2_n (by omega), up2_n (by omega), up2_s]
            · rw [up2_n (by omega), up2_n (by omega), up2_n (by omega), up2_n (by omega), up2_s, up2_n (by omega), up2_s]
            · rw [up2_n (by omega), up2_n (by omega), up2_s]
            · rw [up2_n (by omega), up2_n (by omega), up2_n (by omega), up2_n (by omega), up2_n (by omega), up2_n (by omega)]
            · rw [up2_n (by omega), up2_n (by omega), up2_n (by omega), up2_n (by omega), up2_n (by omega), up2_n (by omega)]; exact hK v hv
            · unfold nP
              rw [up2_n (by omega), up2_n (by omega), up2_n (by omega), up2_n (by omega), up2_n (by omega)]; exact hC r hr
            · have := (t_eq (by omega) (by have := hP.2.2.1.1; omega)).mp (q1.symm.trans hP.2.2.1.2.2.1)
              exact ⟨by omega, fun _ _ => rfl⟩
        · rw [if_neg hw, if_neg hw]
          exact ⟨_, _, _, _, rfl, rfl, hr⟩
      · rw [if_neg hc, if_pos rfl, if_pos rfl]
        exact ⟨_, _, _, _, rfl, rfl, hr⟩
    · rw [if_neg (show ¬ (¬ a2 < 0 ∧ ¬ 7 < a2) from hc), if_pos rfl, if_pos rfl]
      exact ⟨_, _, _, _, rfl, rfl, hr⟩
  · rw [e1, e2]
    exact ⟨_, _, _, _, rfl, rfl, hr⟩
end CG

/-! part 86.vars -/
/-! THE TIE: variables, costs -/
section CH
variable {I A : Nat → Nat → Int32} {G : Nat → Nat → Nat} {L : Nat → Nat → Int64} {J R I' A' J' R' : Nat → Nat → Int32} {n p nv nr : Nat}
theorem t_16 {a : Int32} (h : ¬ a < 1 ∧ ¬ 6 < a) : ∃ s, 1 ≤ s ∧ s ≤ 6 ∧ a = nI s := by
  have h0 : ¬ a < 0 := fun q => h.1 (Int32.lt_trans q (by decide))
  rcases t_rng (a := a) (hi := 6) (by omega) with ⟨s, s1, rfl⟩ | hc
  · refine ⟨s, ?_, s1, rfl⟩
    rcases Nat.eq_zero_or_pos s with e | e
    · subst e
      exact absurd (show nI 0 < 1 by decide) h.1
    · exact e
  · exact absurd ⟨h0, h.2⟩ hc
theorem k_variable (a1 a2 a3 : Int32) (h : Rel n I G A L J R) (hn : n < 1073741000) : ∃ r I' A' J' R', f_X6_variable I A a1 a2 a3 = some (r, I', A') ∧ f_X7_variable J R a1 a2 a3 = some (r, J', R') ∧ Rel (n + 1) I' G A' L J' R' := by
  have hr := Rel_J0 h
  have hu := Rel_u h
  obtain ⟨np, z, sc, ⟨p1, p2, p3, p4⟩, q2, q3, q4, q5c, q5, q6, q7, _⟩ := id h
  have e2' : up2 J 318 0 0 318 2 = nI np := by rw [up2_k (by decide)]; exact p3
  have e23 : up2 J 318 0 0 318 23 = I 0 5 := by rw [up2_k (by decide)]; exact hu.symm
  unfold f_X6_variable f_X7_variable
  simp only [bd, Option.bind_some, (t_wi _ _ _).1, (t_wi _ _ _).2, e23]
  rcases t_isP (a := a1) (I := I) (J := up2 J 318 0 0) p2 e2' p1 with ⟨p, hp, rfl, e1, e2⟩ | ⟨e1, e2⟩
  · rw [e1, e2, Option.bind_some, Option.bind_some, if_neg z10, if_neg z10]
    obtain ⟨g0, g1, g2, g3, g10, g11, l1, l2, l3, l10, l11⟩ := pq_all p (by omega)
    obtain ⟨⟨nv, nr, hP⟩, hK, hC⟩ := p4 p (by omega)
    have hnv := hP.2.2.1.1
    have hB0 := hP.2.2.1.2.2.1
    simp (disch := omega) only [gd_in, t_cl, gd_t g0, hB0, hP.2.2.2.1, m6]
    by_cases hc : ¬ a2 < 1 ∧ ¬ 6 < a2
    · rw [if_pos hc, if_neg z10, if_neg z10]
      by_cases hc3 : ¬ a3 < 0 ∧ ¬ 3 < a3
      · rw [if_pos hc3, if_neg z10, if_neg z10]
        by_cases hw : I 0 5 = -9
        · rw [if_pos hw, if_pos hw]
          by_cases h6 : nv = 6
          · subst h6
            rw [if_neg (show ¬ nI 6 < 6 by decide), if_pos (show nI 6 = 6 from rfl)]
            exact ⟨_, _, _, _, _, rfl, rfl, hr⟩
          · rw [if_pos (show nI nv < 6 from nI_lt (b := 6) (by omega) (by omega)), if_neg (show ¬ nI nv = 6 from fun q => h6 ((t_eq (b := 6) (by omega) (by omega)).mp q))]
            obtain ⟨s, s1, s6, rfl⟩ := t_16 hc
            have eJ1 : ∀ (a b : Int32), up2 (up2 R 321 (6 * p + nv) a) 322 (6 * p + nv) b 319 p = nI nv := fun a b => by rw [up2_n (by omega), up2_n (by omega)]; exact hP.2.2.2.1
            have eI1 : ∀ (a b : Int32), up2 (up2 I (58 + 52 * p) 2 a) (58 + 52 * p) 3 b (58 + 52 * p) 0 = nI nv := fun a b => by rw [up2_n (by omega), up2_n (by omega)]; exact hB0
            unfold f_X1_addVariable
            simp (disch := omega) only [t_cng, t_chg, Option.bind_some, gd_t g0, gd_t g1, gd_t g2, l1, l2, gd_in, t_cl, bd, m6, eJ1, eI1, nI_1]
            refine ⟨_, _, _, _, _, rfl, rfl, Rel_P (nv' := nv + 1) (nr' := nr) h hn (by omega) hw (fun j k q1 q2 => ?_) ?_ ?_ (fun j m q => ?_) (fun k q => ?_) ?_ (fun j m q => ?_) ?_ ?_ (up2_s _ _ _ _) (fun q j m hq hne hm => ?_) ?_ (TPr_var hP s1 s6 (by omega) (fun j k q1 q2 => ?_) ?_ ?_ (fun j m q => ?_) ?_ ?_ (fun j m q1 q2 q3 q4 => ?_)) (fun v hv => ?_) (fun r hr => ?_) (fun nv2 q1 q2 => ?_)⟩
            · rw [up2_n (by omega), up2_n (by omega), up2_n (by omega)]
            · rw [up2_n (by omega), up2_n (by omega), up2_s]
            · rw [up2_n (by omega), up2_s]
            · rw [up2_n (by omega), up2_n (by omega)]
            · rw [up2_n (by omega), up2_n (by omega)]
            · rw [up2_s, up2_n (by omega)]
            · rw [up2_n (by omega), up2_n (by omega), up2_n (by omega), up2_n (by omega), up2_n (by omega), up2_n (by omega)]
            · rw [up2_n (by omega), up2_n (by omega), up2_s, up2_n (by omega)]
            · rw [up2_n (by omega), up2_s]
            · unfold RPw at hm
              rw [up2_n (by omega), up2_n (by omega), up2_n (by omega), up2_n (by omega), up2_n (by omega), up2_n (by omega)]
            · rw [up2_n (by omega), up2_n (by omega), up2_n (by omega), up2_n (by omega), up2_n (by omega)]; exact q7.1
            · rw [up2_n (by omega), up2_n (by omega), up2_n (by omega)]
            · rw [up2_s]
            · rw [up2_n (by omega), up2_n (by omega), up2_n (by omega), up2_s]
            · rw [up2_n (by omega), up2_n (by omega)]
            · rw [up2_n (by omega), up2_s]
            · rw [up2_n (by omega), up2_n (by omega), up2_n (by omega), up2_n (by omega), up2_n (by omega), up2_s]
            · rw [up2_n (by omega), up2_n (by omega), up2_n (by omega), up2_n (by omega), up2_n (by omega), up2_n (by omega)]
            · by_cases e : v = nv
              · subst e
                rw [up2_n (by omega), up2_n (by omega), up2_n (by omega), up2_n (by omega), up2_s, up2_s]
              · rw [up2_n (by omega), up2_n (by omega), up2_n (by omega), up2_n (by omega), up2_n (by omega), up2_n (by omega), up2_n (by omega), up2_n (by omega)]; exact hK v hv
            · have ea : ∀ m (x y : Int32), up2 (up2 A (58 + 52 * p + 1) nv x) (58 + 52 * p + 2) nv y (58 + 52 * p + 12 + 5 * r + 3) m = A (58 + 52 * p + 12 + 5 * r + 3) m := fun m x y => by rw [up2_n (by omega), up2_n (by omega)]
              have eb : ∀ (a b c : Int32), up2 (up2 (up2 I (58 + 52 * p) 2 a) (58 + 52 * p) 3 b) (58 + 52 * p) 0 c (58 + 52 * p + 12 + 5 * r) 2 = I (58 + 52 * p + 12 + 5 * r) 2 := fun a b c => by rw [up2_n (by omega), up2_n (by omega), up2_n (by omega)]
              unfold nP npc
              simp only [ea, eb]
              exact hC r hr
            · have := (t_eq (by omega) (by omega)).mp (q1.symm.trans hB0)
              exact ⟨by omega, fun m hm => by rw [up2_n (by omega), up2_n (by omega)]⟩
        · rw [if_neg hw, if_neg hw]
          exact ⟨_, _, _, _, _, rfl, rfl, hr⟩
      · rw [if_neg hc3, if_pos rfl, if_pos rfl]
        exact ⟨_, _, _, _, _, rfl, rfl, hr⟩
    · rw [if_neg hc, if_pos rfl, if_pos rfl]
      exact ⟨_, _, _, _, _, rfl, rfl, hr⟩
  · rw [e1, e2]
    exact ⟨_, _, _, _, _, rfl, rfl, hr⟩
theorem TPr_cost {x y : Nat} (h : TPr I A R p (58 + 52 * p) nv nr) (hx : x < 6) (hy : y < 6)
    (hI : ∀ j k, 58 ≤ j → ¬ (j = 58 + 52 * p ∧ (k = 2 ∨ k = 3)) → I' j k = I j k)
    (hA : ∀ j m, ¬ (j = 58 + 52 * p + 4 + x ∧ m = y) → A' j m = A j m) (h3 : R' 323 (36 * p + 6 * x + y) = A' (58 + 52 * p + 4 + x) y) (h4 : -100000 ≤ (A' (58 + 52 * p + 4 + x) y).toInt ∧ (A' (58 + 52 * p + 4 + x) y).toInt ≤ 100000)
    (hR : ∀ j m, 319 ≤ j → j ≤ 328 → ¬ (j = 323 ∧ m = 36 * p + 6 * x + y) → R' j m = R j m) : TPr I' A' R' p (58 + 52 * p) nv nr := by
  obtain ⟨hp, hB, hw, k1, k2, k3, k4, k5⟩ := h
  have en : ∀ r, nP I' (58 + 52 * p + 12 + 5 * r) = nP I (58 + 52 * p + 12 + 5 * r) := fun r => by unfold nP; rw [hI _ _ (by omega) (by omega)]
  refine ⟨hp, hB, ⟨hw.1, hw.2.1, by rw [hI _ _ (by omega) (by omega)]; exact hw.2.2.1, by rw [hI _ _ (by omega) (by omega)]; exact hw.2.2.2.1, fun x hx => by rw [hA _ _ (by omega)]; exact hw.2.2.2.2.1 x hx, fun r hr => ?_⟩, by rw [hR _ _ (by omega) (by omega) (by omega)]; exact k1, by rw [hR _ _ (by omega) (by omega) (by omega)]; exact k2, fun m hm => by rw [hR _ _ (by omega) (by omega) (by omega), hA _ _ (by omega)]; exact k3 m hm, fun x' k hx' hk => ?_, fun r hr => ?_⟩
  · have w := hw.2.2.2.2.2 r hr
    rw [en r]
    exact ⟨w.1, by rw [hI _ _ (by omega) (by omega)]; exact w.2.1, fun i hi => by rw [hA _ _ (by omega)]; exact w.2.2 i hi⟩
  · by_cases e : x' = x ∧ k = y
    · obtain ⟨e1, e2⟩ := e
      subst e1 e2
      exact ⟨h3, h4⟩
    · rw [hR _ _ (by omega) (by omega) (by omega), hA _ _ (by omega)]
      exact k4 x' k hx' hk
  · obtain ⟨⟨a1, a2, a3, a4⟩, b, c, d, k, k7, ek⟩ := k5 r hr
    unfold TRl
    rw [en r]
    refine ⟨⟨by rw [hR _ _ (by omega) (by omega) (by omega), hI _ _ (by omega) (by omega)]; exact a1, by rw [hR _ _ (by omega) (by omega) (by omega), hI _ _ (by omega) (by omega)]; exact a2, by rw [hR _ _ (by omega) (by omega) (by omega), hI _ _ (by omega) (by omega)]; exact a3, fun k hk => by rw [hR _ _ (by omega) (by omega) (by omega), hR _ _ (by omega) (by omega) (by omega), hA _ _ (by omega), hA _ _ (by omega)]; exact a4 k hk⟩, fun k hk => by rw [hA _ _ (by omega)]; exact b k hk, fun i hi => by rw [hA (58 + 52 * p + 12 + 5 * r + 1) _ (by omega), hA _ _ (by omega)]; exact c i hi, fun x hx => ?_, k, k7, by rw [hI _ _ (by omega) (by omega)]; exact ek⟩
    rw [hA _ _ (by omega), hA (58 + 52 * p + 12 + 5 * r + 4) _ (by omega)]
    simp only [fun m => hA (58 + 52 * p + 12 + 5 * r + 1) m (by omega), fun m => hA (58 + 52 * p + 12 + 5 * r + 2) m (by omega)]
    exact d x hx
theorem t_ch16 (a : Int32) : (a.toUInt32 % 65536).toInt32 = a &&& 65535 := by
  apply Int32.toBitVec_inj.mp
  rw [Int32.toBitVec_and]
  apply BitVec.eq_of_toNat_eq
  rw [BitVec.toNat_and]
  show a.toBitVec.toNat % 65536 = a.toBitVec.toNat &&& 65535
  exact (Nat.and_two_pow_sub_one_eq_mod _ 16).symm
theorem t_ch16b (a : Int32) : -100000 ≤ (a &&& 65535).toInt ∧ (a &&& 65535).toInt ≤ 100000 := by
  have h : (a &&& 65535).toBitVec.toNat < 65536 := by
    rw [Int32.toBitVec_and, BitVec.toNat_and]
    show a.toBitVec.toNat &&& 65535 < 65536
    exact Nat.lt_of_le_of_lt Nat.and_le_right (by decide)
  have e : (a &&& 65535).toInt = ((a &&& 65535).toBitVec.toNat : Int) := by
    show (a &&& 65535).toBitVec.toInt = _
    rw [BitVec.toInt_eq_toNat_of_lt (by omega)]
  omega
theorem t_by8 (a : Int32) : -100000 ≤ (a.toInt8.toInt32).toInt ∧ (a.toInt8.toInt32).toInt ≤ 100000 := by
  rw [Int8.toInt_toInt32]
  have h1 := Int8.le_toInt a.toInt8
  have h2 := Int8.toInt_lt a.toInt8
  omega
theorem t_by16 (a : Int32) : -100000 ≤ (a.toInt16.toInt32).toInt ∧ (a.toInt16.toInt32).toInt ≤ 100000 := by
  rw [Int16.toInt_toInt32]
  have h1 := Int16.le_toInt a.toInt16
  have h2 := Int16.toInt_lt a.toInt16
  omega
theorem k_cost (a1 a2 a3 a4 : Int32) (h : Rel n I G A L J R) (hn : n < 1073741000) : ∃ r I' A' J' R', f_X6_cost I A a1 a2 a3 a4 = some (r, I', A') ∧ f_X7_cost J R a1 a2 a3 a4 = some (r, J', R') ∧ Rel (n + 1) I' G A' L J' R' := by
  have hu := Rel_u h
  obtain ⟨np, z, sc, ⟨p1, p2, p3, p4⟩, _⟩ := id h
  have hno : ∀ w : Int32, Rel (n + 1) (up2 I 0 17 w) G A L (up2 (up2 (up2 J 318 0 0) 318 1 0) 318 1 w) R := fun w => Rel_st h (up2_s _ _ _ _) (fun k q => by rw [up2_k (by omega), up2_k (by omega), up2_k (by omega)])
  have e2' : up2 (up2 J 318 0 0) 318 1 0 318 2 = nI np := by rw [up2_k (by decide), up2_k (by decide)]; exact p3
  have e23 : up2 (up2 J 318 0 0) 318 1 0 318 23 = I 0 5 := by rw [up2_k (by decide), up2_k (by decide)]; exact hu.symm
  unfold f_X6_cost f_X7_cost f_X6_refuse f_X6_grant f_X7_no
  simp only [bd, Option.bind_some, (t_wi _ _ _).1, (t_wi _ _ _).2, e23]
  rcases t_isP (a := a1) (I := I) (J := up2 (up2 J 318 0 0) 318 1 0) p2 e2' p1 with ⟨p, hp, rfl, e1, e2⟩ | ⟨e1, e2⟩
  · rw [e1, Option.bind_some, if_neg z10]
    obtain ⟨g0, g1, g2, g3, g10, g11, l1, l2, l3, l10, l11⟩ := pq_all p (by omega)
    obtain ⟨⟨nv, nr, hP⟩, hK, hC⟩ := p4 p (by omega)
    have hnv := hP.2.2.1.1
    simp (disch := omega) only [gd_in, t_cl, gd_t g0]
    rcases t_hasVal (a := a2) (b := a3) hP e2 with ⟨x, y, x1, rfl, y1, y2, rfl, v1, v2⟩ | ⟨v1, v2⟩
    · rw [v1, v2, Option.bind_some, Option.bind_some, if_neg z10, if_neg z10]
      by_cases hc : ¬ a4 < -100000 ∧ ¬ 100000 < a4
      · rw [if_pos hc, if_neg z10, if_neg z10]
        by_cases hw : I 0 5 = -9
        · rw [if_pos hw, if_pos hw]
          obtain ⟨r1, r2⟩ := pq_row p (by omega) x (by omega)
          have hfin : ∀ w : Int32, -100000 ≤ w.toInt ∧ w.toInt ≤ 100000 → Rel (n + 1) (up2 (up2 (up2 I (58 + 52 * p) 2 (I (58 + 52 * p) 2 + 1)) (58 + 52 * p) 3 0) 0 17 0) G (up2 A (58 + 52 * p + 4 + x) y w) L (up2 (up2 (up2 J 318 0 0) 318 1 0) 318 14 (up2 (up2 J 318 0 0) 318 1 0 318 14 + 1)) (up2 (up2 (up2 (up2 R 323 (36 * p + 6 * x + y) w) 329 p (up2 (up2 J 318 0 0) 318 1 0 318 14 + 1)) 351 p 0) 352 p 0) := fun w hb => by
            refine Rel_P (nv' := nv) (nr' := nr) h hn (by omega) hw (fun j k q1 q2 => ?_) ?_ ?_ (fun j m q => ?_) (fun k q => ?_) ?_ (fun j m q => ?_) ?_ ?_ (up2_s _ _ _ _) (fun q j m hq hne hm => ?_) ?_ (TPr_cost hP (x := x) (y := y) (by omega) (by omega) (fun j k q1 q2 => ?_) (fun j m q => up2_n q) ?_ (by rw [up2_s]; exact hb) (fun j m q1 q2 q3 => ?_)) (fun v hv => ?_) (fun r hr => ?_) (fun nv2 q1 q2 => ?_)
            · rw [up2_n q2, up2_n (by omega), up2_n (by omega)]
            · rw [up2_n (by omega), up2_n (by omega), up2_s]
            · rw [up2_n (by omega), up2_s]
            · rw [up2_n (by omega)]
            · rw [up2_n (by omega), up2_n (by omega), up2_n (by omega)]
            · rw [up2_s, up2_n (by omega), up2_n (by omega)]
            · rw [up2_n (by omega), up2_n (by omega), up2_n (by omega), up2_n (by omega)]
            · rw [up2_n (by omega), up2_n (by omega), up2_s, up2_n (by omega), up2_n (by omega)]
            · rw [up2_n (by omega), up2_s]
            · unfold RPw at hm
              rw [up2_n (by omega), up2_n (by omega), up2_n (by omega), up2_n (by omega)]
            · rw [up2_s, up2_n (by omega), up2_s]
            · rw [up2_n (by omega), up2_n (by omega), up2_n (by omega)]
            · rw [up2_n (by omega), up2_n (by omega), up2_n (by omega), up2_s, up2_s]
            · rw [up2_n (by omega), up2_n (by omega), up2_n (by omega), up2_n (by omega)]
            · rw [up2_n (by omega), up2_n (by omega), up2_n (by omega), up2_n (by omega), up2_n (by omega)]; exact hK v hv
            · have ea : ∀ m, up2 A (58 + 52 * p + 4 + x) y w (58 + 52 * p + 12 + 5 * r + 3) m = A (58 + 52 * p + 12 + 5 * r + 3) m := fun m => up2_n (by omega)
              have eb : ∀ (a b c : Int32), up2 (up2 (up2 I (58 + 52 * p) 2 a) (58 + 52 * p) 3 b) 0 17 c (58 + 52 * p + 12 + 5 * r) 2 = I (58 + 52 * p + 12 + 5 * r) 2 := fun a b c => by rw [up2_n (by omega), up2_n (by omega), up2_n (by omega)]
              unfold nP npc
              simp only [ea, eb]
              exact hC r hr
            · have := (t_eq (by omega) (by omega)).mp (q1.symm.trans hP.2.2.1.2.2.1)
              exact ⟨by omega, fun m hm => up2_n (by omega)⟩
          unfold f_X1_setCost
          simp (disch := omega) only [t_cng, t_chg, Option.bind_some, gd_t g0, gd_t g2, gd_t g3, gd_t r1, r2, l2, l3, gd_in, t_cl, bd, m6, m36, hK x, t_ch16]
          by_cases c0 : A (58 + 52 * p + 2) x = 0
          · rw [if_pos c0, if_pos c0]
            exact ⟨_, _, _, _, _, rfl, rfl, hfin _ (t_by8 a4)⟩
          rw [if_neg c0, if_neg c0]
          by_cases c1 : A (58 + 52 * p + 2) x = 1
          · rw [if_pos c1, if_pos c1]
            exact ⟨_, _, _, _, _, rfl, rfl, hfin _ (t_by16 a4)⟩
          rw [if_neg c1, if_neg c1]
          by_cases c2 : A (58 + 52 * p + 2) x = 2
          · rw [if_pos c2, if_pos c2]
            exact ⟨_, _, _, _, _, rfl, rfl, hfin _ (t_ch16b a4)⟩
          rw [if_neg c2, if_neg c2]
          refine ⟨_, _, _, _, _, rfl, rfl, hfin _ ⟨?_, ?_⟩⟩
          · have := mt Int32.lt_iff_toInt_lt.mpr hc.1
            have e : (-100000 : Int32).toInt = -100000 := by decide
            omega
          · have := mt Int32.lt_iff_toInt_lt.mpr hc.2
            have e : (100000 : Int32).toInt = 100000 := by decide
            omega
        · rw [if_neg hw, if_neg hw]
          exact ⟨_, _, _, _, _, rfl, rfl, hno _⟩
      · rw [if_neg hc, if_pos rfl, if_pos rfl]
        exact ⟨_, _, _, _, _, rfl, rfl, hno _⟩
    · rw [v1, v2]
      exact ⟨_, _, _, _, _, rfl, rfl, hno _⟩
  · unfold f_X7_isValue
    rw [e1, e2]
    exact ⟨_, _, _, _, _, rfl, rfl, hno _⟩
end CH

/-! part 87.part -/
/-! THE TIE: parts -/
section CI
variable {I A : Nat → Nat → Int32} {G : Nat → Nat → Nat} {L : Nat → Nat → Int64} {J R I' A' J' R' : Nat → Nat → Int32} {n p nv nr : Nat}
theorem TPr_part {r0 m x : Nat} {w : Int32} (h : TPr I A R p (58 + 52 * p) nv nr) (hr0 : r0 < 8) (hm : nP I (58 + 52 * p + 12 + 5 * r0) = m) (hm6 : m < 6) (hx : x < nv) (hw1 : -50 ≤ w.toInt) (hw2 : w.toInt ≤ 50) (hz : A (58 + 52 * p + 12 + 5 * r0 + 3) x = 0)
    (hI : ∀ j k, 58 ≤ j → ¬ (j = 58 + 52 * p ∧ (k = 2 ∨ k = 3)) → ¬ (j = 58 + 52 * p + 12 + 5 * r0 ∧ k = 2) → I' j k = I j k) (h1 : I' (58 + 52 * p + 12 + 5 * r0) 2 = nI (m + 1))
    (hA : ∀ j k, ¬ ((j = 58 + 52 * p + 12 + 5 * r0 + 1 ∨ j = 58 + 52 * p + 12 + 5 * r0 + 2) ∧ k = m) → ¬ ((j = 58 + 52 * p + 12 + 5 * r0 + 3 ∨ j = 58 + 52 * p + 12 + 5 * r0 + 4) ∧ k = x) → A' j k = A j k)
    (h2 : A' (58 + 52 * p + 12 + 5 * r0 + 1) m = nI x) (h3 : A' (58 + 52 * p + 12 + 5 * r0 + 2) m = w) (h4 : A' (58 + 52 * p + 12 + 5 * r0 + 3) x = 1) (h5 : A' (58 + 52 * p + 12 + 5 * r0 + 4) x = w)
    (hR : ∀ j k, 319 ≤ j → j ≤ 328 → ¬ ((j = 327 ∨ j = 328) ∧ k = 6 * (8 * p + r0) + m) → ¬ (j = 326 ∧ k = 8 * p + r0) → R' j k = R j k)
    (h6 : R' 327 (6 * (8 * p + r0) + m) = nI x) (h7 : R' 328 (6 * (8 * p + r0) + m) = w) (h8 : R' 326 (8 * p + r0) = nI (m + 1)) : TPr I' A' R' p (58 + 52 * p) nv nr := by
  obtain ⟨hp, hB, hw, k1, k2, k3, k4, k5⟩ := h
  have hnv := hw.1
  have en : ∀ r, r ≠ r0 → nP I' (58 + 52 * p + 12 + 5 * r) = nP I (58 + 52 * p + 12 + 5 * r) := fun r hr => by unfold nP; rw [hI _ _ (by omega) (by omega) (by omega)]
  have en0 : nP I' (58 + 52 * p + 12 + 5 * r0) = m + 1 := by unfold nP; rw [h1, t_cl (by omega)]
  refine ⟨hp, hB, ⟨hw.1, hw.2.1, by rw [hI _ _ (by omega) (by omega) (by omega)]; exact hw.2.2.1, by rw [hI _ _ (by omega) (by omega) (by omega)]; exact hw.2.2.2.1, fun x hx => by rw [hA _ _ (by omega) (by omega)]; exact hw.2.2.2.2.1 x hx, fun r hr => ?_⟩, by rw [hR _ _ (by omega) (by omega) (by omega) (by omega)]; exact k1, by rw [hR _ _ (by omega) (by omega) (by omega) (by omega)]; exact k2, fun m hm => by rw [hR _ _ (by omega) (by omega) (by omega) (by omega), hA _ _ (by omega) (by omega)]; exact k3 m hm, fun x k hx hk => by rw [hR _ _ (by omega) (by omega) (by omega) (by omega), hA _ _ (by omega) (by omega)]; exact k4 x k hx hk, fun r hr => ?_⟩
  · have w := hw.2.2.2.2.2 r hr
    by_cases e : r = r0
    · subst e
      rw [hm] at w
      rw [en0]
      refine ⟨by omega, h1, fun i hi => ?_⟩
      by_cases ei : i = m
      · subst ei
        rw [h2]
        exact nI_in (by omega) (by omega)
      · rw [hA _ _ (by omega) (by omega)]
        exact w.2.2 i (by omega)
    · rw [en r e]
      exact ⟨w.1, by rw [hI _ _ (by omega) (by omega) (by omega)]; exact w.2.1, fun i hi => by rw [hA _ _ (by omega) (by omega)]; exact w.2.2 i hi⟩
  · obtain ⟨⟨a1, a2, a3, a4⟩, b, c, d, k, k7, ek⟩ := k5 r hr
    unfold TRl
    by_cases e : r = r0
    · subst e
      rw [hm] at b c d
      rw [en0]
      refine ⟨⟨by rw [hR _ _ (by omega) (by omega) (by omega) (by omega), hI _ _ (by omega) (by omega) (by omega)]; exact a1, by rw [hR _ _ (by omega) (by omega) (by omega) (by omega), hI _ _ (by omega) (by omega) (by omega)]; exact a2, by rw [h8, h1], fun k hk => ?_⟩, fun k hk => ?_, fun i hi => ?_, fun y hy => ?_, k, k7, by rw [hI _ _ (by omega) (by omega) (by omega)]; exact ek⟩
      · by_cases ek : k = m
        · subst ek
          rw [h6, h7, h2, h3]
          exact ⟨rfl, rfl⟩
        · rw [hR _ _ (by omega) (by omega) (by omega) (by omega), hR _ _ (by omega) (by omega) (by omega) (by omega), hA _ _ (by omega) (by omega), hA _ _ (by omega) (by omega)]
          exact a4 k hk
      · by_cases ek : k = m
        · subst ek
          rw [h3]
          exact ⟨hw1, hw2⟩
        · rw [hA _ _ (by omega) (by omega)]
          exact b k (by omega)
      · by_cases ei : i = m
        · subst ei
          rw [h2, t_cl (by omega), hA _ _ (by omega) (by omega)]
          exact hw.2.2.2.2.1 x hx
        · rw [hA (58 + 52 * p + 12 + 5 * r + 1) _ (by omega) (by omega), hA _ _ (by omega) (by omega)]
          exact c i (by omega)
      · by_cases ey : y = x
        · subst ey
          refine Or.inr ⟨by rw [h4]; decide, ⟨m, by omega, h2⟩, fun k hk hk2 => ?_⟩
          by_cases ek : k = m
          · subst ek
            rw [h3, h5]
          · rw [hA _ _ (by omega) (by omega)] at hk2
            rcases d y hy with ⟨d1, d2⟩ | ⟨d1, _⟩
            · exact absurd hk2 (d2 k (by omega))
            · exact absurd hz d1
        · rw [hA (58 + 52 * p + 12 + 5 * r + 3) _ (by omega) (by omega), hA (58 + 52 * p + 12 + 5 * r + 4) _ (by omega) (by omega)]
          have hne : ¬ A' (58 + 52 * p + 12 + 5 * r + 1) m = nI y := by
            rw [h2]
            exact fun q => ey ((t_eq (by omega) (by omega)).mp q).symm
          have ho : ∀ k, k < m → A' (58 + 52 * p + 12 + 5 * r + 1) k = A (58 + 52 * p + 12 + 5 * r + 1) k := fun k hk => hA _ _ (by omega) (by omega)
          have ho2 : ∀ k, k < m → A' (58 + 52 * p + 12 + 5 * r + 2) k = A (58 + 52 * p + 12 + 5 * r + 2) k := fun k hk => hA _ _ (by omega) (by omega)
          rcases d y hy with ⟨d1, d2⟩ | ⟨d1, ⟨k0, d2, d3⟩, d4⟩
          · refine Or.inl ⟨d1, fun k hk => ?_⟩
            by_cases ek : k = m
            · subst ek
              exact hne
            · rw [ho k (by omega)]
              exact d2 k (by omega)
          · refine Or.inr ⟨d1, ⟨k0, by omega, by rw [ho k0 d2]; exact d3⟩, fun k hk hk2 => ?_⟩
            by_cases ek : k = m
            · subst ek
              exact absurd hk2 hne
            · rw [ho k (by omega)] at hk2
              rw [ho2 k (by omega)]
              exact d4 k (by omega) hk2
    · rw [en r e]
      refine ⟨⟨by rw [hR _ _ (by omega) (by omega) (by omega) (by omega), hI _ _ (by omega) (by omega) (by omega)]; exact a1, by rw [hR _ _ (by omega) (by omega) (by omega) (by omega), hI _ _ (by omega) (by omega) (by omega)]; exact a2, by rw [hR _ _ (by omega) (by omega) (by omega) (by omega), hI _ _ (by omega) (by omega) (by omega)]; exact a3, fun k hk => by rw [hR _ _ (by omega) (by omega) (by omega) (by omega), hR _ _ (by omega) (by omega) (by omega) (by omega), hA _ _ (by omega) (by omega), hA _ _ (by omega) (by omega)]; exact a4 k hk⟩, fun k hk => by rw [hA _ _ (by omega) (by omega)]; exact b k hk, fun i hi => by rw [hA (58 + 52 * p + 12 + 5 * r + 1) _ (by omega) (by omega), hA _ _ (by omega) (by omega)]; exact c i hi, fun x hx => ?_, k, k7, by rw [hI _ _ (by omega) (by omega) (by omega)]; exact ek⟩
      rw [hA _ _ (by omega) (by omega), hA (58 + 52 * p + 12 + 5 * r + 4) _ (by omega) (by omega)]
      simp only [fun m => hA (58 + 52 * p + 12 + 5 * r + 1) m (by omega) (by omega), fun m => hA (58 + 52 * p + 12 + 5 * r + 2) m (by omega) (by omega)]
      exact d x hx
theorem npc_le {Q x : Nat} (hx : x < 6) (h : A (Q + 3) x = 0) : npc A Q ≤ 5 := by
  have hx6 : x = 0 ∨ x = 1 ∨ x = 2 ∨ x = 3 ∨ x = 4 ∨ x = 5 := by omega
  unfold npc
  rcases hx6 with rfl | rfl | rfl | rfl | rfl | rfl <;> rw [if_pos h] <;> (repeat' split) <;> omega
theorem npc_up {Q x : Nat} (hx : x < 6) (h : A (Q + 3) x = 0) (h1 : A' (Q + 3) x = 1) (ho : ∀ m, m ≠ x → A' (Q + 3) m = A (Q + 3) m) : npc A' Q = npc A Q + 1 := by
  have hx6 : x = 0 ∨ x = 1 ∨ x = 2 ∨ x = 3 ∨ x = 4 ∨ x = 5 := by omega
  have hn : ¬ A' (Q + 3) x = 0 := by rw [h1]; decide
  unfold npc
  rcases hx6 with rfl | rfl | rfl | rfl | rfl | rfl
  · rw [if_pos h, if_neg hn, ho 1 (by omega), ho 2 (by omega), ho 3 (by omega), ho 4 (by omega), ho 5 (by omega)]
    omega
  · rw [if_pos h, if_neg hn, ho 0 (by omega), ho 2 (by omega), ho 3 (by omega), ho 4 (by omega), ho 5 (by omega)]
    omega
  · rw [if_pos h, if_neg hn, ho 0 (by omega), ho 1 (by omega), ho 3 (by omega), ho 4 (by omega), ho 5 (by omega)]
    omega
  · rw [if_pos h, if_neg hn, ho 0 (by omega), ho 1 (by omega), ho 2 (by omega), ho 4 (by omega), ho 5 (by omega)]
    omega
  · rw [if_pos h, if_neg hn, ho 0 (by omega), ho 1 (by omega), ho 2 (by omega), ho 3 (by omega), ho 5 (by omega)]
    omega
  · rw [if_pos h, if_neg hn, ho 0 (by omega), ho 1 (by omega), ho 2 (by omega), ho 3 (by omega), ho 4 (by omega)]
theorem k_part (a1 a2 a3 a4 : Int32) (h : Rel n I G A L J R) (hn : n < 1073741000) : ∃ r I' A' J' R', f_X6_part I A a1 a2 a3 a4 = some (r, I', A') ∧ f_X7_part J R a1 a2 a3 a4 = some (r, J', R') ∧ Rel (n + 1) I' G A' L J' R' := by
  have hr := Rel_J0 h
  have hu := Rel_u h
  obtain ⟨np, z, sc, ⟨p1, p2, p3, p4⟩, q2, q3, q4, q5c, q5, q6, q7, _⟩ := id h
  have e2' : up2 J 318 0 0 318 2 = nI np := by rw [up2_k (by decide)]; exact p3
  have e23 : up2 J 318 0 0 318 23 = I 0 5 := by rw [up2_k (by decide)]; exact hu.symm
  unfold f_X6_part f_X7_part
  simp only [bd, Option.bind_some, (t_wi a4 (-50) 50).1, (t_wi a4 (-50) 50).2, e23]
  rcases t_isP (a := a1) (I := I) (J := up2 J 318 0 0) p2 e2' p1 with ⟨p, hp, rfl, e1, e2⟩ | ⟨e1, e2⟩
  · rw [e1, Option.bind_some, if_neg z10]
    obtain ⟨g0, g1, g2, g3, g10, g11, l1, l2, l3, l10, l11⟩ := pq_all p (by omega)
    obtain ⟨⟨nv, nr, hP⟩, hK, hC⟩ := p4 p (by omega)
    have hnv := hP.2.2.1.1
    have hnr := hP.2.2.1.2.1
    have hB0 := hP.2.2.1.2.2.1
    simp (disch := omega) only [gd_in, t_cl, gd_t g0, hP.2.2.2.1]
    rcases t_isRu (a := a2) hP e2 with ⟨r, r1, rfl, v1, v2⟩ | ⟨v1, v2⟩
    · rw [v1, v2, Option.bind_some, Option.bind_some, if_neg z10, if_neg z10]
      rcases t_hasV (a := a3) (by omega) hB0 hnv with ⟨x, x1, rfl, v3, v4⟩ | ⟨v3, v4⟩
      · rw [v3, v4, Option.bind_some, Option.bind_some, if_neg z10, if_neg z10]
        by_cases hc : ¬ a4 < -50 ∧ ¬ 50 < a4
        · rw [if_pos hc, if_neg z10, if_neg z10]
          by_cases hw : I 0 5 = -9
          · rw [if_pos hw, if_pos hw]
            obtain ⟨s0, s1, s2, s3, s4, t1, t2, t3, t4⟩ := pq_ru p (by omega) r (by omega)
            obtain ⟨hu, b, c, d, ku⟩ := hP.2.2.2.2.2.2.2 r (by omega)
            have hru := hP.2.2.1.2.2.2.2.2 r (by omega)
            have hpa := TPa_of (show 8 * p + r < 40 by omega) hu hru
            obtain ⟨m, em⟩ : ∃ m, m = nP I (58 + 52 * p + 12 + 5 * r) := ⟨_, rfl⟩
            rw [← em] at b c d hru hpa
            have hm6 := hru.1
            simp (disch := omega) only [gd_t g10, l10, gd_t s0, gd_t s3, t3, gd_in, t_cl]
            rw [r_partAt (x := x) (by omega) hpa, Option.bind_some]
            by_cases hz : A (58 + 52 * p + 12 + 5 * r + 3) x = 0
            · have hm5 : m < 6 := by
                have := npc_le (show x < 6 by omega) hz
                have := hC r (by omega)
                omega
              have hf : fst1 (ppt R (8 * p + r) x) m 0 = -9 := (fst1_n m 0 (by omega)).mpr (fun j _ hj => by
                rcases d x (by omega) with ⟨d1, d2⟩ | ⟨d1, _⟩
                · unfold ppt
                  rw [decide_eq_false_iff_not, (hu.2.2.2 j (by omega)).1]
                  exact d2 j (by omega)
                · exact absurd hz d1)
              rw [if_pos hz, if_pos hf]
              have eR : ∀ (q k : Nat) (a : Int32), q ≠ 326 → up2 R q k a 326 (8 * p + r) = nI m := fun q k a hq => by rw [up2_j (by omega)]; exact hu.2.2.1.trans hru.2.1
              have eR2 : ∀ (k k2 : Nat) (a b : Int32), up2 (up2 R 327 k a) 328 k2 b 326 (8 * p + r) = nI m := fun k k2 a b => by rw [up2_j (by omega), up2_j (by omega)]; exact hu.2.2.1.trans hru.2.1
              have eR0 : R 326 (8 * p + r) = nI m := hu.2.2.1.trans hru.2.1
              have eI1 : ∀ (a b : Int32), up2 (up2 I (58 + 52 * p) 2 a) (58 + 52 * p) 3 b (58 + 52 * p + 12 + 5 * r) 2 = nI m := fun a b => by rw [up2_j (by omega), up2_j (by omega)]; exact hru.2.1
              have eR3 : ∀ (F : Nat → Nat → Int32) (k1 k2 k3 : Nat) (a b c : Int32), up2 (up2 (up2 F 329 k1 a) 351 k2 b) 352 k3 c 326 (8 * p + r) = F 326 (8 * p + r) := fun F k1 k2 k3 a b c => by rw [up2_j (by omega), up2_j (by omega), up2_j (by omega)]
              unfold f_X1_addPart f_X2_add
              simp (disch := omega) only [t_cng, t_chg, Option.bind_some, gd_t g0, gd_t g10, gd_t s0, gd_t s1, gd_t s2, gd_t s3, gd_t s4, t1, t2, t3, t4, l10, gd_in, t_cl, bd, m8, m6, eR0, eR 327, eR2, eR3, eI1, nI_1, up2_s]
              have hv1 : vp_nar .boolean 1 = 1 := rfl
              rw [hv1]
              have w1 : -50 ≤ a4.toInt := by
                have := mt Int32.lt_iff_toInt_lt.mpr hc.1
                have e : (-50 : Int32).toInt = -50 := by decide
                omega
              have w2 : a4.toInt ≤ 50 := by
                have := mt Int32.lt_iff_toInt_lt.mpr hc.2
                have e : (50 : Int32).toInt = 50 := by decide
                omega
              refine ⟨_, _, _, _, _, rfl, rfl, Rel_P (nv' := nv) (nr' := nr) h hn (by omega) hw (fun j k q1 q2 => ?_) ?_ ?_ (fun j m q => ?_) (fun k q => ?_) ?_ (fun j m q => ?_) ?_ ?_ (up2_s _ _ _ _) (fun q j m hq hne hm => ?_) ?_ (TPr_part hP (r0 := r) (m := m) (x := x) (w := a4) (by omega) em.symm hm5 x1 w1 w2 hz (fun j k q1 q2 q3 => ?_) ?_ (fun j k q1 q2 => ?_) ?_ ?_ ?_ ?_ (fun j k q1 q2 q3 q4 => ?_) ?_ ?_ ?_) (fun v hv => ?_) (fun r' hr' => ?_) (fun nv2 q1 q2 => ?_)⟩
              · rw [up2_n (by omega), up2_n (by omega), up2_n (by omega)]
              · rw [up2_n (by omega), up2_n (by omega), up2_s]
              · rw [up2_n (by omega), up2_s]
              · rw [up2_n (by omega), up2_n (by omega), up2_n (by omega), up2_n (by omega)]
              · rw [up2_n (by omega), up2_n (by omega)]
              · rw [up2_s, up2_n (by omega)]
              · rw [up2_n (by omega), up2_n (by omega), up2_n (by omega), up2_n (by omega), up2_n (by omega), up2_n (by omega)]
              · rw [up2_n (by omega), up2_n (by omega), up2_s, up2_n (by omega)]
              · rw [up2_n (by omega), up2_s]
              · unfold RPw at hm
                rw [up2_n (by omega), up2_n (by omega), up2_n (by omega), up2_n (by omega), up2_n (by omega), up2_n (by omega)]
              · rw [up2_n (by omega), up2_n (by omega), up2_n (by omega), up2_n (by omega), up2_n (by omega)]; exact q7.1
              · rw [up2_n (by omega), up2_n (by omega), up2_n (by omega)]
              · rw [up2_s]
              · rw [up2_n (by omega), up2_n (by omega), up2_n (by omega), up2_n (by omega)]
              · rw [up2_n (by omega), up2_n (by omega), up2_n (by omega), up2_s]
              · rw [up2_n (by omega), up2_n (by omega), up2_s]
              · rw [up2_n (by omega), up2_s]
              · rw [up2_s]
              · rw [up2_n (by omega), up2_n (by omega), up2_n (by omega), up2_n (by omega), up2_n (by omega), up2_n (by omega)]
              · rw [up2_n (by omega), up2_n (by omega), up2_n (by omega), up2_n (by omega), up2_n (by omega), up2_s]
              · rw [up2_n (by omega), up2_n (by omega), up2_n (by omega), up2_n (by omega), up2_s]
              · rw [up2_n (by omega), up2_n (by omega), up2_n (by omega), up2_s]
              · rw [up2_n (by omega), up2_n (by omega), up2_n (by omega), up2_n (by omega), up2_n (by omega), up2_n (by omega), up2_n (by omega), up2_n (by omega), up2_n (by omega), up2_n (by omega)]; exact hK v hv
              · by_cases e : r' = r
                · subst e
                  have en : ∀ (a b : Int32), nP (up2 (up2 (up2 I (58 + 52 * p) 2 a) (58 + 52 * p) 3 b) (58 + 52 * p + 12 + 5 * r') 2 (nI (m + 1))) (58 + 52 * p + 12 + 5 * r') = m + 1 := fun a b => by unfold nP; rw [up2_s, t_cl (by omega)]
                  rw [en, npc_up (A := A) (x := x) (by omega) hz (by rw [up2_n (by omega), up2_s]) (fun k hk => by rw [up2_n (by omega), up2_n (by omega), up2_n (by omega), up2_n (by omega)])]
                  have := hC r' (by omega)
                  omega
                · have ea : ∀ k (a b c d : Int32), up2 (up2 (up2 (up2 A (58 + 52 * p + 12 + 5 * r + 1) m a) (58 + 52 * p + 12 + 5 * r + 2) m b) (58 + 52 * p + 12 + 5 * r + 3) x c) (58 + 52 * p + 12 + 5 * r + 4) x d (58 + 52 * p + 12 + 5 * r' + 3) k = A (58 + 52 * p + 12 + 5 * r' + 3) k := fun k a b c d => by rw [up2_n (by omega), up2_n (by omega), up2_n (by omega), up2_n (by omega)]
                  have eb : ∀ (a b c : Int32), up2 (up2 (up2 I (58 + 52 * p) 2 a) (58 + 52 * p) 3 b) (58 + 52 * p + 12 + 5 * r) 2 c (58 + 52 * p + 12 + 5 * r') 2 = I (58 + 52 * p + 12 + 5 * r') 2 := fun a b c => by rw [up2_n (by omega), up2_n (by omega), up2_n (by omega)]
                  unfold nP npc
                  simp only [ea, eb]
                  exact hC r' hr'
              · have := (t_eq (by omega) (by omega)).mp (q1.symm.trans hB0)
                exact ⟨by omega, fun k hk => by rw [up2_n (by omega), up2_n (by omega), up2_n (by omega), up2_n (by omega)]⟩
            · have hf : ¬ fst1 (ppt R (8 * p + r) x) m 0 = -9 := fun q => by
                rcases d x (by omega) with ⟨d1, d2⟩ | ⟨d1, ⟨k, k1, k2⟩, _⟩
                · exact hz d1
                · have := (fst1_n m 0 (by omega)).mp q k (by omega) (by omega)
                  unfold ppt at this
                  rw [decide_eq_false_iff_not, (hu.2.2.2 k (by omega)).1] at this
                  exact this k2
              rw [if_neg hz, if_neg hf]
              exact ⟨_, _, _, _, _, rfl, rfl, hr⟩
          · rw [if_neg hw, if_neg hw]
            exact ⟨_, _, _, _, _, rfl, rfl, hr⟩
        · rw [if_neg hc, if_pos rfl, if_pos rfl]
          exact ⟨_, _, _, _, _, rfl, rfl, hr⟩
      · rw [v3, v4]
        by_cases hc : ¬ a4 < -50 ∧ ¬ 50 < a4
        · rw [if_pos hc, if_neg z10]
          exact ⟨_, _, _, _, _, rfl, rfl, hr⟩
        · rw [if_neg hc, if_pos rfl]
          exact ⟨_, _, _, _, _, rfl, rfl, hr⟩
    · rw [v1, v2]
      by_cases hc : ¬ a4 < -50 ∧ ¬ 50 < a4
      · rw [if_pos hc, if_neg z10]
        exact ⟨_, _, _, _, _, rfl, rfl, hr⟩
      · rw [if_neg hc, if_pos rfl]
        exact ⟨_, _, _, _, _, rfl, rfl, hr⟩
  · unfold f_X7_isRule
    rw [e1, e2]
    exact ⟨_, _, _, _, _, rfl, rfl, hr⟩
end CI

/-! part 88.node -/
/-! THE TIE: node -/
theorem bnd_m {I A : Nat → Nat → Int32} {B v nr d : Nat} : ∀ (k i : Nat) (a : Int32), ((bnd I A B v nr d k i a).1 = 0 ∧ (bnd I A B v nr d k i a).2.1 = -9) ∨ (¬ (bnd I A B v nr d k i a).1 = 0 ∧ (bnd I A B v nr d k i a).2.2 = -1000000)
  | 0, _, _ => Or.inl ⟨rfl, rfl⟩
  | k + 1, i, a => by
    unfold bnd
    by_cases h : lbd I A B v nr d i = -1000000
    · rw [if_pos h]
      exact Or.inr ⟨(by decide : ¬ (3 : Int32) = 0), rfl⟩
    · rw [if_neg h]
      exact bnd_m k (i + 1) _
theorem lk_m {I A : Nat → Nat → Int32} {B v nv nr d : Nat} {mt : Int32} : ((lk I A B v nv nr d mt).1 = 0 ∧ (lk I A B v nv nr d mt).2.1 = -9) ∨ (¬ (lk I A B v nv nr d mt).1 = 0 ∧ (lk I A B v nv nr d mt).2.2 = -1000000) := by
  unfold lk
  by_cases h : fbk I A B v nr = -9
  · rw [if_pos h]
    by_cases h2 : mt = 0 ∨ d = 0 ∨ ftw I A B v nr (d - 1) = -9
    · rw [if_pos h2]
      exact bnd_m _ _ _
    · rw [if_neg h2]
      exact Or.inr ⟨(by decide : ¬ (2 : Int32) = 0), rfl⟩
  · rw [if_neg h]
    exact Or.inr ⟨(by decide : ¬ (1 : Int32) = 0), rfl⟩
/-- the row of the questions -/
def r4 (R : Nat → Nat → Int32) (ad i : Nat) : Nat → Nat → Int32 := fun j m => if j = 364 ∧ m < i then (if m < ad then R 362 m else -9) else R j m
theorem r4_o {R : Nat → Nat → Int32} {ad i j m : Nat} (h : j ≠ 364) : r4 R ad i j m = R j m := if_neg (fun q => h q.1)
theorem r4_s {R : Nat → Nat → Int32} {ad i : Nat} : up2 (r4 R ad i) 364 i (if i < ad then R 362 i else -9) = r4 R ad (i + 1) := by
  funext j m
  unfold up2 r4
  by_cases h : j = 364 ∧ m = i
  · rw [if_pos h, if_pos (show j = 364 ∧ m < i + 1 by omega), h.2]
  · rw [if_neg h]
    by_cases h2 : j = 364 ∧ m < i
    · rw [if_pos h2, if_pos (show j = 364 ∧ m < i + 1 by omega)]
    · rw [if_neg h2, if_neg (by omega)]
theorem t_node_L {a1 a2 a3 : Int32} {I1 R : Nat → Nat → Int32} {k12 : (Int32) → (Nat → Nat → Int32) → Option (Int32 × (Nat → Nat → Int32) × (Nat → Nat → Int32))} {v : Int32} {ad : Nat} (had : I1 318 59 = nI ad) (ha6 : ad ≤ 6) : ∀ (k i fu : Nat), i + k = 6 → k < fu → f_X7_node_L53 a1 a2 a3 I1 k12 fu (nI i) v (r4 R ad i) = k12 v (r4 R ad 6) := by
  intro k
  induction k with
  | zero =>
    intro i fu hi hf
    obtain ⟨fu, rfl⟩ : ∃ z, fu = z + 1 := ⟨fu - 1, by omega⟩
    have e : i = 6 := by omega
    subst e
    simp only [f_X7_node_L53]
    rw [if_neg (show ¬ nI 6 < 6 by decide)]
  | succ k ih =>
    intro i fu hi hf
    obtain ⟨fu, rfl⟩ : ∃ z, fu = z + 1 := ⟨fu - 1, by omega⟩
    have e := ih (i + 1) fu (by omega) (by omega)
    rw [← e, ← r4_s]
    simp (disch := omega) only [f_X7_node_L53, gd_in, t_cl, bd, had, nI_1]
    rw [if_pos (show nI i < 6 from nI_lt (b := 6) (by omega) (by omega))]
    by_cases h : i < ad
    · rw [if_pos (nI_lt h (by omega)), r4_o (by decide), if_pos h]
    · rw [if_neg (nI_nlt (by omega) (by omega)), if_neg h]
section CJ
variable {I A : Nat → Nat → Int32} {G : Nat → Nat → Nat} {L : Nat → Nat → Int64} {J R : Nat → Nat → Int32} {n : Nat}
theorem k_node (a1 a2 a3 : Int32) (h : Rel n I G A L J R) : ∃ r I' J' R', f_X6_node I A a1 a2 a3 = some (r, I') ∧ f_X7_node J R a1 a2 a3 = some (r, J', R') ∧ Rel (n + 1) I' G A L J' R' := by
  have hr := Rel_J0 h
  obtain ⟨np, z, sc, ⟨p1, p2, p3, p4⟩, _, _, _, _, q5, _, _, _, q9⟩ := id h
  have e : ∀ k, k ≠ 0 → up2 J 318 0 0 318 k = J 318 k := fun k q => up0 q
  unfold f_X6_node f_X7_node
  simp only [bd, e 57 (by decide), e 58 (by decide), e 59 (by decide), (t_wi a1 0 4).1, (t_wi a1 0 4).2, Option.bind_some]
  rcases t_rng (a := a1) (hi := 4) (by omega) with ⟨w, hw4, rfl⟩ | hc
  · rw [if_pos (show ¬ nI w < 0 ∧ ¬ 4 < nI w from t_rng1 (hi := 4) (by omega) hw4), if_neg z10, if_neg z10]
    rcases q5 with ⟨a, b⟩ | ⟨p, ad, nv, c, a, c', a', ⟨hp, hpn⟩, q2, q3, q4, q5, q6, q7, q8, q9', q10, q11, q12, q13, q14, q15, q16⟩
    · rw [if_pos a, if_pos b]
      exact ⟨_, _, _, _, rfl, rfl, hr⟩
    · obtain ⟨g0, g1, g2, g3, g10, g11, l1, l2, l3, l10, l11⟩ := pq_all p (by omega)
      obtain ⟨⟨nv2, nr, hP⟩, hK⟩ := p4 p (by omega)
      have hwp := hP.2.2.1
      have hnv := hwp.1
      have env : nv2 = nv := (t_eq (by omega) (by omega)).mp (hwp.2.2.1.symm.trans q4)
      subst env
      obtain ⟨np', n1, n2, n3⟩ := hpn
      have enp : np' = np := (t_eq (by omega) (by omega)).mp (n2.symm.trans p3)
      subst enp
      have hisP : f_X7_isProblem (up2 J 318 0 0) (nI p) = some 1 := by
        rcases t_isP (a := nI p) (I := I) (J := up2 J 318 0 0) p2 ((e 2 (by decide)).trans p3) p1 with ⟨_, _, _, _, x⟩ | ⟨_, x⟩
        · exact x
        · unfold f_X7_isProblem at x
          rw [(e 2 (by decide)).trans p3, (t_wi _ _ _).2, nI_s1 (by omega), if_pos (t_rng1 (by omega) (by omega))] at x
          exact absurd (Option.some.inj ((gd_t (Or.inr rfl)).symm.trans x)) (by decide)
      rw [q2, q3, q6, q7, if_neg (t_m9 (by omega)), if_neg (t_m9 (by omega))]
      simp (disch := omega) only [gd_in, t_cl, gd_t g0, q10, q11, q12, q13]
      rcases q16 with ⟨ec, ec'⟩ | ⟨ec, ec'⟩
      · subst ec ec'
        rw [if_pos rfl, if_pos rfl]
        have r40 : r4 R ad 0 = R := by
          funext j m
          exact if_neg (by omega)
        have hL : ∀ k12, f_X7_node_L53 (nI w) a2 a3 (up2 J 318 0 0) k12 FU 0 (nI p) R = k12 (nI p) (r4 R ad 6) := fun k12 => by
          have q := t_node_L (a1 := nI w) (a2 := a2) (a3 := a3) (I1 := up2 J 318 0 0) (R := R) (k12 := k12) (v := nI p) (ad := ad) ((e 59 (by decide)).trans q7) (by omega) 6 0 FU (by omega) (t_fu _ (by omega))
          rw [r40] at q
          exact q
        rw [hL]
        obtain ⟨R6, eR6⟩ : ∃ z, z = r4 R ad 6 := ⟨_, rfl⟩
        rw [← eR6]
        have oR : ∀ j m, j ≠ 364 → R6 j m = R j m := fun j m q => by rw [eR6]; exact r4_o q
        have hP6 : TPr I A R6 p (58 + 52 * p) nv2 nr := TPr_of hP (fun _ _ _ _ => rfl) (fun _ _ _ _ => rfl) (fun j k h1 h2 => oR j k (by omega))
        have hRo : TRo A R6 18 := fun i hi => by
          rw [eR6]
          unfold r4
          rw [if_pos ⟨rfl, hi⟩]
          by_cases hia : i < ad
          · obtain ⟨m, m1, m2, m3⟩ := q8 i hia
            have := (pr_sz hwp (show i < nv2 by omega)).2.2
            rw [if_pos hia]
            exact Or.inr ⟨m, by omega, m2, m3⟩
          · rw [if_neg hia]
            exact Or.inl ⟨q9' i (by omega) hi, rfl⟩
        have hRW : RoW A (58 + 52 * p) 18 ad := ⟨fun i hi => by
          obtain ⟨m, m1, m2, m3⟩ := q8 i hi
          have := (pr_sz hwp (show i < nv2 by omega)).2.2
          rw [m2]
          exact nI_in m1 (by omega), fun i h1 h2 => q9' i h1 h2⟩
        have hrel : ∀ (I2 J2 : Nat → Nat → Int32), (∀ j k, j ≠ 17 → I2 j k = I j k) → (∀ k, k ≠ 0 → k ≠ 64 → k ≠ 65 → J2 318 k = J 318 k) → Rel (n + 1) I2 G A L J2 R6 := fun I2 J2 hI hJ => Rel_fr h (Nat.le_succ n) (fun j k q => hI j k (by omega)) (fun _ _ _ => rfl) (fun _ _ _ => rfl) (fun _ _ _ _ => rfl) hJ (fun j m h1 h2 => oR j m (by omega)) (fun j x q => by rw [oR _ _ (by omega)]; exact q9 j x q)
        have hi18 : IA 18 6 := ⟨by decide, by decide +kernel, by decide +kernel⟩
        have hJ0 : ∀ k, k ≠ 0 → k ≠ 64 → k ≠ 65 → up2 J 318 0 0 318 k = J 318 k := fun k q _ _ => e k q
        have hw5 : w = 0 ∨ w = 1 ∨ w = 2 ∨ w = 3 ∨ w = 4 := by omega
        have z0 : nI 0 = (0 : Int32) := rfl
        have f_as : ∀ x : Int32, f_X6_asNumber x = some (if x = 0 then 0 else 1) := fun x => by unfold f_X6_asNumber; split <;> rfl
        rcases hw5 with rfl | rfl | hw2
        · rw [if_pos z0, if_pos z0]
          rcases t_isRu (a := a2) hP6 hisP with ⟨r, r1, rfl, v1, v2⟩ | ⟨v1, v2⟩
          · have hnr := hwp.2.1
            obtain ⟨s0, _⟩ := pq_ru p (by omega) r (by omega)
            have hpre : pre_X2_isBroken I A (58 + 52 * p + 12 + 5 * r) 18 (58 + 52 * p + 1) := ⟨pr_ru (tp_at hP) (by omega), hi18, ⟨by have := g1.1; unfold NS; omega, g1.2, l1⟩, hwp.2.2.2.2.2 r (by omega)⟩
            have hb : f_X2_isBroken I A (58 + 52 * p + 12 + 5 * r) 18 (58 + 52 * p + 1) = some (brk I A (58 + 52 * p + 12 + 5 * r) 18 (58 + 52 * p + 1) (nP I (58 + 52 * p + 12 + 5 * r))) := by
              unfold f_X2_isBroken gd
              rw [if_pos hpre]
            simp (disch := omega) only [v1, v2, Option.bind_some, if_neg z10, gd_t g10, l10, gd_in, t_cl, gd_t s0, hb, r_isBroken hp (tp_ru hP6 (show r < 8 by omega)) hRo, f_as]
            by_cases hz : brk I A (58 + 52 * p + 12 + 5 * r) 18 (58 + 52 * p + 1) (nP I (58 + 52 * p + 12 + 5 * r)) = 0
            · rw [if_pos hz, if_pos hz]
              exact ⟨_, _, _, _, rfl, rfl, hrel _ _ (fun _ _ _ => rfl) hJ0⟩
            · rw [if_neg hz, if_neg hz]
              exact ⟨_, _, _, _, rfl, rfl, hrel _ _ (fun _ _ _ => rfl) hJ0⟩
          · rw [v1, v2]
            exact ⟨_, _, _, _, rfl, rfl, hrel _ _ (fun _ _ _ => rfl) hJ0⟩
        · rw [if_neg (show ¬ nI 1 = 0 by decide), if_neg (show ¬ nI 1 = 0 by decide), if_pos (show nI 1 = 1 from rfl), if_pos (show nI 1 = 1 from rfl)]
          rcases t_hasVal (a := a2) (b := a3) hP6 hisP with ⟨x, y, x1, rfl, y1, y2, rfl, v1, v2⟩ | ⟨v1, v2⟩
          · have er : (I (58 + 52 * p) 1).toNatClampNeg = nr := by rw [hwp.2.2.2.1]; exact t_cl (by have := hwp.2.1; omega)
            have ev : (I (58 + 52 * p) 0).toNatClampNeg = nv2 := by rw [q4]; exact t_cl (by omega)
            have hpre : pre_X1_isOut I A (58 + 52 * p) 18 (nI x) (nI y) := by
              unfold pre_X1_isOut
              rw [t_cl (show x < 2147483648 by omega), er, ev]
              exact ⟨tp_at hP, hi18, by decide, by omega, rfl, hwp⟩
            have hb : f_X1_isOut I A (58 + 52 * p) 18 (nI x) (nI y) = some (if A 18 x = -1 then (if fbk I (up2 A 18 x (nI y)) (58 + 52 * p) 18 nr = -9 then 0 else 1) else 0) := by
              unfold f_X1_isOut gd
              rw [if_pos hpre, t_cl (show x < 2147483648 by omega), er]
            have hrO := r_isOut (x := x) (y := y) hP6 hRo (by decide) (by omega) (by omega)
            simp (disch := omega) only [v1, v2, Option.bind_some, if_neg z10, hb, f_as, hrO]
            by_cases hxa : x < ad
            · obtain ⟨m, m1, m2, m3⟩ := q8 x hxa
              have := (pr_sz hwp (show x < nv2 by omega)).2.2
              rw [if_pos (nI_lt hxa (by omega)), if_neg (show ¬ A 18 x = -1 by rw [m2]; exact t_m1 (by omega))]
              exact ⟨_, _, _, _, rfl, rfl, hrel _ _ (fun _ _ _ => rfl) hJ0⟩
            · rw [if_neg (nI_nlt (by omega) (by omega)), if_pos (q9' x (by omega) (by omega))]
              by_cases hz : fbk I (up2 A 18 x (nI y)) (58 + 52 * p) 18 nr = -9
              · rw [if_pos hz]
                exact ⟨_, _, _, _, rfl, rfl, hrel _ _ (fun _ _ _ => rfl) hJ0⟩
              · rw [if_neg hz]
                exact ⟨_, _, _, _, rfl, rfl, hrel _ _ (fun _ _ _ => rfl) hJ0⟩
          · rw [v1, v2]
            exact ⟨_, _, _, _, rfl, rfl, hrel _ _ (fun _ _ _ => rfl) hJ0⟩
        · have n0 : ¬ nI w = 0 := fun q => by
            have := (t_eq (b := 0) (by omega) (by omega)).mp q
            omega
          have n1 : ¬ nI w = 1 := fun q => by
            have := (t_eq (b := 1) (by omega) (by omega)).mp q
            omega
          rw [if_neg n0, if_neg n0, if_neg n1, if_neg n1]
          obtain ⟨J', j1, j2, j3, j4⟩ := r_whatIs (mt := 1) (J := up2 J 318 0 0) hP6 hRo (by decide) hRW (show ad ≤ nv2 by omega)
          rw [t_look (mt := 1) hP ⟨by decide, by decide, by decide +kernel⟩ hi18 (by decide) (by omega) hRW, j1, Option.bind_some, Option.bind_some]
          have hJ' : ∀ k, k ≠ 0 → k ≠ 64 → k ≠ 65 → J' 318 k = J 318 k := fun k h0 h1 h2 => by rw [j2 _ _ (by omega)]; exact e k h0
          obtain ⟨lw, elw⟩ : ∃ z, z = lk I A (58 + 52 * p) 18 nv2 nr ad 1 := ⟨_, rfl⟩
          have hlm := lk_m (I := I) (A := A) (B := 58 + 52 * p) (v := 18) (nv := nv2) (nr := nr) (d := ad) (mt := 1)
          rw [← elw] at hlm j3 j4 ⊢
          have hjd : ∀ j k, j ≠ 17 → jdI I 17 lw j k = I j k := fun j k q => by unfold jdI; rw [up2_j q, up2_j q, up2_j q]
          have d0 : jdI I 17 lw 17 0 = lw.1 := by unfold jdI; rw [up2_k (by decide), up2_k (by decide), up2_s]
          have d1 : jdI I 17 lw 17 1 = lw.2.1 := by unfold jdI; rw [up2_k (by decide), up2_s]
          have d2 : jdI I 17 lw 17 2 = lw.2.2 := by unfold jdI; rw [up2_s]
          dsimp only
          rcases hw2 with rfl | rfl | rfl
          · rw [if_pos (show nI 2 = 2 from rfl), if_pos (show nI 2 = 2 from rfl), d0]
            exact ⟨_, _, _, _, rfl, rfl, hrel _ _ hjd hJ'⟩
          · rw [if_neg (show ¬ nI 3 = 2 by decide), if_neg (show ¬ nI 3 = 2 by decide), if_pos (show nI 3 = 3 from rfl), if_pos (show nI 3 = 3 from rfl), d2]
            rcases hlm with ⟨m1, m2⟩ | ⟨m1, m2⟩
            · rw [if_pos (show lw.1 = 0 from m1), j3 m1]
              exact ⟨_, _, _, _, rfl, rfl, hrel _ _ hjd hJ'⟩
            · rw [if_neg (show ¬ lw.1 = 0 from m1), m2]
              exact ⟨_, _, _, _, rfl, rfl, hrel _ _ hjd hJ'⟩
          · rw [if_neg (show ¬ nI 4 = 2 by decide), if_neg (show ¬ nI 4 = 2 by decide), if_neg (show ¬ nI 4 = 3 by decide), if_neg (show ¬ nI 4 = 3 by decide), d1]
            rcases hlm with ⟨m1, m2⟩ | ⟨m1, m2⟩
            · rw [if_pos (show lw.1 = 0 from m1), m2]
              exact ⟨_, _, _, _, rfl, rfl, hrel _ _ hjd hJ'⟩
            · rw [if_neg (show ¬ lw.1 = 0 from m1), j4 m1]
              exact ⟨_, _, _, _, rfl, rfl, hrel _ _ hjd hJ'⟩
      · rw [if_neg (show ¬ nI c = nI a from fun q => by
          have := (t_eq (by omega) (by omega)).mp q
          omega), if_neg (show ¬ nI c' = nI a' from fun q => by
          have := (t_eq (by omega) (by omega)).mp q
          omega)]
        exact ⟨_, _, _, _, rfl, rfl, hr⟩
  · rw [if_neg (show ¬ (¬ a1 < 0 ∧ ¬ 4 < a1) from hc), if_pos rfl, if_pos rfl]
    exact ⟨_, _, _, _, rfl, rfl, hr⟩
end CJ

/-! part 89.qb -/
/-! THE TIE: booleans stay booleans (laid by gen89.py) -/
def Fb (F0 F : Nat → Nat → Int32) : Prop := (∀ j x, (j = 344 ∨ j = 345 ∨ j = 372 ∨ j = 373) → F0 j x = 0 ∨ F0 j x = 1) → ∀ j x, (j = 344 ∨ j = 345 ∨ j = 372 ∨ j = 373) → F j x = 0 ∨ F j x = 1
theorem Fb_rf {F : Nat → Nat → Int32} : Fb F F := fun h => h
theorem Fb_tr {F0 F1 F2 : Nat → Nat → Int32} (h : Fb F0 F1) (k : Fb F1 F2) : Fb F0 F2 := fun q => k (h q)
theorem Fb_up {F0 F : Nat → Nat → Int32} {s k : Nat} {v : Int32} (h : Fb F0 F) (hs : ¬ (s = 344 ∨ s = 345 ∨ s = 372 ∨ s = 373) ∨ v = 0 ∨ v = 1) : Fb F0 (up2 F s k v) := fun q j x hj => by
  unfold up2
  by_cases e : j = s ∧ x = k
  · rw [if_pos e]
    rcases hs with r | r
    · exact absurd (e.1 ▸ hj) r
    · exact r
  · rw [if_neg e]
    exact h q j x hj
theorem nb (v : Int32) : vp_nar .boolean v = 0 ∨ vp_nar .boolean v = 1 := by
  show v &&& 1 = 0 ∨ v &&& 1 = 1
  have h : (v &&& 1).toBitVec.toNat < 2 := by
    rw [Int32.toBitVec_and, BitVec.toNat_and]
    show v.toBitVec.toNat &&& 1 < 2
    exact Nat.lt_of_le_of_lt Nat.and_le_right (by decide)
  have e : (v &&& 1).toBitVec.toNat = 0 ∨ (v &&& 1).toBitVec.toNat = 1 := by omega
  rcases e with e | e
  · exact Or.inl (Int32.toBitVec_inj.mp (BitVec.eq_of_toNat_eq e))
  · exact Or.inr (Int32.toBitVec_inj.mp (BitVec.eq_of_toNat_eq e))
theorem nk {s : Nat} (h : kd s = 8) : ¬ (s = 344 ∨ s = 345 ∨ s = 372 ∨ s = 373) := by
  rintro (rfl | rfl | rfl | rfl) <;> exact absurd h (by decide +kernel)
set_option maxHeartbeats 4000000 in
set_option maxRecDepth 100000 in
theorem qb_X7_no (I : Nat → Nat → Int32) (a1 : Int32) (r0 : Int32) (I0 : Nat → Nat → Int32) (h : f_X7_no I a1 = some (r0, I0)) : Fb I I0 := by
  have fI : Fb I I := Fb_rf
  rw [f_X7_no] at h
  obtain ⟨I1, eI1, h⟩ := bd_e h
  have fI1 : Fb I I1 := by rw [eI1]; exact Fb_up fI (Or.inl (show ¬ (318 = 344 ∨ 318 = 345 ∨ 318 = 372 ∨ 318 = 373) by decide))
  cases h; exact fI1
set_option maxHeartbeats 4000000 in
set_option maxRecDepth 100000 in
theorem qb_X7_about (I : Nat → Nat → Int32) (A : Nat → Nat → Int32) (a1 : Int32) (a2 : Int32) (a3 : Int32) (r0 : Int32) (I0 : Nat → Nat → Int32) (h : f_X7_about I A a1 a2 a3 = some (r0, I0)) : Fb I I0 := by
  have fI : Fb I I := Fb_rf
  have fA : Fb A A := Fb_rf
  rw [f_X7_about] at h
  obtain ⟨I1, eI1, h⟩ := bd_e h
  have fI1 : Fb I I1 := by rw [eI1]; exact Fb_up fI (Or.inl (show ¬ (318 = 344 ∨ 318 = 345 ∨ 318 = 372 ∨ 318 = 373) by decide))
  obtain ⟨I2, eI2, h⟩ := bd_e h
  have fI2 : Fb I I2 := by rw [eI2]; exact Fb_up fI1 (Or.inl (show ¬ (318 = 344 ∨ 318 = 345 ∨ 318 = 372 ∨ 318 = 373) by decide))
  obtain ⟨r3, hc4, h⟩ := Option.bind_eq_some_iff.mp h
  by_cases c_5 : r3 = 0
  · have h := ip c_5 h
    obtain ⟨⟨r6, I7⟩, hc8, h⟩ := Option.bind_eq_some_iff.mp h
    have fI7 : Fb I I7 := Fb_tr fI2 (qb_X7_no I2 (-1) r6 I7 hc8)
    cases h; exact fI7
  · have h := iN c_5 h
    obtain ⟨r9, hc10, h⟩ := Option.bind_eq_some_iff.mp h
    by_cases c_11 : r9 = 0
    · have h := ip c_11 h
      obtain ⟨⟨r38, I39⟩, hc40, h⟩ := Option.bind_eq_some_iff.mp h
      have fI39 : Fb I I39 := Fb_tr fI2 (qb_X7_no I2 (-1) r38 I39 hc40)
      cases h; exact fI39
    · have h := iN c_11 h
      by_cases c_12 : a2 = 0
      · have h := ip c_12 h
        obtain ⟨hn37, h⟩ := gk h
        cases h; exact fI2
      · have h := iN c_12 h
        by_cases c_13 : a2 = 1
        · have h := ip c_13 h
          obtain ⟨hn36, h⟩ := gk h
          cases h; exact fI2
        · have h := iN c_13 h
          by_cases c_14 : a2 < 5
          · have h := ip c_14 h
            obtain ⟨r25, hc26, h⟩ := Option.bind_eq_some_iff.mp h
            by_cases c_27 : r25 = 0
            · have h := ip c_27 h
              obtain ⟨⟨r33, I34⟩, hc35, h⟩ := Option.bind_eq_some_iff.mp h
              have fI34 : Fb I I34 := Fb_tr fI2 (qb_X7_no I2 (-1) r33 I34 hc35)
              cases h; exact fI34
            · have h := iN c_27 h
              by_cases c_28 : a2 = 2
              · have h := ip c_28 h
                obtain ⟨hn32, h⟩ := gk h
                cases h; exact fI2
              · have h := iN c_28 h
                by_cases c_29 : a2 = 3
                · have h := ip c_29 h
                  obtain ⟨hn31, h⟩ := gk h
                  cases h; exact fI2
                · have h := iN c_29 h
                  obtain ⟨hn30, h⟩ := gk h
                  cases h; exact fI2
          · have h := iN c_14 h
            obtain ⟨hn15, h⟩ := gk h
            obtain ⟨r16, hc17, h⟩ := Option.bind_eq_some_iff.mp h
            by_cases c_18 : r16 = 0
            · have h := ip c_18 h
              obtain ⟨⟨r22, I23⟩, hc24, h⟩ := Option.bind_eq_some_iff.mp h
              have fI23 : Fb I I23 := Fb_tr fI2 (qb_X7_no I2 (-1) r22 I23 hc24)
              cases h; exact fI23
            · have h := iN c_18 h
              by_cases c_19 : a2 = 5
              · have h := ip c_19 h
                obtain ⟨hn21, h⟩ := gk h
                cases h; exact fI2
              · have h := iN c_19 h
                obtain ⟨hn20, h⟩ := gk h
                cases h; exact fI2
set_option maxHeartbeats 4000000 in
set_option maxRecDepth 100000 in
theorem qb_X7_addNode (I : Nat → Nat → Int32) (A : Nat → Nat → Int32) (a1 : Int32) (a2 : Int32) (I0 : Nat → Nat → Int32) (A0 : Nat → Nat → Int32) (h : f_X7_addNode I A a1 a2 = some (I0, A0)) : Fb I I0 ∧ Fb A A0 := by
  have fI : Fb I I := Fb_rf
  have fA : Fb A A := Fb_rf
  rw [f_X7_addNode] at h
  obtain ⟨I1, eI1, h⟩ := bd_e h
  have fI1 : Fb I I1 := by rw [eI1]; exact Fb_up fI (Or.inl (show ¬ (318 = 344 ∨ 318 = 345 ∨ 318 = 372 ∨ 318 = 373) by decide))
  obtain ⟨hn2, h⟩ := gk h
  obtain ⟨A3, eA3, h⟩ := bd_e h
  have fA3 : Fb A A3 := by rw [eA3]; exact Fb_up fA (Or.inl (show ¬ (338 = 344 ∨ 338 = 345 ∨ 338 = 372 ∨ 338 = 373) by decide))
  obtain ⟨A4, eA4, h⟩ := bd_e h
  have fA4 : Fb A A4 := by rw [eA4]; exact Fb_up fA3 (Or.inl (show ¬ (342 = 344 ∨ 342 = 345 ∨ 342 = 372 ∨ 342 = 373) by decide))
  obtain ⟨A5, eA5, h⟩ := bd_e h
  have fA5 : Fb A A5 := by rw [eA5]; exact Fb_up fA4 (Or.inl (show ¬ (341 = 344 ∨ 341 = 345 ∨ 341 = 372 ∨ 341 = 373) by decide))
  obtain ⟨A6, eA6, h⟩ := bd_e h
  have fA6 : Fb A A6 := by rw [eA6]; exact Fb_up fA5 (Or.inl (show ¬ (343 = 344 ∨ 343 = 345 ∨ 343 = 372 ∨ 343 = 373) by decide))
  obtain ⟨A7, eA7, h⟩ := bd_e h
  have fA7 : Fb A A7 := by rw [eA7]; exact Fb_up fA6 (Or.inr (nb _))
  obtain ⟨A8, eA8, h⟩ := bd_e h
  have fA8 : Fb A A8 := by rw [eA8]; exact Fb_up fA7 (Or.inr (nb _))
  obtain ⟨A9, eA9, h⟩ := bd_e h
  have fA9 : Fb A A9 := by rw [eA9]; exact Fb_up fA8 (Or.inl (show ¬ (349 = 344 ∨ 349 = 345 ∨ 349 = 372 ∨ 349 = 373) by decide))
  obtain ⟨k15, ek15, h⟩ := bd_e h
  have kk15 : ∀ (v16 : Int32) (v17 : Int32) (A18 : Nat → Nat → Int32), k15 v16 v17 A18 = some (I0, A0) → Fb A A18 → Fb I I0 ∧ Fb A A0 := by
    intro v16 v17 A18 h fA18
    subst ek15
    obtain ⟨hn19, h⟩ := gk h
    obtain ⟨A20, eA20, h⟩ := bd_e h
    have fA20 : Fb A A20 := by rw [eA20]; exact Fb_up fA18 (Or.inl (show ¬ (340 = 344 ∨ 340 = 345 ∨ 340 = 372 ∨ 340 = 373) by decide))
    cases h; exact ⟨fI1, fA20⟩
  have lp10 : ∀ (n : Nat) (v11 : Int32) (v12 : Int32) (v13 : Int32) (A14 : Nat → Nat → Int32), f_X7_addNode_L74 a1 I1 k15 n v11 v12 v13 A14 = some (I0, A0) → Fb A A14 → Fb I I0 ∧ Fb A A0 := by
    intro n
    induction n with
    | zero => intro v11 v12 v13 A14 h; exact absurd h (by rw [f_X7_addNode_L74]; exact nofun)
    | succ n ih10 =>
      intro v11 v12 v13 A14 h fA14
      rw [f_X7_addNode_L74] at h
      by_cases c_21 : v11 < 6
      · have h := ip c_21 h
        obtain ⟨j24, ej24, h⟩ := bd_e h
        have kj24 : ∀ (z23 : Int32), j24 z23 = some (I0, A0) → Fb I I0 ∧ Fb A A0 := by
          intro z23 h
          subst ej24
          obtain ⟨hn25, h⟩ := gk h
          obtain ⟨A26, eA26, h⟩ := bd_e h
          have fA26 : Fb A A26 := by rw [eA26]; exact Fb_up fA14 (Or.inl (show ¬ (339 = 344 ∨ 339 = 345 ∨ 339 = 372 ∨ 339 = 373) by decide))
          by_cases c_27 : v11 < a1
          · have h := ip c_27 h
            obtain ⟨hn28, h⟩ := gk h
            exact ih10 (v11 + 1) ((7 * v12) + ((A26 364 v11.toNatClampNeg) + 1)) v13 A26 h fA26
          · have h := iN c_27 h
            exact ih10 (v11 + 1) ((7 * v12) + 0) v13 A26 h fA26
        by_cases c_29 : v11 < a1
        · have h := ip c_29 h
          obtain ⟨hn30, h⟩ := gk h
          exact kj24 (A14 364 v11.toNatClampNeg) h
        · have h := iN c_29 h
          exact kj24 (-9) h
      · have h := iN c_21 h
        exact kk15 v13 v12 A14 h fA14
  exact lp10 FU 0 0 (I 318 29) A9 h fA9
set_option maxHeartbeats 4000000 in
set_option maxRecDepth 100000 in
theorem qb_X7_answer (I : Nat → Nat → Int32) (A : Nat → Nat → Int32) (a1 : Int32) (a2 : Int32) (r0 : Int32) (I0 : Nat → Nat → Int32) (h : f_X7_answer I A a1 a2 = some (r0, I0)) : Fb I I0 := by
  have fI : Fb I I := Fb_rf
  have fA : Fb A A := Fb_rf
  rw [f_X7_answer] at h
  obtain ⟨I1, eI1, h⟩ := bd_e h
  have fI1 : Fb I I1 := by rw [eI1]; exact Fb_up fI (Or.inl (show ¬ (318 = 344 ∨ 318 = 345 ∨ 318 = 372 ∨ 318 = 373) by decide))
  obtain ⟨r2, hc3, h⟩ := Option.bind_eq_some_iff.mp h
  by_cases c_4 : r2 = 0
  · have h := ip c_4 h
    cases h; exact fI1
  · have h := iN c_4 h
    obtain ⟨hn5, h⟩ := gk h
    obtain ⟨r6, hc7, h⟩ := Option.bind_eq_some_iff.mp h
    by_cases c_8 : r6 = 0
    · have h := ip c_8 h
      cases h; exact fI1
    · have h := iN c_8 h
      by_cases c_9 : (A 352 a1.toNatClampNeg) = 0
      · have h := ip c_9 h
        cases h; exact fI1
      · have h := iN c_9 h
        obtain ⟨hn10, h⟩ := gk h
        cases h; exact fI1
set_option maxHeartbeats 4000000 in
set_option maxRecDepth 100000 in
theorem qb_X7_swap (A : Nat → Nat → Int32) (s0 : Nat) (s1 : Nat) (A0 : Nat → Nat → Int32) (h : f_X7_swap A s0 s1 = some A0) : Fb A A0 := by
  have fA : Fb A A := Fb_rf
  rw [f_X7_swap] at h
  obtain ⟨k4, ek4, h⟩ := bd_e h
  have kk4 : ∀ (A5 : Nat → Nat → Int32), k4 A5 = some A0 → Fb A A5 → Fb A A0 := by
    intro A5 h fA5
    subst ek4
    cases h; exact fA5
  have lp1 : ∀ (n : Nat) (v2 : Int32) (A3 : Nat → Nat → Int32), f_X7_swap_L2 s0 s1 k4 n v2 A3 = some A0 → Fb A A3 → Fb A A0 := by
    intro n
    induction n with
    | zero => intro v2 A3 h; exact absurd h (by rw [f_X7_swap_L2]; exact nofun)
    | succ n ih1 =>
      intro v2 A3 h fA3
      rw [f_X7_swap_L2] at h
      obtain ⟨hk6, h⟩ := gk h
      by_cases c_7 : v2 < (nI (ln s0))
      · have h := ip c_7 h
        obtain ⟨hn8, h⟩ := gk h
        obtain ⟨hk9, h⟩ := gk h
        obtain ⟨hn10, h⟩ := gk h
        obtain ⟨A11, eA11, h⟩ := bd_e h
        have fA11 : Fb A A11 := by rw [eA11]; exact Fb_up fA3 (Or.inl (nk hk6.2))
        obtain ⟨A12, eA12, h⟩ := bd_e h
        have fA12 : Fb A A12 := by rw [eA12]; exact Fb_up fA11 (Or.inl (nk hk9.2))
        exact ih1 (v2 + 1) A12 h fA12
      · have h := iN c_7 h
        exact kk4 A3 h fA3
  exact lp1 FU 0 A h fA
set_option maxHeartbeats 4000000 in
set_option maxRecDepth 100000 in
theorem qb_X7_turnRound (A : Nat → Nat → Int32) (s0 : Nat) (s1 : Nat) (A0 : Nat → Nat → Int32) (h : f_X7_turnRound A s0 s1 = some A0) : Fb A A0 := by
  have fA : Fb A A := Fb_rf
  rw [f_X7_turnRound] at h
  obtain ⟨k4, ek4, h⟩ := bd_e h
  have kk4 : ∀ (A5 : Nat → Nat → Int32), k4 A5 = some A0 → Fb A A5 → Fb A A0 := by
    intro A5 h fA5
    subst ek4
    cases h; exact fA5
  have lp1 : ∀ (n : Nat) (v2 : Int32) (A3 : Nat → Nat → Int32), f_X7_turnRound_L2 s0 s1 k4 n v2 A3 = some A0 → Fb A A3 → Fb A A0 := by
    intro n
    induction n with
    | zero => intro v2 A3 h; exact absurd h (by rw [f_X7_turnRound_L2]; exact nofun)
    | succ n ih1 =>
      intro v2 A3 h fA3
      rw [f_X7_turnRound_L2] at h
      obtain ⟨hk6, h⟩ := gk h
      by_cases c_7 : v2 < (nI (ln s0))
      · have h := ip c_7 h
        obtain ⟨hn8, h⟩ := gk h
        obtain ⟨hk9, h⟩ := gk h
        obtain ⟨hn10, h⟩ := gk h
        obtain ⟨A11, eA11, h⟩ := bd_e h
        have fA11 : Fb A A11 := by rw [eA11]; exact Fb_up fA3 (Or.inr (nb _))
        obtain ⟨A12, eA12, h⟩ := bd_e h
        have fA12 : Fb A A12 := by rw [eA12]; exact Fb_up fA11 (Or.inr (nb _))
        exact ih1 (v2 + 1) A12 h fA12
      · have h := iN c_7 h
        exact kk4 A3 h fA3
  exact lp1 FU 0 A h fA
set_option maxHeartbeats 4000000 in
set_option maxRecDepth 100000 in
theorem qb_X7_aside (I : Nat → Nat → Int32) (A : Nat → Nat → Int32) (I0 : Nat → Nat → Int32) (A0 : Nat → Nat → Int32) (h : f_X7_aside I A = some (I0, A0)) : Fb I I0 ∧ Fb A A0 := by
  have fI : Fb I I := Fb_rf
  have fA : Fb A A := Fb_rf
  rw [f_X7_aside] at h
  obtain ⟨I1, eI1, h⟩ := bd_e h
  have fI1 : Fb I I1 := by rw [eI1]; exact Fb_up fI (Or.inl (show ¬ (318 = 344 ∨ 318 = 345 ∨ 318 = 372 ∨ 318 = 373) by decide))
  obtain ⟨I2, eI2, h⟩ := bd_e h
  have fI2 : Fb I I2 := by rw [eI2]; exact Fb_up fI1 (Or.inl (show ¬ (318 = 344 ∨ 318 = 345 ∨ 318 = 372 ∨ 318 = 373) by decide))
  obtain ⟨I3, eI3, h⟩ := bd_e h
  have fI3 : Fb I I3 := by rw [eI3]; exact Fb_up fI2 (Or.inl (show ¬ (318 = 344 ∨ 318 = 345 ∨ 318 = 372 ∨ 318 = 373) by decide))
  obtain ⟨A4, eA4, h⟩ := bd_e h
  have fA4 : Fb A A4 := by rw [eA4]; exact Fb_up fA (Or.inl (show ¬ (365 = 344 ∨ 365 = 345 ∨ 365 = 372 ∨ 365 = 373) by decide))
  obtain ⟨A5, eA5, h⟩ := bd_e h
  have fA5 : Fb A A5 := by rw [eA5]; exact Fb_up fA4 (Or.inl (show ¬ (365 = 344 ∨ 365 = 345 ∨ 365 = 372 ∨ 365 = 373) by decide))
  obtain ⟨A6, eA6, h⟩ := bd_e h
  have fA6 : Fb A A6 := by rw [eA6]; exact Fb_up fA5 (Or.inl (show ¬ (365 = 344 ∨ 365 = 345 ∨ 365 = 372 ∨ 365 = 373) by decide))
  obtain ⟨A7, hc8, h⟩ := Option.bind_eq_some_iff.mp h
  have fA7 : Fb A A7 := Fb_tr fA6 (qb_X7_swap A6 338 366 A7 hc8)
  obtain ⟨A9, hc10, h⟩ := Option.bind_eq_some_iff.mp h
  have fA9 : Fb A A9 := Fb_tr fA7 (qb_X7_swap A7 339 367 A9 hc10)
  obtain ⟨A11, hc12, h⟩ := Option.bind_eq_some_iff.mp h
  have fA11 : Fb A A11 := Fb_tr fA9 (qb_X7_swap A9 340 368 A11 hc12)
  obtain ⟨A13, hc14, h⟩ := Option.bind_eq_some_iff.mp h
  have fA13 : Fb A A13 := Fb_tr fA11 (qb_X7_swap A11 341 369 A13 hc14)
  obtain ⟨A15, hc16, h⟩ := Option.bind_eq_some_iff.mp h
  have fA15 : Fb A A15 := Fb_tr fA13 (qb_X7_swap A13 342 370 A15 hc16)
  obtain ⟨A17, hc18, h⟩ := Option.bind_eq_some_iff.mp h
  have fA17 : Fb A A17 := Fb_tr fA15 (qb_X7_swap A15 343 371 A17 hc18)
  obtain ⟨A19, hc20, h⟩ := Option.bind_eq_some_iff.mp h
  have fA19 : Fb A A19 := Fb_tr fA17 (qb_X7_turnRound A17 344 372 A19 hc20)
  obtain ⟨A21, hc22, h⟩ := Option.bind_eq_some_iff.mp h
  have fA21 : Fb A A21 := Fb_tr fA19 (qb_X7_turnRound A19 345 373 A21 hc22)
  obtain ⟨A23, hc24, h⟩ := Option.bind_eq_some_iff.mp h
  have fA23 : Fb A A23 := Fb_tr fA21 (qb_X7_swap A21 346 374 A23 hc24)
  obtain ⟨A25, hc26, h⟩ := Option.bind_eq_some_iff.mp h
  have fA25 : Fb A A25 := Fb_tr fA23 (qb_X7_swap A23 347 375 A25 hc26)
  obtain ⟨A27, hc28, h⟩ := Option.bind_eq_some_iff.mp h
  have fA27 : Fb A A27 := Fb_tr fA25 (qb_X7_swap A25 348 376 A27 hc28)
  obtain ⟨A29, hc30, h⟩ := Option.bind_eq_some_iff.mp h
  have fA29 : Fb A A29 := Fb_tr fA27 (qb_X7_swap A27 349 377 A29 hc30)
  cases h; exact ⟨fI3, fA29⟩
set_option maxHeartbeats 4000000 in
set_option maxRecDepth 100000 in
theorem qb_X7_ask (I : Nat → Nat → Int32) (A : Nat → Nat → Int32) (a1 : Int32) (r0 : Int32) (I0 : Nat → Nat → Int32) (h : f_X7_ask I A a1 = some (r0, I0)) : Fb I I0 := by
  have fI : Fb I I := Fb_rf
  have fA : Fb A A := Fb_rf
  rw [f_X7_ask] at h
  obtain ⟨I1, eI1, h⟩ := bd_e h
  have fI1 : Fb I I1 := by rw [eI1]; exact Fb_up fI (Or.inl (show ¬ (318 = 344 ∨ 318 = 345 ∨ 318 = 372 ∨ 318 = 373) by decide))
  obtain ⟨r2, hc3, h⟩ := Option.bind_eq_some_iff.mp h
  by_cases c_4 : r2 = 0
  · have h := ip c_4 h
    cases h; exact fI1
  · have h := iN c_4 h
    obtain ⟨I5, eI5, h⟩ := bd_e h
    have fI5 : Fb I I5 := by rw [eI5]; exact Fb_up fI1 (Or.inl (show ¬ (318 = 344 ∨ 318 = 345 ∨ 318 = 372 ∨ 318 = 373) by decide))
    obtain ⟨hn6, h⟩ := gk h
    obtain ⟨I7, eI7, h⟩ := bd_e h
    have fI7 : Fb I I7 := by rw [eI7]; exact Fb_up fI5 (Or.inl (show ¬ (318 = 344 ∨ 318 = 345 ∨ 318 = 372 ∨ 318 = 373) by decide))
    obtain ⟨I8, eI8, h⟩ := bd_e h
    have fI8 : Fb I I8 := by rw [eI8]; exact Fb_up fI7 (Or.inl (show ¬ (318 = 344 ∨ 318 = 345 ∨ 318 = 372 ∨ 318 = 373) by decide))
    cases h; exact fI8
set_option maxHeartbeats 4000000 in
set_option maxRecDepth 100000 in
theorem qb_X7_isOut (A : Nat → Nat → Int32) (a1 : Int32) (a2 : Int32) (a3 : Int32) (r0 : Int32) (A0 : Nat → Nat → Int32) (h : f_X7_isOut A a1 a2 a3 = some (r0, A0)) : Fb A A0 := by
  have fA : Fb A A := Fb_rf
  rw [f_X7_isOut] at h
  obtain ⟨hn1, h⟩ := gk h
  obtain ⟨A2, eA2, h⟩ := bd_e h
  have fA2 : Fb A A2 := by rw [eA2]; exact Fb_up fA (Or.inl (show ¬ (364 = 344 ∨ 364 = 345 ∨ 364 = 372 ∨ 364 = 373) by decide))
  obtain ⟨r3, hc4, h⟩ := Option.bind_eq_some_iff.mp h
  by_cases c_5 : r3 = (-9)
  · have h := ip c_5 h
    obtain ⟨A6, eA6, h⟩ := bd_e h
    have fA6 : Fb A A6 := by rw [eA6]; exact Fb_up fA2 (Or.inl (show ¬ (364 = 344 ∨ 364 = 345 ∨ 364 = 372 ∨ 364 = 373) by decide))
    cases h; exact fA6
  · have h := iN c_5 h
    obtain ⟨A7, eA7, h⟩ := bd_e h
    have fA7 : Fb A A7 := by rw [eA7]; exact Fb_up fA2 (Or.inl (show ¬ (364 = 344 ∨ 364 = 345 ∨ 364 = 372 ∨ 364 = 373) by decide))
    cases h; exact fA7
set_option maxHeartbeats 4000000 in
set_option maxRecDepth 100000 in
theorem qb_X7_whatIs (I : Nat → Nat → Int32) (A : Nat → Nat → Int32) (a1 : Int32) (a2 : Int32) (a3 : Int32) (r0 : Int32) (I0 : Nat → Nat → Int32) (A0 : Nat → Nat → Int32) (h : f_X7_whatIs I A a1 a2 a3 = some (r0, I0, A0)) : Fb I I0 ∧ Fb A A0 := by
  have fI : Fb I I := Fb_rf
  have fA : Fb A A := Fb_rf
  rw [f_X7_whatIs] at h
  obtain ⟨r1, hc2, h⟩ := Option.bind_eq_some_iff.mp h
  obtain ⟨I3, eI3, h⟩ := bd_e h
  have fI3 : Fb I I3 := by rw [eI3]; exact Fb_up fI (Or.inl (show ¬ (318 = 344 ∨ 318 = 345 ∨ 318 = 372 ∨ 318 = 373) by decide))
  by_cases c_4 : (I3 318 64) = (-9)
  · have h := ip c_4 h
    obtain ⟨k7, ek7, h⟩ := bd_e h
    have kk7 : ∀ (v8 : Int32), k7 v8 = some (r0, I0, A0) → Fb I I0 ∧ Fb A A0 := by
      intro v8 h
      subst ek7
      obtain ⟨I9, eI9, h⟩ := bd_e h
      have fI9 : Fb I I9 := by rw [eI9]; exact Fb_up fI3 (Or.inl (show ¬ (318 = 344 ∨ 318 = 345 ∨ 318 = 372 ∨ 318 = 373) by decide))
      cases h; exact ⟨fI9, fA⟩
    obtain ⟨k10, ek10, h⟩ := bd_e h
    have kk10 : ∀ (_ : Unit), k10 () = some (r0, I0, A0) → Fb I I0 ∧ Fb A A0 := by
      intro _ h
      subst ek10
      obtain ⟨I11, eI11, h⟩ := bd_e h
      have fI11 : Fb I I11 := by rw [eI11]; exact Fb_up fI3 (Or.inl (show ¬ (318 = 344 ∨ 318 = 345 ∨ 318 = 372 ∨ 318 = 373) by decide))
      obtain ⟨k16, ek16, h⟩ := bd_e h
      have kk16 : ∀ (v17 : Int32) (I18 : Nat → Nat → Int32) (A19 : Nat → Nat → Int32), k16 v17 I18 A19 = some (r0, I0, A0) → Fb I I18 → Fb A A19 → Fb I I0 ∧ Fb A A0 := by
        intro v17 I18 A19 h fI18 fA19
        subst ek16
        obtain ⟨I20, eI20, h⟩ := bd_e h
        have fI20 : Fb I I20 := by rw [eI20]; exact Fb_up fI18 (Or.inl (show ¬ (318 = 344 ∨ 318 = 345 ∨ 318 = 372 ∨ 318 = 373) by decide))
        cases h; exact ⟨fI20, fA19⟩
      obtain ⟨k21, ek21, h⟩ := bd_e h
      have kk21 : ∀ (I22 : Nat → Nat → Int32) (A23 : Nat → Nat → Int32), k21 I22 A23 = some (r0, I0, A0) → Fb I I22 → Fb A A23 → Fb I I0 ∧ Fb A A0 := by
        intro I22 A23 h fI22 fA23
        subst ek21
        cases h; exact ⟨fI22, fA23⟩
      have lp12 : ∀ (n : Nat) (v13 : Int32) (I14 : Nat → Nat → Int32) (A15 : Nat → Nat → Int32), f_X7_whatIs_L88 a1 a2 k16 k21 n v13 I14 A15 = some (r0, I0, A0) → Fb I I14 → Fb A A15 → Fb I I0 ∧ Fb A A0 := by
        intro n
        induction n with
        | zero => intro v13 I14 A15 h; exact absurd h (by rw [f_X7_whatIs_L88]; exact nofun)
        | succ n ih12 =>
          intro v13 I14 A15 h fI14 fA15
          rw [f_X7_whatIs_L88] at h
          obtain ⟨hn24, h⟩ := gk h
          by_cases c_25 : v13 < (A15 319 a1.toNatClampNeg)
          · have h := ip c_25 h
            by_cases c_26 : v13 < a2
            · have h := ip c_26 h
              obtain ⟨hn50, h⟩ := gk h
              obtain ⟨r51, hc52, h⟩ := Option.bind_eq_some_iff.mp h
              obtain ⟨I53, eI53, h⟩ := bd_e h
              have fI53 : Fb I I53 := by rw [eI53]; exact Fb_up fI14 (Or.inl (show ¬ (318 = 344 ∨ 318 = 345 ∨ 318 = 372 ∨ 318 = 373) by decide))
              exact ih12 (v13 + 1) I53 A15 h fI53 fA15
            · have h := iN c_26 h
              obtain ⟨k31, ek31, h⟩ := bd_e h
              have kk31 : ∀ (v32 : Int32) (A33 : Nat → Nat → Int32), k31 v32 A33 = some (r0, I0, A0) → Fb A A33 → Fb I I0 ∧ Fb A A0 := by
                intro v32 A33 h fA33
                subst ek31
                by_cases c_34 : v32 = (-9)
                · have h := ip c_34 h
                  exact kk16 v13 I14 A33 h fI14 fA33
                · have h := iN c_34 h
                  obtain ⟨r35, hc36, h⟩ := Option.bind_eq_some_iff.mp h
                  obtain ⟨I37, eI37, h⟩ := bd_e h
                  have fI37 : Fb I I37 := by rw [eI37]; exact Fb_up fI14 (Or.inl (show ¬ (318 = 344 ∨ 318 = 345 ∨ 318 = 372 ∨ 318 = 373) by decide))
                  exact ih12 (v13 + 1) I37 A33 h fI37 fA33
              have lp27 : ∀ (n : Nat) (v28 : Int32) (v29 : Int32) (A30 : Nat → Nat → Int32), f_X7_whatIs_L138 v13 a1 a2 I14 k31 n v28 v29 A30 = some (r0, I0, A0) → Fb A A30 → Fb I I0 ∧ Fb A A0 := by
                intro n
                induction n with
                | zero => intro v28 v29 A30 h; exact absurd h (by rw [f_X7_whatIs_L138]; exact nofun)
                | succ n ih27 =>
                  intro v28 v29 A30 h fA30
                  rw [f_X7_whatIs_L138] at h
                  obtain ⟨hn38, h⟩ := gk h
                  by_cases c_39 : v28 < (A30 321 (((6 * a1) + v13).toNatClampNeg))
                  · have h := ip c_39 h
                    obtain ⟨⟨r40, A41⟩, hc42, h⟩ := Option.bind_eq_some_iff.mp h
                    have fA41 : Fb A A41 := Fb_tr fA30 (qb_X7_isOut A30 a1 v13 v28 r40 A41 hc42)
                    by_cases c_43 : r40 = 0
                    · have h := ip c_43 h
                      by_cases c_44 : v29 = (-9)
                      · have h := ip c_44 h
                        exact ih27 (v28 + 1) v28 A41 h fA41
                      · have h := iN c_44 h
                        obtain ⟨r45, hc46, h⟩ := Option.bind_eq_some_iff.mp h
                        obtain ⟨r47, hc48, h⟩ := Option.bind_eq_some_iff.mp h
                        by_cases c_49 : r45 < r47
                        · have h := ip c_49 h
                          exact ih27 (v28 + 1) v28 A41 h fA41
                        · have h := iN c_49 h
                          exact ih27 (v28 + 1) v29 A41 h fA41
                    · have h := iN c_43 h
                      exact ih27 (v28 + 1) v29 A41 h fA41
                  · have h := iN c_39 h
                    exact kk31 v29 A30 h fA30
              exact lp27 FU 0 (-9) A15 h fA15
          · have h := iN c_25 h
            exact kk21 I14 A15 h fI14 fA15
      exact lp12 FU 0 I11 A h fI11 fA
    have lp5 : ∀ (n : Nat) (v6 : Int32), f_X7_whatIs_L23 a1 a2 a3 I3 A k7 k10 n v6 = some (r0, I0, A0) → Fb I I0 ∧ Fb A A0 := by
      intro n
      induction n with
      | zero => intro v6 h; exact absurd h (by rw [f_X7_whatIs_L23]; exact nofun)
      | succ n ih5 =>
        intro v6 h
        rw [f_X7_whatIs_L23] at h
        by_cases c_54 : (v6 + 1) < a2
        · have h := ip c_54 h
          by_cases c_55 : a3 = 0
          · have h := ip c_55 h
            exact kk10 () h
          · have h := iN c_55 h
            obtain ⟨hn56, h⟩ := gk h
            obtain ⟨hn57, h⟩ := gk h
            by_cases c_58 : (A 364 ((a2 - 1).toNatClampNeg)) < (A 364 v6.toNatClampNeg)
            · have h := ip c_58 h
              obtain ⟨r59, hc60, h⟩ := Option.bind_eq_some_iff.mp h
              by_cases c_61 : r59 = 0
              · have h := ip c_61 h
                exact ih5 (v6 + 1) h
              · have h := iN c_61 h
                exact kk7 v6 h
            · have h := iN c_58 h
              exact ih5 (v6 + 1) h
        · have h := iN c_54 h
          exact kk10 () h
    exact lp5 FU 0 h
  · have h := iN c_4 h
    cases h; exact ⟨fI3, fA⟩
set_option maxHeartbeats 4000000 in
set_option maxRecDepth 100000 in
theorem qb_X7_begins (I : Nat → Nat → Int32) (A : Nat → Nat → Int32) (a1 : Int32) (a2 : Int32) (I0 : Nat → Nat → Int32) (A0 : Nat → Nat → Int32) (h : f_X7_begins I A a1 a2 = some (I0, A0)) : Fb I I0 ∧ Fb A A0 := by
  have fI : Fb I I := Fb_rf
  have fA : Fb A A := Fb_rf
  rw [f_X7_begins] at h
  obtain ⟨I1, eI1, h⟩ := bd_e h
  have fI1 : Fb I I1 := by rw [eI1]; exact Fb_up fI (Or.inl (show ¬ (318 = 344 ∨ 318 = 345 ∨ 318 = 372 ∨ 318 = 373) by decide))
  obtain ⟨I2, eI2, h⟩ := bd_e h
  have fI2 : Fb I I2 := by rw [eI2]; exact Fb_up fI1 (Or.inl (show ¬ (318 = 344 ∨ 318 = 345 ∨ 318 = 372 ∨ 318 = 373) by decide))
  obtain ⟨I3, eI3, h⟩ := bd_e h
  have fI3 : Fb I I3 := by rw [eI3]; exact Fb_up fI2 (Or.inl (show ¬ (318 = 344 ∨ 318 = 345 ∨ 318 = 372 ∨ 318 = 373) by decide))
  obtain ⟨k7, ek7, h⟩ := bd_e h
  have kk7 : ∀ (A8 : Nat → Nat → Int32), k7 A8 = some (I0, A0) → Fb A A8 → Fb I I0 ∧ Fb A A0 := by
    intro A8 h fA8
    subst ek7
    obtain ⟨⟨r9, I10, A11⟩, hc12, h⟩ := Option.bind_eq_some_iff.mp h
    have fI10 : Fb I I10 := Fb_tr fI3 (qb_X7_whatIs I3 A8 a1 0 a2 r9 I10 A11 hc12).1
    have fA11 : Fb A A11 := Fb_tr fA8 (qb_X7_whatIs I3 A8 a1 0 a2 r9 I10 A11 hc12).2
    by_cases c_13 : r9 = 0
    · have h := ip c_13 h
      obtain ⟨⟨I14, A15⟩, hc16, h⟩ := Option.bind_eq_some_iff.mp h
      have fI14 : Fb I I14 := Fb_tr fI10 (qb_X7_addNode I10 A11 0 (-9) I14 A15 hc16).1
      have fA15 : Fb A A15 := Fb_tr fA11 (qb_X7_addNode I10 A11 0 (-9) I14 A15 hc16).2
      cases h; exact ⟨fI14, fA15⟩
    · have h := iN c_13 h
      cases h; exact ⟨fI10, fA11⟩
  have lp4 : ∀ (n : Nat) (v5 : Int32) (A6 : Nat → Nat → Int32), f_X7_begins_L17 a1 a2 I3 k7 n v5 A6 = some (I0, A0) → Fb A A6 → Fb I I0 ∧ Fb A A0 := by
    intro n
    induction n with
    | zero => intro v5 A6 h; exact absurd h (by rw [f_X7_begins_L17]; exact nofun)
    | succ n ih4 =>
      intro v5 A6 h fA6
      rw [f_X7_begins_L17] at h
      by_cases c_17 : v5 < 6
      · have h := ip c_17 h
        obtain ⟨hn18, h⟩ := gk h
        obtain ⟨A19, eA19, h⟩ := bd_e h
        have fA19 : Fb A A19 := by rw [eA19]; exact Fb_up fA6 (Or.inl (show ¬ (364 = 344 ∨ 364 = 345 ∨ 364 = 372 ∨ 364 = 373) by decide))
        exact ih4 (v5 + 1) A19 h fA19
      · have h := iN c_17 h
        exact kk7 A6 h fA6
  exact lp4 FU 0 A h fA
set_option maxHeartbeats 4000000 in
set_option maxRecDepth 100000 in
theorem qb_X7_changes (I : Nat → Nat → Int32) (A : Nat → Nat → Int32) (a1 : Int32) (I0 : Nat → Nat → Int32) (A0 : Nat → Nat → Int32) (h : f_X7_changes I A a1 = some (I0, A0)) : Fb I I0 ∧ Fb A A0 := by
  have fI : Fb I I := Fb_rf
  have fA : Fb A A := Fb_rf
  rw [f_X7_changes] at h
  obtain ⟨I1, eI1, h⟩ := bd_e h
  have fI1 : Fb I I1 := by rw [eI1]; exact Fb_up fI (Or.inl (show ¬ (318 = 344 ∨ 318 = 345 ∨ 318 = 372 ∨ 318 = 373) by decide))
  obtain ⟨hn2, h⟩ := gk h
  obtain ⟨A3, eA3, h⟩ := bd_e h
  have fA3 : Fb A A3 := by rw [eA3]; exact Fb_up fA (Or.inl (show ¬ (329 = 344 ∨ 329 = 345 ∨ 329 = 372 ∨ 329 = 373) by decide))
  obtain ⟨A4, eA4, h⟩ := bd_e h
  have fA4 : Fb A A4 := by rw [eA4]; exact Fb_up fA3 (Or.inl (show ¬ (351 = 344 ∨ 351 = 345 ∨ 351 = 372 ∨ 351 = 373) by decide))
  obtain ⟨A5, eA5, h⟩ := bd_e h
  have fA5 : Fb A A5 := by rw [eA5]; exact Fb_up fA4 (Or.inl (show ¬ (352 = 344 ∨ 352 = 345 ∨ 352 = 372 ∨ 352 = 373) by decide))
  cases h; exact ⟨fI1, fA5⟩
set_option maxHeartbeats 4000000 in
set_option maxRecDepth 100000 in
theorem qb_X7_closed (I : Nat → Nat → Int32) (A : Nat → Nat → Int32) (a1 : Int32) (a2 : Int32) (a3 : Int32) (r0 : Int32) (I0 : Nat → Nat → Int32) (h : f_X7_closed I A a1 a2 a3 = some (r0, I0)) : Fb I I0 := by
  have fI : Fb I I := Fb_rf
  have fA : Fb A A := Fb_rf
  rw [f_X7_closed] at h
  obtain ⟨I1, eI1, h⟩ := bd_e h
  have fI1 : Fb I I1 := by rw [eI1]; exact Fb_up fI (Or.inl (show ¬ (318 = 344 ∨ 318 = 345 ∨ 318 = 372 ∨ 318 = 373) by decide))
  obtain ⟨r2, hc3, h⟩ := Option.bind_eq_some_iff.mp h
  by_cases c_4 : r2 = 0
  · have h := ip c_4 h
    cases h; exact fI1
  · have h := iN c_4 h
    obtain ⟨r5, hc6, h⟩ := Option.bind_eq_some_iff.mp h
    by_cases c_7 : r5 = 0
    · have h := ip c_7 h
      cases h; exact fI1
    · have h := iN c_7 h
      obtain ⟨hn8, h⟩ := gk h
      obtain ⟨r9, hc10, h⟩ := Option.bind_eq_some_iff.mp h
      by_cases c_11 : r9 = 0
      · have h := ip c_11 h
        cases h; exact fI1
      · have h := iN c_11 h
        by_cases c_12 : a3 = 0
        · have h := ip c_12 h
          obtain ⟨hn14, h⟩ := gk h
          cases h; exact fI1
        · have h := iN c_12 h
          obtain ⟨hn13, h⟩ := gk h
          cases h; exact fI1
set_option maxHeartbeats 4000000 in
set_option maxRecDepth 100000 in
theorem qb_X7_cost (I : Nat → Nat → Int32) (A : Nat → Nat → Int32) (a1 : Int32) (a2 : Int32) (a3 : Int32) (a4 : Int32) (r0 : Int32) (I0 : Nat → Nat → Int32) (A0 : Nat → Nat → Int32) (h : f_X7_cost I A a1 a2 a3 a4 = some (r0, I0, A0)) : Fb I I0 ∧ Fb A A0 := by
  have fI : Fb I I := Fb_rf
  have fA : Fb A A := Fb_rf
  rw [f_X7_cost] at h
  obtain ⟨I1, eI1, h⟩ := bd_e h
  have fI1 : Fb I I1 := by rw [eI1]; exact Fb_up fI (Or.inl (show ¬ (318 = 344 ∨ 318 = 345 ∨ 318 = 372 ∨ 318 = 373) by decide))
  obtain ⟨I2, eI2, h⟩ := bd_e h
  have fI2 : Fb I I2 := by rw [eI2]; exact Fb_up fI1 (Or.inl (show ¬ (318 = 344 ∨ 318 = 345 ∨ 318 = 372 ∨ 318 = 373) by decide))
  obtain ⟨r3, hc4, h⟩ := Option.bind_eq_some_iff.mp h
  by_cases c_5 : r3 = 0
  · have h := ip c_5 h
    obtain ⟨⟨r6, I7⟩, hc8, h⟩ := Option.bind_eq_some_iff.mp h
    have fI7 : Fb I I7 := Fb_tr fI2 (qb_X7_no I2 (-1) r6 I7 hc8)
    cases h; exact ⟨fI7, fA⟩
  · have h := iN c_5 h
    obtain ⟨r9, hc10, h⟩ := Option.bind_eq_some_iff.mp h
    by_cases c_11 : r9 = 0
    · have h := ip c_11 h
      obtain ⟨⟨r29, I30⟩, hc31, h⟩ := Option.bind_eq_some_iff.mp h
      have fI30 : Fb I I30 := Fb_tr fI2 (qb_X7_no I2 (-1) r29 I30 hc31)
      cases h; exact ⟨fI30, fA⟩
    · have h := iN c_11 h
      by_cases c_12 : (I2 318 23) = (-9)
      · have h := ip c_12 h
        obtain ⟨hn13, h⟩ := gk h
        obtain ⟨j17, ej17, h⟩ := bd_e h
        have kj17 : ∀ (z16 : Int32), j17 z16 = some (r0, I0, A0) → Fb I I0 ∧ Fb A A0 := by
          intro z16 h
          subst ej17
          obtain ⟨hn18, h⟩ := gk h
          obtain ⟨A19, eA19, h⟩ := bd_e h
          have fA19 : Fb A A19 := by rw [eA19]; exact Fb_up fA (Or.inl (show ¬ (323 = 344 ∨ 323 = 345 ∨ 323 = 372 ∨ 323 = 373) by decide))
          obtain ⟨⟨I20, A21⟩, hc22, h⟩ := Option.bind_eq_some_iff.mp h
          have fI20 : Fb I I20 := Fb_tr fI2 (qb_X7_changes I2 A19 a1 I20 A21 hc22).1
          have fA21 : Fb A A21 := Fb_tr fA19 (qb_X7_changes I2 A19 a1 I20 A21 hc22).2
          cases h; exact ⟨fI20, fA21⟩
        by_cases c_23 : (A 322 (((6 * a1) + a2).toNatClampNeg)) = 0
        · have h := ip c_23 h
          exact kj17 a4.toInt8.toInt32 h
        · have h := iN c_23 h
          by_cases c_24 : (A 322 (((6 * a1) + a2).toNatClampNeg)) = 1
          · have h := ip c_24 h
            exact kj17 a4.toInt16.toInt32 h
          · have h := iN c_24 h
            by_cases c_25 : (A 322 (((6 * a1) + a2).toNatClampNeg)) = 2
            · have h := ip c_25 h
              exact kj17 (a4 &&& 65535) h
            · have h := iN c_25 h
              exact kj17 a4 h
      · have h := iN c_12 h
        obtain ⟨⟨r26, I27⟩, hc28, h⟩ := Option.bind_eq_some_iff.mp h
        have fI27 : Fb I I27 := Fb_tr fI2 (qb_X7_no I2 (-2) r26 I27 hc28)
        cases h; exact ⟨fI27, fA⟩
set_option maxHeartbeats 4000000 in
set_option maxRecDepth 100000 in
theorem qb_X7_costs (I : Nat → Nat → Int32) (A : Nat → Nat → Int32) (a1 : Int32) (a2 : Int32) (a3 : Int32) (r0 : Int32) (I0 : Nat → Nat → Int32) (h : f_X7_costs I A a1 a2 a3 = some (r0, I0)) : Fb I I0 := by
  have fI : Fb I I := Fb_rf
  have fA : Fb A A := Fb_rf
  rw [f_X7_costs] at h
  obtain ⟨I1, eI1, h⟩ := bd_e h
  have fI1 : Fb I I1 := by rw [eI1]; exact Fb_up fI (Or.inl (show ¬ (318 = 344 ∨ 318 = 345 ∨ 318 = 372 ∨ 318 = 373) by decide))
  obtain ⟨I2, eI2, h⟩ := bd_e h
  have fI2 : Fb I I2 := by rw [eI2]; exact Fb_up fI1 (Or.inl (show ¬ (318 = 344 ∨ 318 = 345 ∨ 318 = 372 ∨ 318 = 373) by decide))
  obtain ⟨r3, hc4, h⟩ := Option.bind_eq_some_iff.mp h
  by_cases c_5 : r3 = 0
  · have h := ip c_5 h
    obtain ⟨⟨r6, I7⟩, hc8, h⟩ := Option.bind_eq_some_iff.mp h
    have fI7 : Fb I I7 := Fb_tr fI2 (qb_X7_no I2 (-1) r6 I7 hc8)
    cases h; exact fI7
  · have h := iN c_5 h
    obtain ⟨r9, hc10, h⟩ := Option.bind_eq_some_iff.mp h
    cases h; exact fI2
set_option maxHeartbeats 4000000 in
set_option maxRecDepth 100000 in
theorem qb_X7_count (I : Nat → Nat → Int32) (a1 : Int32) (r0 : Int32) (I0 : Nat → Nat → Int32) (h : f_X7_count I a1 = some (r0, I0)) : Fb I I0 := by
  have fI : Fb I I := Fb_rf
  rw [f_X7_count] at h
  obtain ⟨I1, eI1, h⟩ := bd_e h
  have fI1 : Fb I I1 := by rw [eI1]; exact Fb_up fI (Or.inl (show ¬ (318 = 344 ∨ 318 = 345 ∨ 318 = 372 ∨ 318 = 373) by decide))
  rcases sw_7 a1 with hs2 | hs2 | hs2 | hs2 | hs2 | hs2 | hs2 | hs2 | hs2
  · have h := ip hs2 h
    cases h; exact fI1
  · have h := iN (by rw [hs2]; decide) h
    have h := ip hs2 h
    cases h; exact fI1
  · have h := iN (by rw [hs2]; decide) h
    have h := iN (by rw [hs2]; decide) h
    have h := ip hs2 h
    cases h; exact fI1
  · have h := iN (by rw [hs2]; decide) h
    have h := iN (by rw [hs2]; decide) h
    have h := iN (by rw [hs2]; decide) h
    have h := ip hs2 h
    cases h; exact fI1
  · have h := iN (by rw [hs2]; decide) h
    have h := iN (by rw [hs2]; decide) h
    have h := iN (by rw [hs2]; decide) h
    have h := iN (by rw [hs2]; decide) h
    have h := ip hs2 h
    cases h; exact fI1
  · have h := iN (by rw [hs2]; decide) h
    have h := iN (by rw [hs2]; decide) h
    have h := iN (by rw [hs2]; decide) h
    have h := iN (by rw [hs2]; decide) h
    have h := iN (by rw [hs2]; decide) h
    have h := ip hs2 h
    by_cases c_3 : (I1 318 23) = (-9)
    · have h := ip c_3 h
      cases h; exact fI1
    · have h := iN c_3 h
      cases h; exact fI1
  · have h := iN (by rw [hs2]; decide) h
    have h := iN (by rw [hs2]; decide) h
    have h := iN (by rw [hs2]; decide) h
    have h := iN (by rw [hs2]; decide) h
    have h := iN (by rw [hs2]; decide) h
    have h := iN (by rw [hs2]; decide) h
    have h := ip hs2 h
    by_cases c_4 : (I1 318 23) = (-9)
    · have h := ip c_4 h
      cases h; exact fI1
    · have h := iN c_4 h
      cases h; exact fI1
  · have h := iN (by rw [hs2]; decide) h
    have h := iN (by rw [hs2]; decide) h
    have h := iN (by rw [hs2]; decide) h
    have h := iN (by rw [hs2]; decide) h
    have h := iN (by rw [hs2]; decide) h
    have h := iN (by rw [hs2]; decide) h
    have h := iN (by rw [hs2]; decide) h
    have h := ip hs2 h
    by_cases c_5 : (I1 318 23) = (-9)
    · have h := ip c_5 h
      cases h; exact fI1
    · have h := iN c_5 h
      cases h; exact fI1
  · have h := iN (fun q => by rw [q] at hs2; exact absurd hs2 (by decide)) h
    have h := iN (fun q => by rw [q] at hs2; exact absurd hs2 (by decide)) h
    have h := iN (fun q => by rw [q] at hs2; exact absurd hs2 (by decide)) h
    have h := iN (fun q => by rw [q] at hs2; exact absurd hs2 (by decide)) h
    have h := iN (fun q => by rw [q] at hs2; exact absurd hs2 (by decide)) h
    have h := iN (fun q => by rw [q] at hs2; exact absurd hs2 (by decide)) h
    have h := iN (fun q => by rw [q] at hs2; exact absurd hs2 (by decide)) h
    have h := iN (fun q => by rw [q] at hs2; exact absurd hs2 (by decide)) h
    cases h; exact fI1
set_option maxHeartbeats 4000000 in
set_option maxRecDepth 100000 in
theorem qb_X7_endsAs (I : Nat → Nat → Int32) (A : Nat → Nat → Int32) (a1 : Int32) (a2 : Int32) (I0 : Nat → Nat → Int32) (A0 : Nat → Nat → Int32) (h : f_X7_endsAs I A a1 a2 = some (I0, A0)) : Fb I I0 ∧ Fb A A0 := by
  have fI : Fb I I := Fb_rf
  have fA : Fb A A := Fb_rf
  rw [f_X7_endsAs] at h
  obtain ⟨r1, hc2, h⟩ := Option.bind_eq_some_iff.mp h
  obtain ⟨j5, ej5, h⟩ := bd_e h
  have kj5 : ∀ (z4 : Int32), j5 z4 = some (I0, A0) → Fb I I0 ∧ Fb A A0 := by
    intro z4 h
    subst ej5
    obtain ⟨hn6, h⟩ := gk h
    obtain ⟨A7, eA7, h⟩ := bd_e h
    have fA7 : Fb A A7 := by rw [eA7]; exact Fb_up fA (Or.inl (show ¬ (350 = 344 ∨ 350 = 345 ∨ 350 = 372 ∨ 350 = 373) by decide))
    obtain ⟨hn8, h⟩ := gk h
    obtain ⟨A9, eA9, h⟩ := bd_e h
    have fA9 : Fb A A9 := by rw [eA9]; exact Fb_up fA7 (Or.inl (show ¬ (350 = 344 ∨ 350 = 345 ∨ 350 = 372 ∨ 350 = 373) by decide))
    obtain ⟨hn10, h⟩ := gk h
    obtain ⟨A11, eA11, h⟩ := bd_e h
    have fA11 : Fb A A11 := by rw [eA11]; exact Fb_up fA9 (Or.inl (show ¬ (350 = 344 ∨ 350 = 345 ∨ 350 = 372 ∨ 350 = 373) by decide))
    obtain ⟨hn12, h⟩ := gk h
    obtain ⟨A13, eA13, h⟩ := bd_e h
    have fA13 : Fb A A13 := by rw [eA13]; exact Fb_up fA11 (Or.inl (show ¬ (350 = 344 ∨ 350 = 345 ∨ 350 = 372 ∨ 350 = 373) by decide))
    obtain ⟨j16, ej16, h⟩ := bd_e h
    have kj16 : ∀ (z15 : Int32), j16 z15 = some (I0, A0) → Fb I I0 ∧ Fb A A0 := by
      intro z15 h
      subst ej16
      obtain ⟨hn17, h⟩ := gk h
      obtain ⟨A18, eA18, h⟩ := bd_e h
      have fA18 : Fb A A18 := by rw [eA18]; exact Fb_up fA13 (Or.inl (show ¬ (350 = 344 ∨ 350 = 345 ∨ 350 = 372 ∨ 350 = 373) by decide))
      obtain ⟨j23, ej23, h⟩ := bd_e h
      have kj23 : ∀ (z22 : Int32), j23 z22 = some (I0, A0) → Fb I I0 ∧ Fb A A0 := by
        intro z22 h
        subst ej23
        obtain ⟨hn24, h⟩ := gk h
        obtain ⟨A25, eA25, h⟩ := bd_e h
        have fA25 : Fb A A25 := by rw [eA25]; exact Fb_up fA18 (Or.inl (show ¬ (350 = 344 ∨ 350 = 345 ∨ 350 = 372 ∨ 350 = 373) by decide))
        obtain ⟨hn26, h⟩ := gk h
        obtain ⟨A27, eA27, h⟩ := bd_e h
        have fA27 : Fb A A27 := by rw [eA27]; exact Fb_up fA25 (Or.inl (show ¬ (351 = 344 ∨ 351 = 345 ∨ 351 = 372 ∨ 351 = 373) by decide))
        obtain ⟨j29, ej29, h⟩ := bd_e h
        have kj29 : ∀ (z28 : Int32), j29 z28 = some (I0, A0) → Fb I I0 ∧ Fb A A0 := by
          intro z28 h
          subst ej29
          obtain ⟨A30, eA30, h⟩ := bd_e h
          have fA30 : Fb A A30 := by rw [eA30]; exact Fb_up fA27 (Or.inl (show ¬ (352 = 344 ∨ 352 = 345 ∨ 352 = 372 ∨ 352 = 373) by decide))
          obtain ⟨j41, ej41, h⟩ := bd_e h
          have kj41 : ∀ (A40 : Nat → Nat → Int32), j41 A40 = some (I0, A0) → Fb A A40 → Fb I I0 ∧ Fb A A0 := by
            intro A40 h fA40
            subst ej41
            obtain ⟨I42, eI42, h⟩ := bd_e h
            have fI42 : Fb I I42 := by rw [eI42]; exact Fb_up fI (Or.inl (show ¬ (318 = 344 ∨ 318 = 345 ∨ 318 = 372 ∨ 318 = 373) by decide))
            obtain ⟨k46, ek46, h⟩ := bd_e h
            have kk46 : ∀ (A47 : Nat → Nat → Int32), k46 A47 = some (I0, A0) → Fb A A47 → Fb I I0 ∧ Fb A A0 := by
              intro A47 h fA47
              subst ek46
              obtain ⟨I48, eI48, h⟩ := bd_e h
              have fI48 : Fb I I48 := by rw [eI48]; exact Fb_up fI42 (Or.inl (show ¬ (318 = 344 ∨ 318 = 345 ∨ 318 = 372 ∨ 318 = 373) by decide))
              cases h; exact ⟨fI48, fA47⟩
            have lp43 : ∀ (n : Nat) (v44 : Int32) (A45 : Nat → Nat → Int32), f_X7_endsAs_L236 a1 I42 k46 n v44 A45 = some (I0, A0) → Fb A A45 → Fb I I0 ∧ Fb A A0 := by
              intro n
              induction n with
              | zero => intro v44 A45 h; exact absurd h (by rw [f_X7_endsAs_L236]; exact nofun)
              | succ n ih43 =>
                intro v44 A45 h fA45
                rw [f_X7_endsAs_L236] at h
                by_cases c_49 : v44 < (I42 318 31)
                · have h := ip c_49 h
                  obtain ⟨hn50, h⟩ := gk h
                  obtain ⟨hn51, h⟩ := gk h
                  obtain ⟨A52, eA52, h⟩ := bd_e h
                  have fA52 : Fb A A52 := by rw [eA52]; exact Fb_up fA45 (Or.inl (show ¬ (354 = 344 ∨ 354 = 345 ∨ 354 = 372 ∨ 354 = 373) by decide))
                  obtain ⟨A53, eA53, h⟩ := bd_e h
                  have fA53 : Fb A A53 := by rw [eA53]; exact Fb_up fA52 (Or.inl (show ¬ (356 = 344 ∨ 356 = 345 ∨ 356 = 372 ∨ 356 = 373) by decide))
                  obtain ⟨A54, eA54, h⟩ := bd_e h
                  have fA54 : Fb A A54 := by rw [eA54]; exact Fb_up fA53 (Or.inl (show ¬ (357 = 344 ∨ 357 = 345 ∨ 357 = 372 ∨ 357 = 373) by decide))
                  obtain ⟨A55, eA55, h⟩ := bd_e h
                  have fA55 : Fb A A55 := by rw [eA55]; exact Fb_up fA54 (Or.inl (show ¬ (358 = 344 ∨ 358 = 345 ∨ 358 = 372 ∨ 358 = 373) by decide))
                  obtain ⟨j58, ej58, h⟩ := bd_e h
                  have kj58 : ∀ (z57 : Int32), j58 z57 = some (I0, A0) → Fb I I0 ∧ Fb A A0 := by
                    intro z57 h
                    subst ej58
                    obtain ⟨A59, eA59, h⟩ := bd_e h
                    have fA59 : Fb A A59 := by rw [eA59]; exact Fb_up fA55 (Or.inl (show ¬ (359 = 344 ∨ 359 = 345 ∨ 359 = 372 ∨ 359 = 373) by decide))
                    obtain ⟨k64, ek64, h⟩ := bd_e h
                    have kk64 : ∀ (A65 : Nat → Nat → Int32), k64 A65 = some (I0, A0) → Fb A A65 → Fb I I0 ∧ Fb A A0 := by
                      intro A65 h fA65
                      subst ek64
                      exact ih43 (v44 + 1) A65 h fA65
                    have lp60 : ∀ (n : Nat) (v61 : Int32) (v62 : Int32) (A63 : Nat → Nat → Int32), f_X7_endsAs_L357 v44 a1 I42 k64 n v61 v62 A63 = some (I0, A0) → Fb A A63 → Fb I I0 ∧ Fb A A0 := by
                      intro n
                      induction n with
                      | zero => intro v61 v62 A63 h; exact absurd h (by rw [f_X7_endsAs_L357]; exact nofun)
                      | succ n ih60 =>
                        intro v61 v62 A63 h fA63
                        rw [f_X7_endsAs_L357] at h
                        by_cases c_66 : v61 < 6
                        · have h := ip c_66 h
                          obtain ⟨hn67, h⟩ := gk h
                          obtain ⟨hn68, h⟩ := gk h
                          obtain ⟨A69, eA69, h⟩ := bd_e h
                          have fA69 : Fb A A69 := by rw [eA69]; exact Fb_up fA63 (Or.inl (show ¬ (355 = 344 ∨ 355 = 345 ∨ 355 = 372 ∨ 355 = 373) by decide))
                          obtain ⟨A70, eA70, h⟩ := bd_e h
                          have fA70 : Fb A A70 := by rw [eA70]; exact Fb_up fA69 (Or.inl (show ¬ (360 = 344 ∨ 360 = 345 ∨ 360 = 372 ∨ 360 = 373) by decide))
                          obtain ⟨A71, eA71, h⟩ := bd_e h
                          have fA71 : Fb A A71 := by rw [eA71]; exact Fb_up fA70 (Or.inl (show ¬ (361 = 344 ∨ 361 = 345 ∨ 361 = 372 ∨ 361 = 373) by decide))
                          exact ih60 (v61 + 1) v62 A71 h fA71
                        · have h := iN c_66 h
                          exact kk64 A63 h fA63
                    exact lp60 FU 0 (A45 346 v44.toNatClampNeg) A59 h fA59
                  by_cases c_72 : (A55 338 ((A45 346 v44.toNatClampNeg).toNatClampNeg)) < (A55 319 a1.toNatClampNeg)
                  · have h := ip c_72 h
                    obtain ⟨hn73, h⟩ := gk h
                    exact kj58 (A55 321 (((6 * a1) + (A55 338 ((A45 346 v44.toNatClampNeg).toNatClampNeg))).toNatClampNeg)) h
                  · have h := iN c_72 h
                    exact kj58 0 h
                · have h := iN c_49 h
                  exact kk46 A45 h fA45
            exact lp43 FU 0 A40 h fA40
          by_cases c_74 : a2 = 1
          · have h := ip c_74 h
            obtain ⟨k78, ek78, h⟩ := bd_e h
            have kk78 : ∀ (A79 : Nat → Nat → Int32), k78 A79 = some (I0, A0) → Fb A A79 → Fb I I0 ∧ Fb A A0 := by
              intro A79 h fA79
              subst ek78
              exact kj41 A79 h fA79
            have lp75 : ∀ (n : Nat) (v76 : Int32) (A77 : Nat → Nat → Int32), f_X7_endsAs_L187 z4 a1 I k78 n v76 A77 = some (I0, A0) → Fb A A77 → Fb I I0 ∧ Fb A A0 := by
              intro n
              induction n with
              | zero => intro v76 A77 h; exact absurd h (by rw [f_X7_endsAs_L187]; exact nofun)
              | succ n ih75 =>
                intro v76 A77 h fA77
                rw [f_X7_endsAs_L187] at h
                by_cases c_80 : v76 < 6
                · have h := ip c_80 h
                  obtain ⟨hn81, h⟩ := gk h
                  obtain ⟨hn82, h⟩ := gk h
                  obtain ⟨A83, eA83, h⟩ := bd_e h
                  have fA83 : Fb A A83 := by rw [eA83]; exact Fb_up fA77 (Or.inl (show ¬ (353 = 344 ∨ 353 = 345 ∨ 353 = 372 ∨ 353 = 373) by decide))
                  exact ih75 (v76 + 1) A83 h fA83
                · have h := iN c_80 h
                  exact kk78 A77 h fA77
            exact lp75 FU 0 A30 h fA30
          · have h := iN c_74 h
            exact kj41 A30 h fA30
        by_cases c_84 : a2 = 1
        · have h := ip c_84 h
          exact kj29 1 h
        · have h := iN c_84 h
          exact kj29 0 h
      by_cases c_85 : a2 = 1
      · have h := ip c_85 h
        obtain ⟨hn88, h⟩ := gk h
        exact kj23 (A18 341 z4.toNatClampNeg) h
      · have h := iN c_85 h
        by_cases c_86 : r1 = (-9)
        · have h := ip c_86 h
          exact kj23 (-1000000) h
        · have h := iN c_86 h
          obtain ⟨hn87, h⟩ := gk h
          exact kj23 (A18 341 r1.toNatClampNeg) h
    by_cases c_89 : a2 = 1
    · have h := ip c_89 h
      obtain ⟨hn90, h⟩ := gk h
      exact kj16 (A13 341 z4.toNatClampNeg) h
    · have h := iN c_89 h
      exact kj16 (-1000000) h
  by_cases c_91 : 0 < (I 318 31)
  · have h := ip c_91 h
    obtain ⟨hn92, h⟩ := gk h
    exact kj5 (A 346 (((I 318 31) - 1).toNatClampNeg)) h
  · have h := iN c_91 h
    exact kj5 (-9) h
set_option maxHeartbeats 4000000 in
set_option maxRecDepth 100000 in
theorem qb_X7_fail (I : Nat → Nat → Int32) (A : Nat → Nat → Int32) (a1 : Int32) (a2 : Int32) (r0 : Int32) (I0 : Nat → Nat → Int32) (A0 : Nat → Nat → Int32) (h : f_X7_fail I A a1 a2 = some (r0, I0, A0)) : Fb I I0 ∧ Fb A A0 := by
  have fI : Fb I I := Fb_rf
  have fA : Fb A A := Fb_rf
  rw [f_X7_fail] at h
  obtain ⟨I1, eI1, h⟩ := bd_e h
  have fI1 : Fb I I1 := by rw [eI1]; exact Fb_up fI (Or.inl (show ¬ (318 = 344 ∨ 318 = 345 ∨ 318 = 372 ∨ 318 = 373) by decide))
  obtain ⟨r2, hc3, h⟩ := Option.bind_eq_some_iff.mp h
  by_cases c_4 : r2 = 0
  · have h := ip c_4 h
    cases h; exact ⟨fI1, fA⟩
  · have h := iN c_4 h
    obtain ⟨r5, hc6, h⟩ := Option.bind_eq_some_iff.mp h
    by_cases c_7 : r5 = 0
    · have h := ip c_7 h
      cases h; exact ⟨fI1, fA⟩
    · have h := iN c_7 h
      by_cases c_8 : (I1 318 23) = (-9)
      · have h := ip c_8 h
        obtain ⟨hn9, h⟩ := gk h
        obtain ⟨A10, eA10, h⟩ := bd_e h
        have fA10 : Fb A A10 := by rw [eA10]; exact Fb_up fA (Or.inl (show ¬ (330 = 344 ∨ 330 = 345 ∨ 330 = 372 ∨ 330 = 373) by decide))
        cases h; exact ⟨fI1, fA10⟩
      · have h := iN c_8 h
        cases h; exact ⟨fI1, fA⟩
set_option maxHeartbeats 4000000 in
set_option maxRecDepth 100000 in
theorem qb_X7_giveUp (I : Nat → Nat → Int32) (r0 : Int32) (I0 : Nat → Nat → Int32) (h : f_X7_giveUp I = some (r0, I0)) : Fb I I0 := by
  have fI : Fb I I := Fb_rf
  rw [f_X7_giveUp] at h
  obtain ⟨I1, eI1, h⟩ := bd_e h
  have fI1 : Fb I I1 := by rw [eI1]; exact Fb_up fI (Or.inl (show ¬ (318 = 344 ∨ 318 = 345 ∨ 318 = 372 ∨ 318 = 373) by decide))
  by_cases c_2 : (I1 318 23) = (-9)
  · have h := ip c_2 h
    cases h; exact fI1
  · have h := iN c_2 h
    obtain ⟨I3, eI3, h⟩ := bd_e h
    have fI3 : Fb I I3 := by rw [eI3]; exact Fb_up fI1 (Or.inl (show ¬ (318 = 344 ∨ 318 = 345 ∨ 318 = 372 ∨ 318 = 373) by decide))
    cases h; exact fI3
set_option maxHeartbeats 4000000 in
set_option maxRecDepth 100000 in
theorem qb_X7_helper (I : Nat → Nat → Int32) (A : Nat → Nat → Int32) (a1 : Int32) (a2 : Int32) (r0 : Int32) (I0 : Nat → Nat → Int32) (h : f_X7_helper I A a1 a2 = some (r0, I0)) : Fb I I0 := by
  have fI : Fb I I := Fb_rf
  have fA : Fb A A := Fb_rf
  rw [f_X7_helper] at h
  obtain ⟨I1, eI1, h⟩ := bd_e h
  have fI1 : Fb I I1 := by rw [eI1]; exact Fb_up fI (Or.inl (show ¬ (318 = 344 ∨ 318 = 345 ∨ 318 = 372 ∨ 318 = 373) by decide))
  obtain ⟨r2, hc3, h⟩ := Option.bind_eq_some_iff.mp h
  by_cases c_4 : r2 = 0
  · have h := ip c_4 h
    cases h; exact fI1
  · have h := iN c_4 h
    obtain ⟨r5, hc6, h⟩ := Option.bind_eq_some_iff.mp h
    by_cases c_7 : r5 = 0
    · have h := ip c_7 h
      cases h; exact fI1
    · have h := iN c_7 h
      by_cases c_8 : a2 = 0
      · have h := ip c_8 h
        obtain ⟨hn12, h⟩ := gk h
        cases h; exact fI1
      · have h := iN c_8 h
        by_cases c_9 : a2 = 1
        · have h := ip c_9 h
          obtain ⟨hn11, h⟩ := gk h
          cases h; exact fI1
        · have h := iN c_9 h
          obtain ⟨hn10, h⟩ := gk h
          cases h; exact fI1
set_option maxHeartbeats 4000000 in
set_option maxRecDepth 100000 in
theorem qb_X7_helpers (I : Nat → Nat → Int32) (A : Nat → Nat → Int32) (a1 : Int32) (r0 : Int32) (I0 : Nat → Nat → Int32) (A0 : Nat → Nat → Int32) (h : f_X7_helpers I A a1 = some (r0, I0, A0)) : Fb I I0 ∧ Fb A A0 := by
  have fI : Fb I I := Fb_rf
  have fA : Fb A A := Fb_rf
  rw [f_X7_helpers] at h
  obtain ⟨I1, eI1, h⟩ := bd_e h
  have fI1 : Fb I I1 := by rw [eI1]; exact Fb_up fI (Or.inl (show ¬ (318 = 344 ∨ 318 = 345 ∨ 318 = 372 ∨ 318 = 373) by decide))
  obtain ⟨r2, hc3, h⟩ := Option.bind_eq_some_iff.mp h
  by_cases c_4 : r2 = 0
  · have h := ip c_4 h
    cases h; exact ⟨fI1, fA⟩
  · have h := iN c_4 h
    by_cases c_5 : (I1 318 23) = (-9)
    · have h := ip c_5 h
      obtain ⟨I6, eI6, h⟩ := bd_e h
      have fI6 : Fb I I6 := by rw [eI6]; exact Fb_up fI1 (Or.inl (show ¬ (318 = 344 ∨ 318 = 345 ∨ 318 = 372 ∨ 318 = 373) by decide))
      obtain ⟨k11, ek11, h⟩ := bd_e h
      have kk11 : ∀ (v12 : Int32) (A13 : Nat → Nat → Int32), k11 v12 A13 = some (r0, I0, A0) → Fb A A13 → Fb I I0 ∧ Fb A A0 := by
        intro v12 A13 h fA13
        subst ek11
        cases h; exact ⟨fI6, fA13⟩
      have lp7 : ∀ (n : Nat) (v8 : Int32) (v9 : Int32) (A10 : Nat → Nat → Int32), f_X7_helpers_L40 I6 k11 n v8 v9 A10 = some (r0, I0, A0) → Fb A A10 → Fb I I0 ∧ Fb A A0 := by
        intro n
        induction n with
        | zero => intro v8 v9 A10 h; exact absurd h (by rw [f_X7_helpers_L40]; exact nofun)
        | succ n ih7 =>
          intro v8 v9 A10 h fA10
          rw [f_X7_helpers_L40] at h
          by_cases c_14 : v8 < 5
          · have h := ip c_14 h
            obtain ⟨hn15, h⟩ := gk h
            obtain ⟨A16, eA16, h⟩ := bd_e h
            have fA16 : Fb A A16 := by rw [eA16]; exact Fb_up fA10 (Or.inl (show ¬ (330 = 344 ∨ 330 = 345 ∨ 330 = 372 ∨ 330 = 373) by decide))
            exact ih7 (v8 + 1) v9 A16 h fA16
          · have h := iN c_14 h
            exact kk11 v9 A10 h fA10
      exact lp7 FU 0 (I1 318 15) A h fA
    · have h := iN c_5 h
      cases h; exact ⟨fI1, fA⟩
set_option maxHeartbeats 4000000 in
set_option maxRecDepth 100000 in
theorem qb_X7_limit (I : Nat → Nat → Int32) (a1 : Int32) (r0 : Int32) (I0 : Nat → Nat → Int32) (h : f_X7_limit I a1 = some (r0, I0)) : Fb I I0 := by
  have fI : Fb I I := Fb_rf
  rw [f_X7_limit] at h
  obtain ⟨I1, eI1, h⟩ := bd_e h
  have fI1 : Fb I I1 := by rw [eI1]; exact Fb_up fI (Or.inl (show ¬ (318 = 344 ∨ 318 = 345 ∨ 318 = 372 ∨ 318 = 373) by decide))
  obtain ⟨r2, hc3, h⟩ := Option.bind_eq_some_iff.mp h
  by_cases c_4 : r2 = 0
  · have h := ip c_4 h
    cases h; exact fI1
  · have h := iN c_4 h
    by_cases c_5 : (I1 318 23) = (-9)
    · have h := ip c_5 h
      obtain ⟨I6, eI6, h⟩ := bd_e h
      have fI6 : Fb I I6 := by rw [eI6]; exact Fb_up fI1 (Or.inl (show ¬ (318 = 344 ∨ 318 = 345 ∨ 318 = 372 ∨ 318 = 373) by decide))
      cases h; exact fI6
    · have h := iN c_5 h
      cases h; exact fI1
set_option maxHeartbeats 4000000 in
set_option maxRecDepth 100000 in
theorem qb_X7_node (I : Nat → Nat → Int32) (A : Nat → Nat → Int32) (a1 : Int32) (a2 : Int32) (a3 : Int32) (r0 : Int32) (I0 : Nat → Nat → Int32) (A0 : Nat → Nat → Int32) (h : f_X7_node I A a1 a2 a3 = some (r0, I0, A0)) : Fb I I0 ∧ Fb A A0 := by
  have fI : Fb I I := Fb_rf
  have fA : Fb A A := Fb_rf
  rw [f_X7_node] at h
  obtain ⟨I1, eI1, h⟩ := bd_e h
  have fI1 : Fb I I1 := by rw [eI1]; exact Fb_up fI (Or.inl (show ¬ (318 = 344 ∨ 318 = 345 ∨ 318 = 372 ∨ 318 = 373) by decide))
  obtain ⟨r2, hc3, h⟩ := Option.bind_eq_some_iff.mp h
  by_cases c_4 : r2 = 0
  · have h := ip c_4 h
    cases h; exact ⟨fI1, fA⟩
  · have h := iN c_4 h
    by_cases c_5 : (I1 318 57) = (-9)
    · have h := ip c_5 h
      cases h; exact ⟨fI1, fA⟩
    · have h := iN c_5 h
      obtain ⟨hn6, h⟩ := gk h
      by_cases c_7 : (A 329 ((I1 318 57).toNatClampNeg)) = (I1 318 58)
      · have h := ip c_7 h
        obtain ⟨k12, ek12, h⟩ := bd_e h
        have kk12 : ∀ (v13 : Int32) (A14 : Nat → Nat → Int32), k12 v13 A14 = some (r0, I0, A0) → Fb A A14 → Fb I I0 ∧ Fb A A0 := by
          intro v13 A14 h fA14
          subst ek12
          by_cases c_15 : a1 = 0
          · have h := ip c_15 h
            obtain ⟨r33, hc34, h⟩ := Option.bind_eq_some_iff.mp h
            by_cases c_35 : r33 = 0
            · have h := ip c_35 h
              cases h; exact ⟨fI1, fA14⟩
            · have h := iN c_35 h
              obtain ⟨r36, hc37, h⟩ := Option.bind_eq_some_iff.mp h
              by_cases c_38 : r36 = 0
              · have h := ip c_38 h
                cases h; exact ⟨fI1, fA14⟩
              · have h := iN c_38 h
                cases h; exact ⟨fI1, fA14⟩
          · have h := iN c_15 h
            by_cases c_16 : a1 = 1
            · have h := ip c_16 h
              obtain ⟨r25, hc26, h⟩ := Option.bind_eq_some_iff.mp h
              by_cases c_27 : r25 = 0
              · have h := ip c_27 h
                cases h; exact ⟨fI1, fA14⟩
              · have h := iN c_27 h
                by_cases c_28 : a2 < (I1 318 59)
                · have h := ip c_28 h
                  cases h; exact ⟨fI1, fA14⟩
                · have h := iN c_28 h
                  obtain ⟨⟨r29, A30⟩, hc31, h⟩ := Option.bind_eq_some_iff.mp h
                  have fA30 : Fb A A30 := Fb_tr fA14 (qb_X7_isOut A14 v13 a2 a3 r29 A30 hc31)
                  by_cases c_32 : r29 = 0
                  · have h := ip c_32 h
                    cases h; exact ⟨fI1, fA30⟩
                  · have h := iN c_32 h
                    cases h; exact ⟨fI1, fA30⟩
            · have h := iN c_16 h
              obtain ⟨⟨r17, I18, A19⟩, hc20, h⟩ := Option.bind_eq_some_iff.mp h
              have fI18 : Fb I I18 := Fb_tr fI1 (qb_X7_whatIs I1 A14 v13 (I1 318 59) 1 r17 I18 A19 hc20).1
              have fA19 : Fb A A19 := Fb_tr fA14 (qb_X7_whatIs I1 A14 v13 (I1 318 59) 1 r17 I18 A19 hc20).2
              by_cases c_21 : a1 = 2
              · have h := ip c_21 h
                cases h; exact ⟨fI18, fA19⟩
              · have h := iN c_21 h
                by_cases c_22 : a1 = 3
                · have h := ip c_22 h
                  by_cases c_24 : r17 = 0
                  · have h := ip c_24 h
                    cases h; exact ⟨fI18, fA19⟩
                  · have h := iN c_24 h
                    cases h; exact ⟨fI18, fA19⟩
                · have h := iN c_22 h
                  by_cases c_23 : r17 = 0
                  · have h := ip c_23 h
                    cases h; exact ⟨fI18, fA19⟩
                  · have h := iN c_23 h
                    cases h; exact ⟨fI18, fA19⟩
        have lp8 : ∀ (n : Nat) (v9 : Int32) (v10 : Int32) (A11 : Nat → Nat → Int32), f_X7_node_L53 a1 a2 a3 I1 k12 n v9 v10 A11 = some (r0, I0, A0) → Fb A A11 → Fb I I0 ∧ Fb A A0 := by
          intro n
          induction n with
          | zero => intro v9 v10 A11 h; exact absurd h (by rw [f_X7_node_L53]; exact nofun)
          | succ n ih8 =>
            intro v9 v10 A11 h fA11
            rw [f_X7_node_L53] at h
            by_cases c_39 : v9 < 6
            · have h := ip c_39 h
              by_cases c_40 : v9 < (I1 318 59)
              · have h := ip c_40 h
                obtain ⟨hn43, h⟩ := gk h
                obtain ⟨A44, eA44, h⟩ := bd_e h
                have fA44 : Fb A A44 := by rw [eA44]; exact Fb_up fA11 (Or.inl (show ¬ (364 = 344 ∨ 364 = 345 ∨ 364 = 372 ∨ 364 = 373) by decide))
                exact ih8 (v9 + 1) v10 A44 h fA44
              · have h := iN c_40 h
                obtain ⟨hn41, h⟩ := gk h
                obtain ⟨A42, eA42, h⟩ := bd_e h
                have fA42 : Fb A A42 := by rw [eA42]; exact Fb_up fA11 (Or.inl (show ¬ (364 = 344 ∨ 364 = 345 ∨ 364 = 372 ∨ 364 = 373) by decide))
                exact ih8 (v9 + 1) v10 A42 h fA42
            · have h := iN c_39 h
              exact kk12 v10 A11 h fA11
        exact lp8 FU 0 (I1 318 57) A h fA
      · have h := iN c_7 h
        cases h; exact ⟨fI1, fA⟩
set_option maxHeartbeats 4000000 in
set_option maxRecDepth 100000 in
theorem qb_X7_number (I : Nat → Nat → Int32) (A : Nat → Nat → Int32) (a1 : Int32) (a2 : Int32) (a3 : Int32) (r0 : Int32) (I0 : Nat → Nat → Int32) (A0 : Nat → Nat → Int32) (h : f_X7_number I A a1 a2 a3 = some (r0, I0, A0)) : Fb I I0 ∧ Fb A A0 := by
  have fI : Fb I I := Fb_rf
  have fA : Fb A A := Fb_rf
  rw [f_X7_number] at h
  obtain ⟨I1, eI1, h⟩ := bd_e h
  have fI1 : Fb I I1 := by rw [eI1]; exact Fb_up fI (Or.inl (show ¬ (318 = 344 ∨ 318 = 345 ∨ 318 = 372 ∨ 318 = 373) by decide))
  obtain ⟨I2, eI2, h⟩ := bd_e h
  have fI2 : Fb I I2 := by rw [eI2]; exact Fb_up fI1 (Or.inl (show ¬ (318 = 344 ∨ 318 = 345 ∨ 318 = 372 ∨ 318 = 373) by decide))
  obtain ⟨r3, hc4, h⟩ := Option.bind_eq_some_iff.mp h
  by_cases c_5 : r3 = 0
  · have h := ip c_5 h
    obtain ⟨⟨r6, I7⟩, hc8, h⟩ := Option.bind_eq_some_iff.mp h
    have fI7 : Fb I I7 := Fb_tr fI2 (qb_X7_no I2 (-1) r6 I7 hc8)
    cases h; exact ⟨fI7, fA⟩
  · have h := iN c_5 h
    obtain ⟨r9, hc10, h⟩ := Option.bind_eq_some_iff.mp h
    by_cases c_11 : r9 = 0
    · have h := ip c_11 h
      obtain ⟨⟨r21, I22⟩, hc23, h⟩ := Option.bind_eq_some_iff.mp h
      have fI22 : Fb I I22 := Fb_tr fI2 (qb_X7_no I2 (-1) r21 I22 hc23)
      cases h; exact ⟨fI22, fA⟩
    · have h := iN c_11 h
      by_cases c_12 : (I2 318 23) = (-9)
      · have h := ip c_12 h
        obtain ⟨hn13, h⟩ := gk h
        obtain ⟨A14, eA14, h⟩ := bd_e h
        have fA14 : Fb A A14 := by rw [eA14]; exact Fb_up fA (Or.inl (show ¬ (325 = 344 ∨ 325 = 345 ∨ 325 = 372 ∨ 325 = 373) by decide))
        obtain ⟨⟨I15, A16⟩, hc17, h⟩ := Option.bind_eq_some_iff.mp h
        have fI15 : Fb I I15 := Fb_tr fI2 (qb_X7_changes I2 A14 a1 I15 A16 hc17).1
        have fA16 : Fb A A16 := Fb_tr fA14 (qb_X7_changes I2 A14 a1 I15 A16 hc17).2
        cases h; exact ⟨fI15, fA16⟩
      · have h := iN c_12 h
        obtain ⟨⟨r18, I19⟩, hc20, h⟩ := Option.bind_eq_some_iff.mp h
        have fI19 : Fb I I19 := Fb_tr fI2 (qb_X7_no I2 (-2) r18 I19 hc20)
        cases h; exact ⟨fI19, fA⟩
set_option maxHeartbeats 4000000 in
set_option maxRecDepth 100000 in
theorem qb_X7_rowOf (A : Nat → Nat → Int32) (a1 : Int32) (A0 : Nat → Nat → Int32) (h : f_X7_rowOf A a1 = some A0) : Fb A A0 := by
  have fA : Fb A A := Fb_rf
  rw [f_X7_rowOf] at h
  obtain ⟨k4, ek4, h⟩ := bd_e h
  have kk4 : ∀ (A5 : Nat → Nat → Int32), k4 A5 = some A0 → Fb A A5 → Fb A A0 := by
    intro A5 h fA5
    subst ek4
    cases h; exact fA5
  have lp1 : ∀ (n : Nat) (v2 : Int32) (A3 : Nat → Nat → Int32), f_X7_rowOf_L2 a1 k4 n v2 A3 = some A0 → Fb A A3 → Fb A A0 := by
    intro n
    induction n with
    | zero => intro v2 A3 h; exact absurd h (by rw [f_X7_rowOf_L2]; exact nofun)
    | succ n ih1 =>
      intro v2 A3 h fA3
      rw [f_X7_rowOf_L2] at h
      by_cases c_6 : v2 < 6
      · have h := ip c_6 h
        obtain ⟨hn7, h⟩ := gk h
        obtain ⟨hn8, h⟩ := gk h
        obtain ⟨A9, eA9, h⟩ := bd_e h
        have fA9 : Fb A A9 := by rw [eA9]; exact Fb_up fA3 (Or.inl (show ¬ (364 = 344 ∨ 364 = 345 ∨ 364 = 372 ∨ 364 = 373) by decide))
        exact ih1 (v2 + 1) A9 h fA9
      · have h := iN c_6 h
        exact kk4 A3 h fA3
  exact lp1 FU 0 A h fA
set_option maxHeartbeats 4000000 in
set_option maxRecDepth 100000 in
theorem qb_X7_opens (I : Nat → Nat → Int32) (A : Nat → Nat → Int32) (a1 : Int32) (a2 : Int32) (a3 : Int32) (I0 : Nat → Nat → Int32) (A0 : Nat → Nat → Int32) (h : f_X7_opens I A a1 a2 a3 = some (I0, A0)) : Fb I I0 ∧ Fb A A0 := by
  have fI : Fb I I := Fb_rf
  have fA : Fb A A := Fb_rf
  rw [f_X7_opens] at h
  obtain ⟨hn1, h⟩ := gk h
  obtain ⟨A2, eA2, h⟩ := bd_e h
  have fA2 : Fb A A2 := by rw [eA2]; exact Fb_up fA (Or.inr (nb _))
  obtain ⟨I3, eI3, h⟩ := bd_e h
  have fI3 : Fb I I3 := by rw [eI3]; exact Fb_up fI (Or.inl (show ¬ (318 = 344 ∨ 318 = 345 ∨ 318 = 372 ∨ 318 = 373) by decide))
  obtain ⟨hn4, h⟩ := gk h
  by_cases c_5 : (A2 338 a2.toNatClampNeg) = (A2 319 a1.toNatClampNeg)
  · have h := ip c_5 h
    cases h; exact ⟨fI3, fA2⟩
  · have h := iN c_5 h
    obtain ⟨k11, ek11, h⟩ := bd_e h
    have kk11 : ∀ (I12 : Nat → Nat → Int32) (A13 : Nat → Nat → Int32), k11 I12 A13 = some (I0, A0) → Fb I I12 → Fb A A13 → Fb I I0 ∧ Fb A A0 := by
      intro I12 A13 h fI12 fA13
      subst ek11
      cases h; exact ⟨fI12, fA13⟩
    have lp6 : ∀ (n : Nat) (v7 : Int32) (v8 : Int32) (I9 : Nat → Nat → Int32) (A10 : Nat → Nat → Int32), f_X7_opens_L40 a1 a2 a3 k11 n v7 v8 I9 A10 = some (I0, A0) → Fb I I9 → Fb A A10 → Fb I I0 ∧ Fb A A0 := by
      intro n
      induction n with
      | zero => intro v7 v8 I9 A10 h; exact absurd h (by rw [f_X7_opens_L40]; exact nofun)
      | succ n ih6 =>
        intro v7 v8 I9 A10 h fI9 fA10
        rw [f_X7_opens_L40] at h
        obtain ⟨hn14, h⟩ := gk h
        by_cases c_15 : v7 < (A10 321 (((6 * a1) + v8).toNatClampNeg))
        · have h := ip c_15 h
          obtain ⟨A16, hc17, h⟩ := Option.bind_eq_some_iff.mp h
          have fA16 : Fb A A16 := Fb_tr fA10 (qb_X7_rowOf A10 a2 A16 hc17)
          obtain ⟨hn18, h⟩ := gk h
          obtain ⟨A19, eA19, h⟩ := bd_e h
          have fA19 : Fb A A19 := by rw [eA19]; exact Fb_up fA16 (Or.inl (show ¬ (364 = 344 ∨ 364 = 345 ∨ 364 = 372 ∨ 364 = 373) by decide))
          obtain ⟨⟨r20, I21, A22⟩, hc23, h⟩ := Option.bind_eq_some_iff.mp h
          have fI21 : Fb I I21 := Fb_tr fI9 (qb_X7_whatIs I9 A19 a1 (v8 + 1) a3 r20 I21 A22 hc23).1
          have fA22 : Fb A A22 := Fb_tr fA19 (qb_X7_whatIs I9 A19 a1 (v8 + 1) a3 r20 I21 A22 hc23).2
          obtain ⟨hn24, h⟩ := gk h
          obtain ⟨A25, eA25, h⟩ := bd_e h
          have fA25 : Fb A A25 := by rw [eA25]; exact Fb_up fA22 (Or.inl (show ¬ (347 = 344 ∨ 347 = 345 ∨ 347 = 372 ∨ 347 = 373) by decide))
          obtain ⟨j27, ej27, h⟩ := bd_e h
          have kj27 : ∀ (z26 : Int32), j27 z26 = some (I0, A0) → Fb I I0 ∧ Fb A A0 := by
            intro z26 h
            subst ej27
            obtain ⟨A28, eA28, h⟩ := bd_e h
            have fA28 : Fb A A28 := by rw [eA28]; exact Fb_up fA25 (Or.inl (show ¬ (348 = 344 ∨ 348 = 345 ∨ 348 = 372 ∨ 348 = 373) by decide))
            by_cases c_29 : r20 = 0
            · have h := ip c_29 h
              obtain ⟨⟨I30, A31⟩, hc32, h⟩ := Option.bind_eq_some_iff.mp h
              have fI30 : Fb I I30 := Fb_tr fI21 (qb_X7_addNode I21 A28 (v8 + 1) a2 I30 A31 hc32).1
              have fA31 : Fb A A31 := Fb_tr fA28 (qb_X7_addNode I21 A28 (v8 + 1) a2 I30 A31 hc32).2
              obtain ⟨A33, eA33, h⟩ := bd_e h
              have fA33 : Fb A A33 := by rw [eA33]; exact Fb_up fA31 (Or.inl (show ¬ (349 = 344 ∨ 349 = 345 ∨ 349 = 372 ∨ 349 = 373) by decide))
              exact ih6 (v7 + 1) v8 I30 A33 h fI30 fA33
            · have h := iN c_29 h
              exact ih6 (v7 + 1) v8 I21 A28 h fI21 fA28
          by_cases c_34 : r20 = 0
          · have h := ip c_34 h
            exact kj27 (-9) h
          · have h := iN c_34 h
            exact kj27 (I21 318 64) h
        · have h := iN c_15 h
          exact kk11 I9 A10 h fI9 fA10
    exact lp6 FU 0 (A2 338 a2.toNatClampNeg) I3 A2 h fI3 fA2
set_option maxHeartbeats 4000000 in
set_option maxRecDepth 100000 in
theorem qb_X7_part (I : Nat → Nat → Int32) (A : Nat → Nat → Int32) (a1 : Int32) (a2 : Int32) (a3 : Int32) (a4 : Int32) (r0 : Int32) (I0 : Nat → Nat → Int32) (A0 : Nat → Nat → Int32) (h : f_X7_part I A a1 a2 a3 a4 = some (r0, I0, A0)) : Fb I I0 ∧ Fb A A0 := by
  have fI : Fb I I := Fb_rf
  have fA : Fb A A := Fb_rf
  rw [f_X7_part] at h
  obtain ⟨I1, eI1, h⟩ := bd_e h
  have fI1 : Fb I I1 := by rw [eI1]; exact Fb_up fI (Or.inl (show ¬ (318 = 344 ∨ 318 = 345 ∨ 318 = 372 ∨ 318 = 373) by decide))
  obtain ⟨r2, hc3, h⟩ := Option.bind_eq_some_iff.mp h
  by_cases c_4 : r2 = 0
  · have h := ip c_4 h
    cases h; exact ⟨fI1, fA⟩
  · have h := iN c_4 h
    obtain ⟨hn5, h⟩ := gk h
    obtain ⟨r6, hc7, h⟩ := Option.bind_eq_some_iff.mp h
    by_cases c_8 : r6 = 0
    · have h := ip c_8 h
      cases h; exact ⟨fI1, fA⟩
    · have h := iN c_8 h
      obtain ⟨r9, hc10, h⟩ := Option.bind_eq_some_iff.mp h
      by_cases c_11 : r9 = 0
      · have h := ip c_11 h
        cases h; exact ⟨fI1, fA⟩
      · have h := iN c_11 h
        by_cases c_12 : (I1 318 23) = (-9)
        · have h := ip c_12 h
          obtain ⟨r13, hc14, h⟩ := Option.bind_eq_some_iff.mp h
          by_cases c_15 : r13 = (-9)
          · have h := ip c_15 h
            obtain ⟨hn16, h⟩ := gk h
            obtain ⟨hn17, h⟩ := gk h
            obtain ⟨A18, eA18, h⟩ := bd_e h
            have fA18 : Fb A A18 := by rw [eA18]; exact Fb_up fA (Or.inl (show ¬ (327 = 344 ∨ 327 = 345 ∨ 327 = 372 ∨ 327 = 373) by decide))
            obtain ⟨hn19, h⟩ := gk h
            obtain ⟨A20, eA20, h⟩ := bd_e h
            have fA20 : Fb A A20 := by rw [eA20]; exact Fb_up fA18 (Or.inl (show ¬ (328 = 344 ∨ 328 = 345 ∨ 328 = 372 ∨ 328 = 373) by decide))
            obtain ⟨A21, eA21, h⟩ := bd_e h
            have fA21 : Fb A A21 := by rw [eA21]; exact Fb_up fA20 (Or.inl (show ¬ (326 = 344 ∨ 326 = 345 ∨ 326 = 372 ∨ 326 = 373) by decide))
            obtain ⟨⟨I22, A23⟩, hc24, h⟩ := Option.bind_eq_some_iff.mp h
            have fI22 : Fb I I22 := Fb_tr fI1 (qb_X7_changes I1 A21 a1 I22 A23 hc24).1
            have fA23 : Fb A A23 := Fb_tr fA21 (qb_X7_changes I1 A21 a1 I22 A23 hc24).2
            cases h; exact ⟨fI22, fA23⟩
          · have h := iN c_15 h
            cases h; exact ⟨fI1, fA⟩
        · have h := iN c_12 h
          cases h; exact ⟨fI1, fA⟩
set_option maxHeartbeats 4000000 in
set_option maxRecDepth 100000 in
theorem qb_X7_plain (I : Nat → Nat → Int32) (r0 : Int32) (I0 : Nat → Nat → Int32) (h : f_X7_plain I = some (r0, I0)) : Fb I I0 := by
  have fI : Fb I I := Fb_rf
  rw [f_X7_plain] at h
  obtain ⟨I1, eI1, h⟩ := bd_e h
  have fI1 : Fb I I1 := by rw [eI1]; exact Fb_up fI (Or.inl (show ¬ (318 = 344 ∨ 318 = 345 ∨ 318 = 372 ∨ 318 = 373) by decide))
  by_cases c_2 : (I1 318 23) = (-9)
  · have h := ip c_2 h
    obtain ⟨I3, eI3, h⟩ := bd_e h
    have fI3 : Fb I I3 := by rw [eI3]; exact Fb_up fI1 (Or.inl (show ¬ (318 = 344 ∨ 318 = 345 ∨ 318 = 372 ∨ 318 = 373) by decide))
    cases h; exact fI3
  · have h := iN c_2 h
    cases h; exact fI1
set_option maxHeartbeats 4000000 in
set_option maxRecDepth 100000 in
theorem qb_X7_problem (I : Nat → Nat → Int32) (r0 : Int32) (I0 : Nat → Nat → Int32) (h : f_X7_problem I = some (r0, I0)) : Fb I I0 := by
  have fI : Fb I I := Fb_rf
  rw [f_X7_problem] at h
  obtain ⟨I1, eI1, h⟩ := bd_e h
  have fI1 : Fb I I1 := by rw [eI1]; exact Fb_up fI (Or.inl (show ¬ (318 = 344 ∨ 318 = 345 ∨ 318 = 372 ∨ 318 = 373) by decide))
  by_cases c_2 : (I1 318 23) = (-9)
  · have h := ip c_2 h
    by_cases c_3 : (I1 318 2) = 5
    · have h := ip c_3 h
      cases h; exact fI1
    · have h := iN c_3 h
      obtain ⟨I4, eI4, h⟩ := bd_e h
      have fI4 : Fb I I4 := by rw [eI4]; exact Fb_up fI1 (Or.inl (show ¬ (318 = 344 ∨ 318 = 345 ∨ 318 = 372 ∨ 318 = 373) by decide))
      cases h; exact fI4
  · have h := iN c_2 h
    cases h; exact fI1
set_option maxHeartbeats 4000000 in
set_option maxRecDepth 100000 in
theorem qb_X7_row (I : Nat → Nat → Int32) (A : Nat → Nat → Int32) (a1 : Int32) (r0 : Int32) (I0 : Nat → Nat → Int32) (h : f_X7_row I A a1 = some (r0, I0)) : Fb I I0 := by
  have fI : Fb I I := Fb_rf
  have fA : Fb A A := Fb_rf
  rw [f_X7_row] at h
  obtain ⟨I1, eI1, h⟩ := bd_e h
  have fI1 : Fb I I1 := by rw [eI1]; exact Fb_up fI (Or.inl (show ¬ (318 = 344 ∨ 318 = 345 ∨ 318 = 372 ∨ 318 = 373) by decide))
  by_cases c_2 : (I1 318 61) = (-9)
  · have h := ip c_2 h
    cases h; exact fI1
  · have h := iN c_2 h
    obtain ⟨r3, hc4, h⟩ := Option.bind_eq_some_iff.mp h
    by_cases c_5 : r3 = 0
    · have h := ip c_5 h
      cases h; exact fI1
    · have h := iN c_5 h
      obtain ⟨hn6, h⟩ := gk h
      cases h; exact fI1
set_option maxHeartbeats 4000000 in
set_option maxRecDepth 100000 in
theorem qb_X7_rule (I : Nat → Nat → Int32) (A : Nat → Nat → Int32) (a1 : Int32) (a2 : Int32) (a3 : Int32) (r0 : Int32) (I0 : Nat → Nat → Int32) (A0 : Nat → Nat → Int32) (h : f_X7_rule I A a1 a2 a3 = some (r0, I0, A0)) : Fb I I0 ∧ Fb A A0 := by
  have fI : Fb I I := Fb_rf
  have fA : Fb A A := Fb_rf
  rw [f_X7_rule] at h
  obtain ⟨I1, eI1, h⟩ := bd_e h
  have fI1 : Fb I I1 := by rw [eI1]; exact Fb_up fI (Or.inl (show ¬ (318 = 344 ∨ 318 = 345 ∨ 318 = 372 ∨ 318 = 373) by decide))
  obtain ⟨r2, hc3, h⟩ := Option.bind_eq_some_iff.mp h
  by_cases c_4 : r2 = 0
  · have h := ip c_4 h
    cases h; exact ⟨fI1, fA⟩
  · have h := iN c_4 h
    obtain ⟨r5, hc6, h⟩ := Option.bind_eq_some_iff.mp h
    by_cases c_7 : r5 = 0
    · have h := ip c_7 h
      cases h; exact ⟨fI1, fA⟩
    · have h := iN c_7 h
      obtain ⟨r8, hc9, h⟩ := Option.bind_eq_some_iff.mp h
      by_cases c_10 : r8 = 0
      · have h := ip c_10 h
        cases h; exact ⟨fI1, fA⟩
      · have h := iN c_10 h
        by_cases c_11 : (I1 318 23) = (-9)
        · have h := ip c_11 h
          obtain ⟨hn12, h⟩ := gk h
          by_cases c_13 : (A 320 a1.toNatClampNeg) = 8
          · have h := ip c_13 h
            cases h; exact ⟨fI1, fA⟩
          · have h := iN c_13 h
            obtain ⟨hn14, h⟩ := gk h
            obtain ⟨A15, eA15, h⟩ := bd_e h
            have fA15 : Fb A A15 := by rw [eA15]; exact Fb_up fA (Or.inl (show ¬ (324 = 344 ∨ 324 = 345 ∨ 324 = 372 ∨ 324 = 373) by decide))
            obtain ⟨A16, eA16, h⟩ := bd_e h
            have fA16 : Fb A A16 := by rw [eA16]; exact Fb_up fA15 (Or.inl (show ¬ (325 = 344 ∨ 325 = 345 ∨ 325 = 372 ∨ 325 = 373) by decide))
            obtain ⟨A17, eA17, h⟩ := bd_e h
            have fA17 : Fb A A17 := by rw [eA17]; exact Fb_up fA16 (Or.inl (show ¬ (320 = 344 ∨ 320 = 345 ∨ 320 = 372 ∨ 320 = 373) by decide))
            obtain ⟨⟨I18, A19⟩, hc20, h⟩ := Option.bind_eq_some_iff.mp h
            have fI18 : Fb I I18 := Fb_tr fI1 (qb_X7_changes I1 A17 a1 I18 A19 hc20).1
            have fA19 : Fb A A19 := Fb_tr fA17 (qb_X7_changes I1 A17 a1 I18 A19 hc20).2
            cases h; exact ⟨fI18, fA19⟩
        · have h := iN c_11 h
          cases h; exact ⟨fI1, fA⟩
set_option maxHeartbeats 4000000 in
set_option maxRecDepth 100000 in
theorem qb_X7_same (I : Nat → Nat → Int32) (a1 : Int32) (a2 : Int32) (r0 : Int32) (I0 : Nat → Nat → Int32) (h : f_X7_same I a1 a2 = some (r0, I0)) : Fb I I0 := by
  have fI : Fb I I := Fb_rf
  rw [f_X7_same] at h
  obtain ⟨I1, eI1, h⟩ := bd_e h
  have fI1 : Fb I I1 := by rw [eI1]; exact Fb_up fI (Or.inl (show ¬ (318 = 344 ∨ 318 = 345 ∨ 318 = 372 ∨ 318 = 373) by decide))
  obtain ⟨r2, hc3, h⟩ := Option.bind_eq_some_iff.mp h
  by_cases c_4 : r2 = 0
  · have h := ip c_4 h
    cases h; exact fI1
  · have h := iN c_4 h
    obtain ⟨r5, hc6, h⟩ := Option.bind_eq_some_iff.mp h
    by_cases c_7 : r5 = 0
    · have h := ip c_7 h
      cases h; exact fI1
    · have h := iN c_7 h
      by_cases c_8 : (I1 318 23) = (-9)
      · have h := ip c_8 h
        cases h; exact fI1
      · have h := iN c_8 h
        cases h; exact fI1
set_option maxHeartbeats 4000000 in
set_option maxRecDepth 100000 in
theorem qb_X7_takes (I : Nat → Nat → Int32) (A : Nat → Nat → Int32) (a1 : Int32) (I0 : Nat → Nat → Int32) (A0 : Nat → Nat → Int32) (h : f_X7_takes I A a1 = some (I0, A0)) : Fb I I0 ∧ Fb A A0 := by
  have fI : Fb I I := Fb_rf
  have fA : Fb A A := Fb_rf
  rw [f_X7_takes] at h
  obtain ⟨hn1, h⟩ := gk h
  obtain ⟨A2, eA2, h⟩ := bd_e h
  have fA2 : Fb A A2 := by rw [eA2]; exact Fb_up fA (Or.inr (nb _))
  obtain ⟨hn3, h⟩ := gk h
  obtain ⟨A4, eA4, h⟩ := bd_e h
  have fA4 : Fb A A4 := by rw [eA4]; exact Fb_up fA2 (Or.inl (show ¬ (346 = 344 ∨ 346 = 345 ∨ 346 = 372 ∨ 346 = 373) by decide))
  obtain ⟨I5, eI5, h⟩ := bd_e h
  have fI5 : Fb I I5 := by rw [eI5]; exact Fb_up fI (Or.inl (show ¬ (318 = 344 ∨ 318 = 345 ∨ 318 = 372 ∨ 318 = 373) by decide))
  cases h; exact ⟨fI5, fA4⟩
set_option maxHeartbeats 4000000 in
set_option maxRecDepth 100000 in
theorem qb_X7_second (I : Nat → Nat → Int32) (A : Nat → Nat → Int32) (a1 : Int32) (a2 : Int32) (r0 : Int32) (I0 : Nat → Nat → Int32) (A0 : Nat → Nat → Int32) (h : f_X7_second I A a1 a2 = some (r0, I0, A0)) : Fb I I0 ∧ Fb A A0 := by
  have fI : Fb I I := Fb_rf
  have fA : Fb A A := Fb_rf
  rw [f_X7_second] at h
  obtain ⟨I1, eI1, h⟩ := bd_e h
  have fI1 : Fb I I1 := by rw [eI1]; exact Fb_up fI (Or.inl (show ¬ (318 = 344 ∨ 318 = 345 ∨ 318 = 372 ∨ 318 = 373) by decide))
  obtain ⟨r2, hc3, h⟩ := Option.bind_eq_some_iff.mp h
  by_cases c_4 : r2 = 0
  · have h := ip c_4 h
    cases h; exact ⟨fI1, fA⟩
  · have h := iN c_4 h
    obtain ⟨r5, hc6, h⟩ := Option.bind_eq_some_iff.mp h
    by_cases c_7 : r5 = 0
    · have h := ip c_7 h
      cases h; exact ⟨fI1, fA⟩
    · have h := iN c_7 h
      obtain ⟨⟨I8, A9⟩, hc10, h⟩ := Option.bind_eq_some_iff.mp h
      have fI8 : Fb I I8 := Fb_tr fI1 (qb_X7_aside I1 A I8 A9 hc10).1
      have fA9 : Fb A A9 := Fb_tr fA (qb_X7_aside I1 A I8 A9 hc10).2
      obtain ⟨⟨I11, A12⟩, hc13, h⟩ := Option.bind_eq_some_iff.mp h
      have fI11 : Fb I I11 := Fb_tr fI8 (qb_X7_begins I8 A9 a1 0 I11 A12 hc13).1
      have fA12 : Fb A A12 := Fb_tr fA9 (qb_X7_begins I8 A9 a1 0 I11 A12 hc13).2
      obtain ⟨r14, hc15, h⟩ := Option.bind_eq_some_iff.mp h
      obtain ⟨k22, ek22, h⟩ := bd_e h
      have kk22 : ∀ (v23 : Int32) (v24 : Int32) (I25 : Nat → Nat → Int32) (A26 : Nat → Nat → Int32), k22 v23 v24 I25 A26 = some (r0, I0, A0) → Fb I I25 → Fb A A26 → Fb I I0 ∧ Fb A A0 := by
        intro v23 v24 I25 A26 h fI25 fA26
        subst ek22
        obtain ⟨j29, ej29, h⟩ := bd_e h
        have kj29 : ∀ (z28 : Int32), j29 z28 = some (r0, I0, A0) → Fb I I0 ∧ Fb A A0 := by
          intro z28 h
          subst ej29
          obtain ⟨I30, eI30, h⟩ := bd_e h
          have fI30 : Fb I I30 := by rw [eI30]; exact Fb_up fI25 (Or.inl (show ¬ (318 = 344 ∨ 318 = 345 ∨ 318 = 372 ∨ 318 = 373) by decide))
          obtain ⟨j34, ej34, h⟩ := bd_e h
          have kj34 : ∀ (z33 : Int32), j34 z33 = some (r0, I0, A0) → Fb I I0 ∧ Fb A A0 := by
            intro z33 h
            subst ej34
            obtain ⟨k38, ek38, h⟩ := bd_e h
            have kk38 : ∀ (A39 : Nat → Nat → Int32), k38 A39 = some (r0, I0, A0) → Fb A A39 → Fb I I0 ∧ Fb A A0 := by
              intro A39 h fA39
              subst ek38
              obtain ⟨⟨I40, A41⟩, hc42, h⟩ := Option.bind_eq_some_iff.mp h
              have fI40 : Fb I I40 := Fb_tr fI30 (qb_X7_aside I30 A39 I40 A41 hc42).1
              have fA41 : Fb A A41 := Fb_tr fA39 (qb_X7_aside I30 A39 I40 A41 hc42).2
              cases h; exact ⟨fI40, fA41⟩
            have lp35 : ∀ (n : Nat) (v36 : Int32) (A37 : Nat → Nat → Int32), f_X7_second_L188 z33 v23 I30 k38 n v36 A37 = some (r0, I0, A0) → Fb A A37 → Fb I I0 ∧ Fb A A0 := by
              intro n
              induction n with
              | zero => intro v36 A37 h; exact absurd h (by rw [f_X7_second_L188]; exact nofun)
              | succ n ih35 =>
                intro v36 A37 h fA37
                rw [f_X7_second_L188] at h
                by_cases c_43 : v36 < 6
                · have h := ip c_43 h
                  by_cases c_44 : v23 = (-9)
                  · have h := ip c_44 h
                    exact kk38 A37 h fA37
                  · have h := iN c_44 h
                    obtain ⟨hn45, h⟩ := gk h
                    obtain ⟨hn46, h⟩ := gk h
                    obtain ⟨A47, eA47, h⟩ := bd_e h
                    have fA47 : Fb A A47 := by rw [eA47]; exact Fb_up fA37 (Or.inl (show ¬ (363 = 344 ∨ 363 = 345 ∨ 363 = 372 ∨ 363 = 373) by decide))
                    exact ih35 (v36 + 1) A47 h fA47
                · have h := iN c_43 h
                  exact kk38 A37 h fA37
            exact lp35 FU 0 A26 h fA26
          by_cases c_48 : v23 = (-9)
          · have h := ip c_48 h
            by_cases c_49 : v24 = (-9)
            · have h := ip c_49 h
              exact kj34 (-1000000) h
            · have h := iN c_49 h
              exact kj34 (-1000001) h
          · have h := iN c_48 h
            obtain ⟨hn50, h⟩ := gk h
            exact kj34 (A26 341 v23.toNatClampNeg) h
        by_cases c_51 : v23 = (-9)
        · have h := ip c_51 h
          exact kj29 (-9) h
        · have h := iN c_51 h
          obtain ⟨hn52, h⟩ := gk h
          exact kj29 (A26 319 a1.toNatClampNeg) h
      have lp16 : ∀ (n : Nat) (v17 : Int32) (v18 : Int32) (v19 : Int32) (I20 : Nat → Nat → Int32) (A21 : Nat → Nat → Int32), f_X7_second_L49 a1 a2 k22 n v17 v18 v19 I20 A21 = some (r0, I0, A0) → Fb I I20 → Fb A A21 → Fb I I0 ∧ Fb A A0 := by
        intro n
        induction n with
        | zero => intro v17 v18 v19 I20 A21 h; exact absurd h (by rw [f_X7_second_L49]; exact nofun)
        | succ n ih16 =>
          intro v17 v18 v19 I20 A21 h fI20 fA21
          rw [f_X7_second_L49] at h
          by_cases c_53 : v17 = (-9)
          · have h := ip c_53 h
            exact kk22 v18 v17 I20 A21 h fI20 fA21
          · have h := iN c_53 h
            by_cases c_54 : (I20 318 31) < 250
            · have h := ip c_54 h
              by_cases c_55 : v18 = (-9)
              · have h := ip c_55 h
                obtain ⟨⟨I56, A57⟩, hc58, h⟩ := Option.bind_eq_some_iff.mp h
                have fI56 : Fb I I56 := Fb_tr fI20 (qb_X7_takes I20 A21 v17 I56 A57 hc58).1
                have fA57 : Fb A A57 := Fb_tr fA21 (qb_X7_takes I20 A21 v17 I56 A57 hc58).2
                obtain ⟨⟨I59, A60⟩, hc61, h⟩ := Option.bind_eq_some_iff.mp h
                have fI59 : Fb I I59 := Fb_tr fI56 (qb_X7_opens I56 A57 a1 v17 0 I59 A60 hc61).1
                have fA60 : Fb A A60 := Fb_tr fA57 (qb_X7_opens I56 A57 a1 v17 0 I59 A60 hc61).2
                obtain ⟨hn62, h⟩ := gk h
                obtain ⟨hn63, h⟩ := gk h
                by_cases c_64 : (A60 338 v17.toNatClampNeg) = (A60 319 a1.toNatClampNeg)
                · have h := ip c_64 h
                  by_cases c_67 : v19 = a2
                  · have h := ip c_67 h
                    obtain ⟨r70, hc71, h⟩ := Option.bind_eq_some_iff.mp h
                    exact ih16 r70 v17 (v19 + 1) I59 A60 h fI59 fA60
                  · have h := iN c_67 h
                    obtain ⟨r68, hc69, h⟩ := Option.bind_eq_some_iff.mp h
                    exact ih16 r68 (-9) (v19 + 1) I59 A60 h fI59 fA60
                · have h := iN c_64 h
                  obtain ⟨r65, hc66, h⟩ := Option.bind_eq_some_iff.mp h
                  exact ih16 r65 v18 v19 I59 A60 h fI59 fA60
              · have h := iN c_55 h
                exact kk22 v18 v17 I20 A21 h fI20 fA21
            · have h := iN c_54 h
              exact kk22 v18 v17 I20 A21 h fI20 fA21
      exact lp16 FU r14 (-9) 0 I11 A12 h fI11 fA12
set_option maxHeartbeats 4000000 in
set_option maxRecDepth 100000 in
theorem qb_X7_turnOf (I : Nat → Nat → Int32) (A : Nat → Nat → Int32) (a1 : Int32) (a2 : Int32) (I0 : Nat → Nat → Int32) (A0 : Nat → Nat → Int32) (h : f_X7_turnOf I A a1 a2 = some (I0, A0)) : Fb I I0 ∧ Fb A A0 := by
  have fI : Fb I I := Fb_rf
  have fA : Fb A A := Fb_rf
  rw [f_X7_turnOf] at h
  obtain ⟨hn1, h⟩ := gk h
  by_cases c_2 : (A 337 a2.toNatClampNeg) = (-9)
  · have h := ip c_2 h
    obtain ⟨k21, ek21, h⟩ := bd_e h
    have kk21 : ∀ (v22 : Int32), k21 v22 = some (I0, A0) → Fb I I0 ∧ Fb A A0 := by
      intro v22 h
      subst ek21
      by_cases c_23 : v22 = (-9)
      · have h := ip c_23 h
        obtain ⟨A24, eA24, h⟩ := bd_e h
        have fA24 : Fb A A24 := by rw [eA24]; exact Fb_up fA (Or.inl (show ¬ (332 = 344 ∨ 332 = 345 ∨ 332 = 372 ∨ 332 = 373) by decide))
        cases h; exact ⟨fI, fA24⟩
      · have h := iN c_23 h
        by_cases c_25 : ((I 318 30) - (I 318 31)) < 30
        · have h := ip c_25 h
          obtain ⟨A26, eA26, h⟩ := bd_e h
          have fA26 : Fb A A26 := by rw [eA26]; exact Fb_up fA (Or.inl (show ¬ (337 = 344 ∨ 337 = 345 ∨ 337 = 372 ∨ 337 = 373) by decide))
          obtain ⟨hn27, h⟩ := gk h
          obtain ⟨A28, eA28, h⟩ := bd_e h
          have fA28 : Fb A A28 := by rw [eA28]; exact Fb_up fA26 (Or.inl (show ¬ (343 = 344 ∨ 343 = 345 ∨ 343 = 372 ∨ 343 = 373) by decide))
          obtain ⟨A29, eA29, h⟩ := bd_e h
          have fA29 : Fb A A29 := by rw [eA29]; exact Fb_up fA28 (Or.inl (show ¬ (336 = 344 ∨ 336 = 345 ∨ 336 = 372 ∨ 336 = 373) by decide))
          cases h; exact ⟨fI, fA29⟩
        · have h := iN c_25 h
          obtain ⟨A30, eA30, h⟩ := bd_e h
          have fA30 : Fb A A30 := by rw [eA30]; exact Fb_up fA (Or.inl (show ¬ (332 = 344 ∨ 332 = 345 ∨ 332 = 372 ∨ 332 = 373) by decide))
          cases h; exact ⟨fI, fA30⟩
    have lp18 : ∀ (n : Nat) (v19 : Int32) (v20 : Int32), f_X7_turnOf_L17 a2 I A k21 n v19 v20 = some (I0, A0) → Fb I I0 ∧ Fb A A0 := by
      intro n
      induction n with
      | zero => intro v19 v20 h; exact absurd h (by rw [f_X7_turnOf_L17]; exact nofun)
      | succ n ih18 =>
        intro v19 v20 h
        rw [f_X7_turnOf_L17] at h
        by_cases c_31 : v19 < (I 318 29)
        · have h := ip c_31 h
          obtain ⟨hn32, h⟩ := gk h
          by_cases c_33 : (A 343 v19.toNatClampNeg) = (-9)
          · have h := ip c_33 h
            by_cases c_34 : v20 = (-9)
            · have h := ip c_34 h
              exact ih18 (v19 + 1) v19 h
            · have h := iN c_34 h
              obtain ⟨r35, hc36, h⟩ := Option.bind_eq_some_iff.mp h
              by_cases c_37 : r35 = 0
              · have h := ip c_37 h
                exact ih18 (v19 + 1) v20 h
              · have h := iN c_37 h
                exact ih18 (v19 + 1) v19 h
          · have h := iN c_33 h
            exact ih18 (v19 + 1) v20 h
        · have h := iN c_31 h
          exact kk21 v20 h
    exact lp18 FU 0 (-9) h
  · have h := iN c_2 h
    obtain ⟨A3, eA3, h⟩ := bd_e h
    have fA3 : Fb A A3 := by rw [eA3]; exact Fb_up fA (Or.inl (show ¬ (337 = 344 ∨ 337 = 345 ∨ 337 = 372 ∨ 337 = 373) by decide))
    by_cases c_4 : 0 < (A3 335 a2.toNatClampNeg)
    · have h := ip c_4 h
      by_cases c_9 : (A3 336 a2.toNatClampNeg) = (A3 335 a2.toNatClampNeg)
      · have h := ip c_9 h
        obtain ⟨hn14, h⟩ := gk h
        obtain ⟨A15, eA15, h⟩ := bd_e h
        have fA15 : Fb A A15 := by rw [eA15]; exact Fb_up fA3 (Or.inl (show ¬ (343 = 344 ∨ 343 = 345 ∨ 343 = 372 ∨ 343 = 373) by decide))
        obtain ⟨A16, eA16, h⟩ := bd_e h
        have fA16 : Fb A A16 := by rw [eA16]; exact Fb_up fA15 (Or.inl (show ¬ (335 = 344 ∨ 335 = 345 ∨ 335 = 372 ∨ 335 = 373) by decide))
        obtain ⟨A17, eA17, h⟩ := bd_e h
        have fA17 : Fb A A17 := by rw [eA17]; exact Fb_up fA16 (Or.inl (show ¬ (333 = 344 ∨ 333 = 345 ∨ 333 = 372 ∨ 333 = 373) by decide))
        cases h; exact ⟨fI, fA17⟩
      · have h := iN c_9 h
        obtain ⟨A10, eA10, h⟩ := bd_e h
        have fA10 : Fb A A10 := by rw [eA10]; exact Fb_up fA3 (Or.inl (show ¬ (334 = 344 ∨ 334 = 345 ∨ 334 = 372 ∨ 334 = 373) by decide))
        obtain ⟨⟨I11, A12⟩, hc13, h⟩ := Option.bind_eq_some_iff.mp h
        have fI11 : Fb I I11 := Fb_tr fI (qb_X7_opens I A10 a1 (A 337 a2.toNatClampNeg) 1 I11 A12 hc13).1
        have fA12 : Fb A A12 := Fb_tr fA10 (qb_X7_opens I A10 a1 (A 337 a2.toNatClampNeg) 1 I11 A12 hc13).2
        cases h; exact ⟨fI11, fA12⟩
    · have h := iN c_4 h
      obtain ⟨A5, eA5, h⟩ := bd_e h
      have fA5 : Fb A A5 := by rw [eA5]; exact Fb_up fA3 (Or.inl (show ¬ (334 = 344 ∨ 334 = 345 ∨ 334 = 372 ∨ 334 = 373) by decide))
      obtain ⟨⟨I6, A7⟩, hc8, h⟩ := Option.bind_eq_some_iff.mp h
      have fI6 : Fb I I6 := Fb_tr fI (qb_X7_opens I A5 a1 (A 337 a2.toNatClampNeg) 1 I6 A7 hc8).1
      have fA7 : Fb A A7 := Fb_tr fA5 (qb_X7_opens I A5 a1 (A 337 a2.toNatClampNeg) 1 I6 A7 hc8).2
      cases h; exact ⟨fI6, fA7⟩
set_option maxHeartbeats 4000000 in
set_option maxRecDepth 100000 in
theorem qb_X7_walks (I : Nat → Nat → Int32) (A : Nat → Nat → Int32) (a1 : Int32) (r0 : Int32) (I0 : Nat → Nat → Int32) (A0 : Nat → Nat → Int32) (h : f_X7_walks I A a1 = some (r0, I0, A0)) : Fb I I0 ∧ Fb A A0 := by
  have fI : Fb I I := Fb_rf
  have fA : Fb A A := Fb_rf
  rw [f_X7_walks] at h
  obtain ⟨r1, hc2, h⟩ := Option.bind_eq_some_iff.mp h
  obtain ⟨k7, ek7, h⟩ := bd_e h
  have kk7 : ∀ (I8 : Nat → Nat → Int32) (A9 : Nat → Nat → Int32), k7 I8 A9 = some (r0, I0, A0) → Fb I I8 → Fb A A9 → Fb I I0 ∧ Fb A A0 := by
    intro I8 A9 h fI8 fA9
    subst ek7
    cases h; exact ⟨fI8, fA9⟩
  obtain ⟨k10, ek10, h⟩ := bd_e h
  have kk10 : ∀ (I11 : Nat → Nat → Int32) (A12 : Nat → Nat → Int32), k10 I11 A12 = some (r0, I0, A0) → Fb I I11 → Fb A A12 → Fb I I0 ∧ Fb A A0 := by
    intro I11 A12 h fI11 fA12
    subst ek10
    cases h; exact ⟨fI11, fA12⟩
  obtain ⟨k13, ek13, h⟩ := bd_e h
  have kk13 : ∀ (I14 : Nat → Nat → Int32) (A15 : Nat → Nat → Int32), k13 I14 A15 = some (r0, I0, A0) → Fb I I14 → Fb A A15 → Fb I I0 ∧ Fb A A0 := by
    intro I14 A15 h fI14 fA15
    subst ek13
    cases h; exact ⟨fI14, fA15⟩
  obtain ⟨k16, ek16, h⟩ := bd_e h
  have kk16 : ∀ (v17 : Int32) (I18 : Nat → Nat → Int32) (A19 : Nat → Nat → Int32), k16 v17 I18 A19 = some (r0, I0, A0) → Fb I I18 → Fb A A19 → Fb I I0 ∧ Fb A A0 := by
    intro v17 I18 A19 h fI18 fA19
    subst ek16
    by_cases c_20 : v17 = (-9)
    · have h := ip c_20 h
      cases h; exact ⟨fI18, fA19⟩
    · have h := iN c_20 h
      cases h; exact ⟨fI18, fA19⟩
  have lp3 : ∀ (n : Nat) (v4 : Int32) (I5 : Nat → Nat → Int32) (A6 : Nat → Nat → Int32), f_X7_walks_L5 a1 k7 k10 k13 k16 n v4 I5 A6 = some (r0, I0, A0) → Fb I I5 → Fb A A6 → Fb I I0 ∧ Fb A A0 := by
    intro n
    induction n with
    | zero => intro v4 I5 A6 h; exact absurd h (by rw [f_X7_walks_L5]; exact nofun)
    | succ n ih3 =>
      intro v4 I5 A6 h fI5 fA6
      rw [f_X7_walks_L5] at h
      by_cases c_21 : v4 = (-9)
      · have h := ip c_21 h
        exact kk16 v4 I5 A6 h fI5 fA6
      · have h := iN c_21 h
        obtain ⟨hn22, h⟩ := gk h
        by_cases c_23 : (A6 344 v4.toNatClampNeg) = 0
        · have h := ip c_23 h
          exact kk16 v4 I5 A6 h fI5 fA6
        · have h := iN c_23 h
          obtain ⟨⟨I24, A25⟩, hc26, h⟩ := Option.bind_eq_some_iff.mp h
          have fI24 : Fb I I24 := Fb_tr fI5 (qb_X7_takes I5 A6 v4 I24 A25 hc26).1
          have fA25 : Fb A A25 := Fb_tr fA6 (qb_X7_takes I5 A6 v4 I24 A25 hc26).2
          obtain ⟨hn27, h⟩ := gk h
          by_cases c_28 : (A25 338 v4.toNatClampNeg) = (A25 319 a1.toNatClampNeg)
          · have h := ip c_28 h
            exact kk7 I24 A25 h fI24 fA25
          · have h := iN c_28 h
            by_cases c_29 : (I24 318 31) = 250
            · have h := ip c_29 h
              exact kk10 I24 A25 h fI24 fA25
            · have h := iN c_29 h
              by_cases c_30 : (I24 318 31) = (I24 318 24)
              · have h := ip c_30 h
                exact kk13 I24 A25 h fI24 fA25
              · have h := iN c_30 h
                obtain ⟨r31, hc32, h⟩ := Option.bind_eq_some_iff.mp h
                exact ih3 r31 I24 A25 h fI24 fA25
  exact lp3 FU r1 I A h fI fA
set_option maxHeartbeats 4000000 in
set_option maxRecDepth 100000 in
theorem qb_X7_solve (I : Nat → Nat → Int32) (A : Nat → Nat → Int32) (a1 : Int32) (a2 : Int32) (r0 : Int32) (I0 : Nat → Nat → Int32) (A0 : Nat → Nat → Int32) (h : f_X7_solve I A a1 a2 = some (r0, I0, A0)) : Fb I I0 ∧ Fb A A0 := by
  have fI : Fb I I := Fb_rf
  have fA : Fb A A := Fb_rf
  rw [f_X7_solve] at h
  obtain ⟨I1, eI1, h⟩ := bd_e h
  have fI1 : Fb I I1 := by rw [eI1]; exact Fb_up fI (Or.inl (show ¬ (318 = 344 ∨ 318 = 345 ∨ 318 = 372 ∨ 318 = 373) by decide))
  obtain ⟨r2, hc3, h⟩ := Option.bind_eq_some_iff.mp h
  by_cases c_4 : r2 = 0
  · have h := ip c_4 h
    cases h; exact ⟨fI1, fA⟩
  · have h := iN c_4 h
    obtain ⟨r5, hc6, h⟩ := Option.bind_eq_some_iff.mp h
    by_cases c_7 : r5 = 0
    · have h := ip c_7 h
      cases h; exact ⟨fI1, fA⟩
    · have h := iN c_7 h
      obtain ⟨j9, ej9, h⟩ := bd_e h
      have kj9 : ∀ (_ : Unit), j9 () = some (r0, I0, A0) → Fb I I0 ∧ Fb A A0 := by
        intro _ h
        subst ej9
        obtain ⟨j33, ej33, h⟩ := bd_e h
        have kj33 : ∀ (I31 : Nat → Nat → Int32) (A32 : Nat → Nat → Int32), j33 I31 A32 = some (r0, I0, A0) → Fb I I31 → Fb A A32 → Fb I I0 ∧ Fb A A0 := by
          intro I31 A32 h fI31 fA32
          subst ej33
          obtain ⟨k38, ek38, h⟩ := bd_e h
          have kk38 : ∀ (v39 : Int32) (I40 : Nat → Nat → Int32) (A41 : Nat → Nat → Int32), k38 v39 I40 A41 = some (r0, I0, A0) → Fb I I40 → Fb A A41 → Fb I I0 ∧ Fb A A0 := by
            intro v39 I40 A41 h fI40 fA41
            subst ek38
            obtain ⟨⟨I42, A43⟩, hc44, h⟩ := Option.bind_eq_some_iff.mp h
            have fI42 : Fb I I42 := Fb_tr fI40 (qb_X7_endsAs I40 A41 a1 v39 I42 A43 hc44).1
            have fA43 : Fb A A43 := Fb_tr fA41 (qb_X7_endsAs I40 A41 a1 v39 I42 A43 hc44).2
            cases h; exact ⟨fI42, fA43⟩
          obtain ⟨k45, ek45, h⟩ := bd_e h
          have kk45 : ∀ (I46 : Nat → Nat → Int32) (A47 : Nat → Nat → Int32), k45 I46 A47 = some (r0, I0, A0) → Fb I I46 → Fb A A47 → Fb I I0 ∧ Fb A A0 := by
            intro I46 A47 h fI46 fA47
            subst ek45
            cases h; exact ⟨fI46, fA47⟩
          have lp34 : ∀ (n : Nat) (v35 : Int32) (I36 : Nat → Nat → Int32) (A37 : Nat → Nat → Int32), f_X7_solve_L143 a1 a2 k38 k45 n v35 I36 A37 = some (r0, I0, A0) → Fb I I36 → Fb A A37 → Fb I I0 ∧ Fb A A0 := by
            intro n
            induction n with
            | zero => intro v35 I36 A37 h; exact absurd h (by rw [f_X7_solve_L143]; exact nofun)
            | succ n ih34 =>
              intro v35 I36 A37 h fI36 fA37
              rw [f_X7_solve_L143] at h
              by_cases c_48 : v35 < a2
              · have h := ip c_48 h
                obtain ⟨j52, ej52, h⟩ := bd_e h
                have kj52 : ∀ (z51 : Int32), j52 z51 = some (r0, I0, A0) → Fb I I0 ∧ Fb A A0 := by
                  intro z51 h
                  subst ej52
                  obtain ⟨I53, eI53, h⟩ := bd_e h
                  have fI53 : Fb I I53 := by rw [eI53]; exact Fb_up fI36 (Or.inl (show ¬ (318 = 344 ∨ 318 = 345 ∨ 318 = 372 ∨ 318 = 373) by decide))
                  by_cases c_54 : z51 < (I53 318 15)
                  · have h := ip c_54 h
                    obtain ⟨⟨I63, A64⟩, hc65, h⟩ := Option.bind_eq_some_iff.mp h
                    have fI63 : Fb I I63 := Fb_tr fI53 (qb_X7_turnOf I53 A37 a1 z51 I63 A64 hc65).1
                    have fA64 : Fb A A64 := Fb_tr fA37 (qb_X7_turnOf I53 A37 a1 z51 I63 A64 hc65).2
                    obtain ⟨⟨r66, I67, A68⟩, hc69, h⟩ := Option.bind_eq_some_iff.mp h
                    have fI67 : Fb I I67 := Fb_tr fI63 (qb_X7_walks I63 A64 a1 r66 I67 A68 hc69).1
                    have fA68 : Fb A A68 := Fb_tr fA64 (qb_X7_walks I63 A64 a1 r66 I67 A68 hc69).2
                    by_cases c_70 : 0 < r66
                    · have h := ip c_70 h
                      exact kk38 r66 I67 A68 h fI67 fA68
                    · have h := iN c_70 h
                      exact ih34 (v35 + 1) I67 A68 h fI67 fA68
                  · have h := iN c_54 h
                    obtain ⟨⟨I55, A56⟩, hc57, h⟩ := Option.bind_eq_some_iff.mp h
                    have fI55 : Fb I I55 := Fb_tr fI53 (qb_X7_turnOf I53 A37 a1 0 I55 A56 hc57).1
                    have fA56 : Fb A A56 := Fb_tr fA37 (qb_X7_turnOf I53 A37 a1 0 I55 A56 hc57).2
                    obtain ⟨⟨r58, I59, A60⟩, hc61, h⟩ := Option.bind_eq_some_iff.mp h
                    have fI59 : Fb I I59 := Fb_tr fI55 (qb_X7_walks I55 A56 a1 r58 I59 A60 hc61).1
                    have fA60 : Fb A A60 := Fb_tr fA56 (qb_X7_walks I55 A56 a1 r58 I59 A60 hc61).2
                    by_cases c_62 : 0 < r58
                    · have h := ip c_62 h
                      exact kk38 r58 I59 A60 h fI59 fA60
                    · have h := iN c_62 h
                      exact ih34 (v35 + 1) I59 A60 h fI59 fA60
                by_cases c_71 : (I36 318 28) < (I36 318 18)
                · have h := ip c_71 h
                  obtain ⟨hn73, h⟩ := gk h
                  exact kj52 (A37 331 ((I36 318 28).toNatClampNeg)) h
                · have h := iN c_71 h
                  obtain ⟨hz72, h⟩ := gk h
                  exact kj52 (((I36 318 28) - (I36 318 18)) - ((I36 318 28) - (I36 318 18)) / (I36 318 15) * (I36 318 15)) h
              · have h := iN c_48 h
                exact kk45 I36 A37 h fI36 fA37
          exact lp34 FU 0 I31 A32 h fI31 fA32
        by_cases c_74 : (I1 318 23) = (-9)
        · have h := ip c_74 h
          obtain ⟨I75, eI75, h⟩ := bd_e h
          have fI75 : Fb I I75 := by rw [eI75]; exact Fb_up fI1 (Or.inl (show ¬ (318 = 344 ∨ 318 = 345 ∨ 318 = 372 ∨ 318 = 373) by decide))
          obtain ⟨I76, eI76, h⟩ := bd_e h
          have fI76 : Fb I I76 := by rw [eI76]; exact Fb_up fI75 (Or.inl (show ¬ (318 = 344 ∨ 318 = 345 ∨ 318 = 372 ∨ 318 = 373) by decide))
          obtain ⟨I77, eI77, h⟩ := bd_e h
          have fI77 : Fb I I77 := by rw [eI77]; exact Fb_up fI76 (Or.inl (show ¬ (318 = 344 ∨ 318 = 345 ∨ 318 = 372 ∨ 318 = 373) by decide))
          obtain ⟨k81, ek81, h⟩ := bd_e h
          have kk81 : ∀ (A82 : Nat → Nat → Int32), k81 A82 = some (r0, I0, A0) → Fb A A82 → Fb I I0 ∧ Fb A A0 := by
            intro A82 h fA82
            subst ek81
            obtain ⟨⟨I83, A84⟩, hc85, h⟩ := Option.bind_eq_some_iff.mp h
            have fI83 : Fb I I83 := Fb_tr fI77 (qb_X7_begins I77 A82 a1 1 I83 A84 hc85).1
            have fA84 : Fb A A84 := Fb_tr fA82 (qb_X7_begins I77 A82 a1 1 I83 A84 hc85).2
            by_cases c_86 : (I83 318 29) = 0
            · have h := ip c_86 h
              obtain ⟨⟨I87, A88⟩, hc89, h⟩ := Option.bind_eq_some_iff.mp h
              have fI87 : Fb I I87 := Fb_tr fI83 (qb_X7_endsAs I83 A84 a1 2 I87 A88 hc89).1
              have fA88 : Fb A A88 := Fb_tr fA84 (qb_X7_endsAs I83 A84 a1 2 I87 A88 hc89).2
              cases h; exact ⟨fI87, fA88⟩
            · have h := iN c_86 h
              exact kj33 I83 A84 h fI83 fA84
          have lp78 : ∀ (n : Nat) (v79 : Int32) (A80 : Nat → Nat → Int32), f_X7_solve_L75 a1 a2 I77 k81 n v79 A80 = some (r0, I0, A0) → Fb A A80 → Fb I I0 ∧ Fb A A0 := by
            intro n
            induction n with
            | zero => intro v79 A80 h; exact absurd h (by rw [f_X7_solve_L75]; exact nofun)
            | succ n ih78 =>
              intro v79 A80 h fA80
              rw [f_X7_solve_L75] at h
              by_cases c_90 : v79 < 5
              · have h := ip c_90 h
                obtain ⟨hn91, h⟩ := gk h
                obtain ⟨A92, eA92, h⟩ := bd_e h
                have fA92 : Fb A A92 := by rw [eA92]; exact Fb_up fA80 (Or.inl (show ¬ (335 = 344 ∨ 335 = 345 ∨ 335 = 372 ∨ 335 = 373) by decide))
                obtain ⟨A93, eA93, h⟩ := bd_e h
                have fA93 : Fb A A93 := by rw [eA93]; exact Fb_up fA92 (Or.inl (show ¬ (336 = 344 ∨ 336 = 345 ∨ 336 = 372 ∨ 336 = 373) by decide))
                obtain ⟨A94, eA94, h⟩ := bd_e h
                have fA94 : Fb A A94 := by rw [eA94]; exact Fb_up fA93 (Or.inl (show ¬ (334 = 344 ∨ 334 = 345 ∨ 334 = 372 ∨ 334 = 373) by decide))
                obtain ⟨A95, eA95, h⟩ := bd_e h
                have fA95 : Fb A A95 := by rw [eA95]; exact Fb_up fA94 (Or.inl (show ¬ (337 = 344 ∨ 337 = 345 ∨ 337 = 372 ∨ 337 = 373) by decide))
                exact ih78 (v79 + 1) A95 h fA95
              · have h := iN c_90 h
                exact kk81 A80 h fA80
          exact lp78 FU 0 A h fA
        · have h := iN c_74 h
          exact kj33 I1 A h fI1 fA
      by_cases c_96 : (I1 318 23) = (-9)
      · have h := ip c_96 h
        exact kj9 () h
      · have h := iN c_96 h
        by_cases c_97 : (I1 318 23) = a1
        · have h := ip c_97 h
          exact kj9 () h
        · have h := iN c_97 h
          cases h; exact ⟨fI1, fA⟩
set_option maxHeartbeats 4000000 in
set_option maxRecDepth 100000 in
theorem qb_X7_status (I : Nat → Nat → Int32) (r0 : Int32) (I0 : Nat → Nat → Int32) (h : f_X7_status I = some (r0, I0)) : Fb I I0 := by
  have fI : Fb I I := Fb_rf
  rw [f_X7_status] at h
  obtain ⟨I1, eI1, h⟩ := bd_e h
  have fI1 : Fb I I1 := by rw [eI1]; exact Fb_up fI (Or.inl (show ¬ (318 = 344 ∨ 318 = 345 ∨ 318 = 372 ∨ 318 = 373) by decide))
  cases h; exact fI1
set_option maxHeartbeats 4000000 in
set_option maxRecDepth 100000 in
theorem qb_X7_told (I : Nat → Nat → Int32) (A : Nat → Nat → Int32) (a1 : Int32) (a2 : Int32) (r0 : Int32) (I0 : Nat → Nat → Int32) (h : f_X7_told I A a1 a2 = some (r0, I0)) : Fb I I0 := by
  have fI : Fb I I := Fb_rf
  have fA : Fb A A := Fb_rf
  rw [f_X7_told] at h
  obtain ⟨I1, eI1, h⟩ := bd_e h
  have fI1 : Fb I I1 := by rw [eI1]; exact Fb_up fI (Or.inl (show ¬ (318 = 344 ∨ 318 = 345 ∨ 318 = 372 ∨ 318 = 373) by decide))
  obtain ⟨r2, hc3, h⟩ := Option.bind_eq_some_iff.mp h
  by_cases c_4 : r2 = 0
  · have h := ip c_4 h
    cases h; exact fI1
  · have h := iN c_4 h
    obtain ⟨r5, hc6, h⟩ := Option.bind_eq_some_iff.mp h
    by_cases c_7 : r5 = 0
    · have h := ip c_7 h
      cases h; exact fI1
    · have h := iN c_7 h
      obtain ⟨hn8, h⟩ := gk h
      by_cases c_9 : (A 351 a1.toNatClampNeg) = 0
      · have h := ip c_9 h
        cases h; exact fI1
      · have h := iN c_9 h
        obtain ⟨hn10, h⟩ := gk h
        cases h; exact fI1
set_option maxHeartbeats 4000000 in
set_option maxRecDepth 100000 in
theorem qb_X7_turn (I : Nat → Nat → Int32) (A : Nat → Nat → Int32) (a1 : Int32) (r0 : Int32) (I0 : Nat → Nat → Int32) (A0 : Nat → Nat → Int32) (h : f_X7_turn I A a1 = some (r0, I0, A0)) : Fb I I0 ∧ Fb A A0 := by
  have fI : Fb I I := Fb_rf
  have fA : Fb A A := Fb_rf
  rw [f_X7_turn] at h
  obtain ⟨I1, eI1, h⟩ := bd_e h
  have fI1 : Fb I I1 := by rw [eI1]; exact Fb_up fI (Or.inl (show ¬ (318 = 344 ∨ 318 = 345 ∨ 318 = 372 ∨ 318 = 373) by decide))
  obtain ⟨r2, hc3, h⟩ := Option.bind_eq_some_iff.mp h
  by_cases c_4 : r2 = 0
  · have h := ip c_4 h
    cases h; exact ⟨fI1, fA⟩
  · have h := iN c_4 h
    by_cases c_5 : (I1 318 23) = (-9)
    · have h := ip c_5 h
      by_cases c_6 : (I1 318 18) = 200
      · have h := ip c_6 h
        cases h; exact ⟨fI1, fA⟩
      · have h := iN c_6 h
        obtain ⟨hn7, h⟩ := gk h
        obtain ⟨A8, eA8, h⟩ := bd_e h
        have fA8 : Fb A A8 := by rw [eA8]; exact Fb_up fA (Or.inl (show ¬ (331 = 344 ∨ 331 = 345 ∨ 331 = 372 ∨ 331 = 373) by decide))
        obtain ⟨I9, eI9, h⟩ := bd_e h
        have fI9 : Fb I I9 := by rw [eI9]; exact Fb_up fI1 (Or.inl (show ¬ (318 = 344 ∨ 318 = 345 ∨ 318 = 372 ∨ 318 = 373) by decide))
        cases h; exact ⟨fI9, fA8⟩
    · have h := iN c_5 h
      cases h; exact ⟨fI1, fA⟩
set_option maxHeartbeats 4000000 in
set_option maxRecDepth 100000 in
theorem qb_X7_variable (I : Nat → Nat → Int32) (A : Nat → Nat → Int32) (a1 : Int32) (a2 : Int32) (a3 : Int32) (r0 : Int32) (I0 : Nat → Nat → Int32) (A0 : Nat → Nat → Int32) (h : f_X7_variable I A a1 a2 a3 = some (r0, I0, A0)) : Fb I I0 ∧ Fb A A0 := by
  have fI : Fb I I := Fb_rf
  have fA : Fb A A := Fb_rf
  rw [f_X7_variable] at h
  obtain ⟨I1, eI1, h⟩ := bd_e h
  have fI1 : Fb I I1 := by rw [eI1]; exact Fb_up fI (Or.inl (show ¬ (318 = 344 ∨ 318 = 345 ∨ 318 = 372 ∨ 318 = 373) by decide))
  obtain ⟨r2, hc3, h⟩ := Option.bind_eq_some_iff.mp h
  by_cases c_4 : r2 = 0
  · have h := ip c_4 h
    cases h; exact ⟨fI1, fA⟩
  · have h := iN c_4 h
    obtain ⟨r5, hc6, h⟩ := Option.bind_eq_some_iff.mp h
    by_cases c_7 : r5 = 0
    · have h := ip c_7 h
      cases h; exact ⟨fI1, fA⟩
    · have h := iN c_7 h
      obtain ⟨r8, hc9, h⟩ := Option.bind_eq_some_iff.mp h
      by_cases c_10 : r8 = 0
      · have h := ip c_10 h
        cases h; exact ⟨fI1, fA⟩
      · have h := iN c_10 h
        by_cases c_11 : (I1 318 23) = (-9)
        · have h := ip c_11 h
          obtain ⟨hn12, h⟩ := gk h
          by_cases c_13 : (A 319 a1.toNatClampNeg) = 6
          · have h := ip c_13 h
            cases h; exact ⟨fI1, fA⟩
          · have h := iN c_13 h
            obtain ⟨hn14, h⟩ := gk h
            obtain ⟨A15, eA15, h⟩ := bd_e h
            have fA15 : Fb A A15 := by rw [eA15]; exact Fb_up fA (Or.inl (show ¬ (321 = 344 ∨ 321 = 345 ∨ 321 = 372 ∨ 321 = 373) by decide))
            obtain ⟨A16, eA16, h⟩ := bd_e h
            have fA16 : Fb A A16 := by rw [eA16]; exact Fb_up fA15 (Or.inl (show ¬ (322 = 344 ∨ 322 = 345 ∨ 322 = 372 ∨ 322 = 373) by decide))
            obtain ⟨A17, eA17, h⟩ := bd_e h
            have fA17 : Fb A A17 := by rw [eA17]; exact Fb_up fA16 (Or.inl (show ¬ (319 = 344 ∨ 319 = 345 ∨ 319 = 372 ∨ 319 = 373) by decide))
            obtain ⟨⟨I18, A19⟩, hc20, h⟩ := Option.bind_eq_some_iff.mp h
            have fI18 : Fb I I18 := Fb_tr fI1 (qb_X7_changes I1 A17 a1 I18 A19 hc20).1
            have fA19 : Fb A A19 := Fb_tr fA17 (qb_X7_changes I1 A17 a1 I18 A19 hc20).2
            cases h; exact ⟨fI18, fA19⟩
        · have h := iN c_11 h
          cases h; exact ⟨fI1, fA⟩
set_option maxHeartbeats 4000000 in
set_option maxRecDepth 100000 in
theorem qb_X7_walked (I : Nat → Nat → Int32) (A : Nat → Nat → Int32) (a1 : Int32) (a2 : Int32) (r0 : Int32) (I0 : Nat → Nat → Int32) (h : f_X7_walked I A a1 a2 = some (r0, I0)) : Fb I I0 := by
  have fI : Fb I I := Fb_rf
  have fA : Fb A A := Fb_rf
  rw [f_X7_walked] at h
  obtain ⟨I1, eI1, h⟩ := bd_e h
  have fI1 : Fb I I1 := by rw [eI1]; exact Fb_up fI (Or.inl (show ¬ (318 = 344 ∨ 318 = 345 ∨ 318 = 372 ∨ 318 = 373) by decide))
  obtain ⟨r2, hc3, h⟩ := Option.bind_eq_some_iff.mp h
  by_cases c_4 : r2 = 0
  · have h := ip c_4 h
    cases h; exact fI1
  · have h := iN c_4 h
    obtain ⟨r5, hc6, h⟩ := Option.bind_eq_some_iff.mp h
    by_cases c_7 : r5 = 0
    · have h := ip c_7 h
      cases h; exact fI1
    · have h := iN c_7 h
      by_cases c_8 : a2 = 0
      · have h := ip c_8 h
        obtain ⟨hn16, h⟩ := gk h
        cases h; exact fI1
      · have h := iN c_8 h
        by_cases c_9 : a2 < 7
        · have h := ip c_9 h
          obtain ⟨hn15, h⟩ := gk h
          cases h; exact fI1
        · have h := iN c_9 h
          by_cases c_10 : a2 = 7
          · have h := ip c_10 h
            obtain ⟨hn14, h⟩ := gk h
            cases h; exact fI1
          · have h := iN c_10 h
            by_cases c_11 : a2 = 8
            · have h := ip c_11 h
              obtain ⟨hn13, h⟩ := gk h
              cases h; exact fI1
            · have h := iN c_11 h
              obtain ⟨hn12, h⟩ := gk h
              cases h; exact fI1
set_option maxHeartbeats 4000000 in
set_option maxRecDepth 100000 in
theorem qb_X7_with (I : Nat → Nat → Int32) (A : Nat → Nat → Int32) (a1 : Int32) (r0 : Int32) (I0 : Nat → Nat → Int32) (A0 : Nat → Nat → Int32) (h : f_X7_with I A a1 = some (r0, I0, A0)) : Fb I I0 ∧ Fb A A0 := by
  have fI : Fb I I := Fb_rf
  have fA : Fb A A := Fb_rf
  rw [f_X7_with] at h
  obtain ⟨I1, eI1, h⟩ := bd_e h
  have fI1 : Fb I I1 := by rw [eI1]; exact Fb_up fI (Or.inl (show ¬ (318 = 344 ∨ 318 = 345 ∨ 318 = 372 ∨ 318 = 373) by decide))
  by_cases c_2 : (I1 318 57) = (-9)
  · have h := ip c_2 h
    cases h; exact ⟨fI1, fA⟩
  · have h := iN c_2 h
    obtain ⟨hn3, h⟩ := gk h
    by_cases c_4 : (I1 318 59) = (A 319 ((I1 318 57).toNatClampNeg))
    · have h := ip c_4 h
      cases h; exact ⟨fI1, fA⟩
    · have h := iN c_4 h
      obtain ⟨hn5, h⟩ := gk h
      obtain ⟨r6, hc7, h⟩ := Option.bind_eq_some_iff.mp h
      by_cases c_8 : r6 = 0
      · have h := ip c_8 h
        cases h; exact ⟨fI1, fA⟩
      · have h := iN c_8 h
        obtain ⟨hn9, h⟩ := gk h
        obtain ⟨A10, eA10, h⟩ := bd_e h
        have fA10 : Fb A A10 := by rw [eA10]; exact Fb_up fA (Or.inl (show ¬ (362 = 344 ∨ 362 = 345 ∨ 362 = 372 ∨ 362 = 373) by decide))
        obtain ⟨I11, eI11, h⟩ := bd_e h
        have fI11 : Fb I I11 := by rw [eI11]; exact Fb_up fI1 (Or.inl (show ¬ (318 = 344 ∨ 318 = 345 ∨ 318 = 372 ∨ 318 = 373) by decide))
        cases h; exact ⟨fI11, fA10⟩

/-! part 90.end -/
/-! THE TIE: a solving ends -/
section CK
variable {I A : Nat → Nat → Int32} {G : Nat → Nat → Nat} {L : Nat → Nat → Int64} {J R I' A' J' R' : Nat → Nat → Int32} {G' : Nat → Nat → Nat} {L' : Nat → Nat → Int64} {n np z sc T p nv nr kn nn dd tk tn hb : Nat} {fb : Nat → Option (Nat × Nat)} {r : Int32}
/-- all but the solving -/
def RS (n : Nat) (I : Nat → Nat → Int32) (G : Nat → Nat → Nat) (A : Nat → Nat → Int32) (L : Nat → Nat → Int64) (J R : Nat → Nat → Int32) (np z sc : Nat) : Prop := Q1 I A J R np ∧ Q2 I A J R z sc ∧ Q3 I A R ∧ Q4 I G A L J R ∧ Q5c I J R n ∧ Q5 I A J R ∧ Q6 A J R ∧ Q7 I J ∧ I 0 3 = J 318 19
theorem RS_fr (h : RS n I G A L J R np z sc) (hT : (T = 22 ∧ G 0 6 = 34) ∨ (T = 34 ∧ G 0 6 = 22))
    (hI : ∀ j k, j ≠ T → j ≠ T + 11 → j ≠ 14 → ¬ (j = 0 ∧ k = 5) → I' j k = I j k)
    (hG : ∀ j k, j ≠ T → j ≠ 14 → G' j k = G j k)
    (hA : ∀ j m, j ≠ 15 → j ≠ 16 → j ≠ 5 → j ≠ 6 → j ≠ 7 → (j < T + 2 ∨ T + 10 < j) → A' j m = A j m)
    (hL : ∀ j m, j ≠ T + 1 → L' j m = L j m)
    (hJ : ∀ k, ¬ (k = 0 ∨ k = 23 ∨ k = 24 ∨ k = 28 ∨ k = 29 ∨ k = 30 ∨ k = 31 ∨ k = 64 ∨ k = 65) → J' 318 k = J 318 k)
    (hR : ∀ j m, (j < 332 ∨ 349 < j) → j ≠ 364 → R' j m = R j m)
    (hte : ∀ h, h < 5 → THt A' R' 2 h) : RS n I' G' A' L' J' R' np z sc := by
  obtain ⟨q1, ⟨⟨t1, t2, t3, t4, t5, t6, t7, t8⟩, q2⟩, q3, q4, q5c, q5, q6, q7, q8⟩ := h
  refine ⟨Q1_of q1 (hI _ _ (by omega) (by omega) (by omega) (by omega)) (hJ _ (by omega)) (fun j k h1 h2 _ => hI j k (by omega) (by omega) (by omega) (by omega)) (fun j k h1 h2 _ => hA j k (by omega) (by omega) (by omega) (by omega) (by omega) (by omega)) (fun j k h1 h2 => hR j k (by omega) (by omega)), ⟨⟨by rw [hI _ _ (by omega) (by omega) (by omega) (by omega)]; exact t1, by rw [hJ _ (by omega)]; exact t2, t3, t4, by rw [hI _ _ (by omega) (by omega) (by omega) (by omega)]; exact t5, by rw [hJ _ (by omega)]; exact t6, t7, fun i hi => by rw [hA _ _ (by omega) (by omega) (by omega) (by omega) (by omega) (by omega), hR _ _ (by omega) (by omega)]; exact t8 i hi⟩, fun x hx => ⟨by rw [hA _ _ (by omega) (by omega) (by omega) (by omega) (by omega) (by omega), hR _ _ (by omega) (by omega)]; exact (q2 x hx).1, hte x hx⟩⟩, Q3_of q3 (fun p hp => hI _ _ (by omega) (by omega) (by omega) (by omega)) (fun p m hp => hA _ _ (by omega) (by omega) (by omega) (by omega) (by omega) (by omega)) (fun j m h1 h2 => hR j m (by omega) (by omega)), Q4_of q4 (hG _ _ (by omega) (by omega)) (fun T2 h => hG _ _ (by omega) (by omega)) (fun T2 h => hI _ _ (by omega) (by omega) (by omega) (by omega)) (hJ _ (by omega)) (fun T2 j m h1 h2 h3 => hA j m (by omega) (by omega) (by omega) (by omega) (by omega) (by omega)) (fun T2 m h => hL _ _ (by omega)) (fun j m h1 h2 => hR j m (by omega) (by omega)) (fun B nv hB e1 e2 => ⟨nv, Nat.le_refl _, e2, by rw [hI _ _ (by have := pr_ge hB; omega) (by have := pr_ge hB; omega) (by have := pr_ge hB; omega) (by have := pr_ge hB; omega)]; exact e1, fun m _ => hA _ _ (by have := pr_ge hB; omega) (by have := pr_ge hB; omega) (by have := pr_ge hB; omega) (by have := pr_ge hB; omega) (by have := pr_ge hB; omega) (by have := pr_ge hB; omega)⟩), Q5c_of q5c (Nat.le_refl _) (hJ _ (by omega)) (fun p hp => hI _ _ (by omega) (by omega) (by omega) (by omega)) (fun m => hR _ _ (by omega) (by omega)), Q5_of q5 (fun k _ _ => hI _ _ (by omega) (by omega) (by omega) (by omega)) (fun k _ _ => hJ k (by omega)) (fun p k hp _ _ => hI _ _ (by omega) (by omega) (by omega) (by omega)) (fun m => hA _ _ (by omega) (by omega) (by omega) (by omega) (by omega) (by omega)) (fun p m hp => hA _ _ (by omega) (by omega) (by omega) (by omega) (by omega) (by omega)) (fun m => hR _ _ (by omega) (by omega)) (fun m => hR _ _ (by omega) (by omega)) (Qn_of (hJ _ (by omega))), Q6_of q6 (hJ _ (by omega)) (fun m => hA _ _ (by omega) (by omega) (by omega) (by omega) (by omega) (by omega)) (fun m => hR _ _ (by omega) (by omega)), ?_, ?_⟩
  · exact ⟨by rw [hI _ _ (by omega) (by omega) (by omega) (by omega), hJ _ (by omega)]; exact q7.1, by rw [hI _ _ (by omega) (by omega) (by omega) (by omega)]; exact q7.2⟩
  · rw [hI _ _ (by omega) (by omega) (by omega) (by omega), hJ _ (by omega)]
    exact q8
theorem t_end (h : RS n I G A L J R np z sc) (hT : (T = 22 ∧ G 0 6 = 34) ∨ (T = 34 ∧ G 0 6 = 22)) (hS : TSv I G A L J R T 2 p (58 + 52 * p) nv nr kn nn dd tk tn hb z sc fb) (hp : p < np) (hu : I 0 5 = nI p) (hr : ¬ r = 0) (he : TEn R nv nn tk r) : ∃ I' G' A' J' R', f_X6_endSolving I G A L r = some (I', G', A') ∧ f_X7_endsAs J R (nI p) r = some (J', R') ∧ (Q9 R' → Rel (n + 1) I' G' A' L J' R') := by
  obtain ⟨⟨p1, p2, p3, p4⟩, q2, q3, q4, q5c, q5, q6, q7, q8⟩ := id h
  obtain ⟨hSw, hE, hGT, hGE, hkn, hhc, hH, hTe, hlim, htn1, htn2, hT46, ht250⟩ := hS
  obtain ⟨hTr, hGB, hPr, hmt, hX, hF, hd1, hd2, ht1, ht2, hw⟩ := id hSw
  obtain ⟨g0, g1, g2, g3, g10, g11, l1, l2, l3, l10, l11⟩ := pq_all p (by omega)
  have hnv := hPr.2.2.1.1
  have hlT : lT T = 1711 := by unfold lT; rw [if_pos hT46]
  have hT2 : T = 22 ∨ T = 34 := by
    rcases hT with ⟨a, _⟩ | ⟨a, _⟩
    · exact Or.inl a
    · exact Or.inr a
  have hlen := hX.1
  have hknT := hX.2.2.2.1
  have hos : nn ≤ kn := by
    rcases Nat.eq_zero_or_pos nn with e | e
    · omega
    · have a := fi_mem (A := A) (T := T) (kn := kn) (n := nn - 1) (by omega)
      have b : ∀ m, m < nn → m ≤ fi A T kn m := fun m => by
        induction m with
        | zero => intro _; omega
        | succ m ih =>
          intro hm
          have c := fi_lt (A := A) (T := T) (kn := kn) (n := m) (m := m + 1) (by omega) (by omega)
          have := ih (by omega)
          omega
      have := b (nn - 1) (by omega)
      omega
  have hnn : nn ≤ 1711 := by omega
  obtain ⟨A', s1, s2, s3, s4, s5, s6, s7⟩ := t_sumUp (s2 := 58 + 52 * p + 11) (r := r) hSw hGT ⟨by have := g11.1; unfold NS; omega, g11.2, l11⟩ g11.1 (by omega) ht250
  have hr1 : r = 1 → 0 < tk := fun e => by
    rcases he with ⟨a, _⟩ | ⟨_, b, _⟩ | ⟨a, _⟩ | a | a
    · exact absurd a hr
    · exact b
    · rw [e] at a; exact absurd a (by decide)
    · rw [e] at a; exact absurd a (by decide)
    · rw [e] at a; exact absurd a (by decide)
  have hmL : ∃ mL, 0 < tk → R 346 (tk - 1) = nI mL ∧ mL < 2000 := by
    rcases Nat.eq_zero_or_pos tk with e | e
    · exact ⟨0, fun q => by omega⟩
    · obtain ⟨m, m1, m2, _⟩ := hw (tk - 1) (by omega)
      exact ⟨m, fun _ => ⟨m2, by omega⟩⟩
  obtain ⟨mL, hmL⟩ := hmL
  obtain ⟨R', e1, e2, e3, e4, f0, f1, f2, f3, f4, f5, f6, f7, f8, f9⟩ := r_endsAs (nv := nv) (tk := tk) (mL := mL) (nx := nxw R nn) (r := r) (show p < 5 by omega) (t_nxw hX hTr).2 (fun m hm => by have := (nxw_o hm).1; omega) ht2 ht250 hnv hPr.2.2.2.1 (fun x hx => by
    obtain ⟨m, m1, m2, _⟩ := hw x hx
    obtain ⟨hs, _⟩ := hX.2.2.2.2.2 m m1
    exact ⟨m, by omega, m2, hs.2.1, hs.1⟩) hmL hr1
  have hisP : f_X6_isProblem I (nI p) = some 1 := by
    rcases t_isP (a := nI p) (I := I) (J := J) p2 p3 p1 with ⟨_, _, _, x, _⟩ | ⟨x, _⟩
    · exact x
    · unfold f_X6_isProblem at x
      rw [p2, (t_wi _ _ _).1, nI_s1 (by omega), if_pos (t_rng1 (by omega) (by omega))] at x
      exact absurd (Option.some.inj ((gd_t (Or.inr rfl)).symm.trans x)) (by decide)
  have hends : f_X6_endSolving I G A L r = some (up2 (up2 I (58 + 52 * p) 3 1) 0 5 (-9), up2 (up2 G 0 6 (G 14 0)) 14 0 (G 0 6), A') := by
    unfold f_X6_endSolving
    simp (disch := omega) only [hu, hisP, Option.bind_some, if_neg z10, gd_in, t_cl, gd_t g0, s1, bd]
  have hI : ∀ j k, ¬ (j = 58 + 52 * p ∧ k = 3) → ¬ (j = 0 ∧ k = 5) → up2 (up2 I (58 + 52 * p) 3 1) 0 5 (-9) j k = I j k := fun j k q1 q2 => by rw [up2_n q2, up2_n q1]
  have hJ : ∀ k, ¬ (k = 23 ∨ k = 48) → up2 (up2 J 318 48 (nI tk)) 318 23 (-9) 318 k = J 318 k := fun k q => by rw [up2_n (by omega), up2_n (by omega)]
  refine ⟨_, _, _, _, _, hends, e1, fun h9 => ⟨np, z, sc, Q1_of ⟨p1, p2, p3, p4⟩ (hI _ _ (by omega) (by omega)) (hJ _ (by omega)) (fun j k h1 h2 h3 => hI j k (by omega) (by omega)) (fun j k h1 h2 h3 => s2 j k (by omega)) (fun j k h1 h2 => e2 j k (by omega)), Q2_of q2 (fun k => hI _ _ (by omega) (by omega)) (hJ _ (by omega)) (hJ _ (by omega)) (fun j m h1 h2 => s2 j m (by omega)) (fun j m h1 h2 => e2 j m (by omega)), fun q hq => ?_, ⟨T, 58 + 52 * p, tk, nv, ?_, hT2, ?_, ⟨p, by omega, rfl⟩, ?_, ?_, ht250, ?_, hnv, fun i hi => ?_⟩, Q5c_of q5c (Nat.le_succ n) (hJ _ (by omega)) (fun p hp => hI _ _ (by omega) (by omega)) (fun m => e2 _ _ (by omega)), Q5_of q5 (fun k _ _ => hI _ _ (by omega) (by omega)) (fun k _ _ => hJ k (by omega)) (fun p k hp _ _ => hI _ _ (by omega) (by omega)) (fun m => s2 _ _ (by omega)) (fun p m hp => s2 _ _ (by omega)) (fun m => e2 _ _ (by omega)) (fun m => e2 _ _ (by omega)) (Qn_of (hJ _ (by omega))), Q6_of q6 (hJ _ (by omega)) (fun m => s2 _ _ (by omega)) (fun m => e2 _ _ (by omega)), ?_, ⟨?_, G 0 6, up2_s _ _ _ _, ?_, Or.inl ⟨up2_s _ _ _ _, up2_s _ _ _ _⟩⟩, h9⟩⟩
  · by_cases e : q = p
    · subst e
      refine Or.inr ⟨by rw [up2_n (by omega), up2_s], f6, fun k hk => ?_, ?_⟩
      · have hk6 : k = 0 ∨ k = 1 ∨ k = 2 ∨ k = 3 ∨ k = 4 ∨ k = 5 := by omega
        rcases hk6 with rfl | rfl | rfl | rfl | rfl | rfl
        · rw [s3]; exact f0.symm
        · rw [s4]; exact f1.symm
        · rw [s5]; exact hd2.symm.trans f2.symm
        · rw [s6, htn1]; exact htn2.symm.trans f3.symm
        · rw [f4]
          rcases s7 with ⟨a1, a2, m, a3, a4, a5, a6, a7⟩ | ⟨a1, a2, a3, a4⟩
          · have em : m = mL := (t_eq (by omega) (by have := (hmL a2).2; omega)).mp (a4.symm.trans (hmL a2).1)
            rw [if_pos a1, a5, em]
          · rw [if_neg (fun q => a1 ⟨q, hr1 q⟩), a2]
        · rw [f5]
          rcases s7 with ⟨a1, a2, m, a3, a4, a5, a6, a7⟩ | ⟨a1, a2, a3, a4⟩
          · have em : m = mL := (t_eq (by omega) (by have := (hmL a2).2; omega)).mp (a4.symm.trans (hmL a2).1)
            rw [if_pos a1, a6, em]
          · rw [if_neg (fun q => a1 ⟨q, hr1 q⟩), a3]
      · rcases s7 with ⟨a1, a2, m, a3, a4, a5, a6, a7⟩ | ⟨a1, a2, a3, a4⟩
        · have em : m = mL := (t_eq (by omega) (by have := (hmL a2).2; omega)).mp (a4.symm.trans (hmL a2).1)
          exact Or.inl ⟨by rw [f7, if_pos a1], fun v hv => by rw [a7 v hv, f8 a1 v hv, em]⟩
        · exact Or.inr ⟨by rw [f7, if_neg (fun q => a1 ⟨q, hr1 q⟩)], a4⟩
    · have := q3 q hq
      rw [hI _ _ (by omega) (by omega), (e4 q e).1, (e4 q e).2]
      rcases this with a | ⟨a, b, c, d⟩
      · exact Or.inl a
      · refine Or.inr ⟨a, b, fun k hk => ?_, ?_⟩
        · rw [s2 _ _ (by omega), (e3 (6 * q + k) (by omega)).1]
          exact c k hk
        · rcases d with ⟨d1, d2⟩ | ⟨d1, d2⟩
          · exact Or.inl ⟨d1, fun v hv => by rw [s2 _ _ (by omega), (e3 (6 * q + v) (by omega)).2]; exact d2 v hv⟩
          · exact Or.inr ⟨d1, fun v hv => by rw [s2 _ _ (by omega)]; exact d2 v hv⟩
  · rw [up2_n (by omega), up2_s]; exact hGT
  · rw [up2_n (by omega), up2_n (by omega)]; exact hGB
  · rw [hI _ _ (by omega) (by omega)]; exact ht1
  · rw [up2_n (by omega), up2_s]
  · rw [hI _ _ (by omega) (by omega)]; exact hPr.2.2.1.2.2.1
  · obtain ⟨m, m1, m2, m3, m4⟩ := hw i hi
    obtain ⟨hs, hd, _, hc⟩ := hX.2.2.2.2.2 m m1
    obtain ⟨d1, d2, d3, d4, d5⟩ := hd (fun q => q)
    have h344 := d4 m3
    obtain ⟨w1, w2, w3, w4, w5, w6⟩ := f9 i m hi m2 (by omega)
    obtain ⟨fm1, fm2⟩ := fi_mem (A := A) (T := T) (kn := kn) (n := m) (by omega)
    have hcl : fi A T kn m < lT T := by omega
    have hb1 := (t_bOf (L := L) hTr hcl).symm.trans (t_bound hTr hcl hs)
    have hA' : ∀ j x, j < 58 → A' j x = A j x := fun j x hj => s2 j x (by omega)
    refine ⟨fi A T kn m, dn R m, by omega, by rw [hA' _ _ (by omega)]; exact m4, by have := hs.1; omega, by rw [hA' _ _ (by omega)]; exact hs.2.2.1, w1.trans hs.2.1, fun v hv => ?_, fun v hv1 hv2 => ?_, ?_, ?_, ?_⟩
    · rw [hs.2.2.2.2.2.1, vlo_e8 _ (ns_6 hs) hv (by have := hs.1; omega), (w6 v (by have := hs.1; omega)).1, (hs.2.2.2.1 v hv).1]
    · rw [(w6 v hv2).1]; exact hs.2.2.2.2.1 v hv1 hv2
    · rw [w2]; exact Option.some.inj hb1
    · rw [hA' _ _ (by omega), w3]; exact ((d5 trivial).2 h344).2
    · rcases hF.2 m m1 with ⟨u1, u2⟩ | ⟨f, u1, u2, u3⟩
      · have hdn : ¬ dn R m < nv := fun q => u2 ⟨h344, q⟩
        rcases hc with ⟨v1, v2, v3, _⟩ | ⟨f, k, v1, _⟩
        · exact Or.inl ⟨by rw [hA' _ _ (by omega)]; exact v2, by rw [w5, if_neg hdn], w4.trans v3⟩
        · rw [u1] at v1
          exact absurd v1 (by simp)
      · rcases hc with ⟨v1, _⟩ | ⟨f', k, v1, v2, v3, v4, v5, v6, _⟩
        · rw [u1] at v1
          exact absurd v1 (by simp)
        · rw [u1] at v1
          obtain ⟨x1, x2⟩ := Prod.mk.inj (Option.some.inj v1)
          subst x1 x2
          obtain ⟨y1, y2, y3⟩ := pr_sz hPr.2.2.1 u3
          refine Or.inr ⟨f, szo A (58 + 52 * p) (dn R m), by rw [hA' _ _ (by omega)]; exact v2, v3, by omega, u3, by rw [s2 _ _ (by omega)]; exact y1, ?_, ?_, fun y hy => ?_⟩
          · rw [w5, if_pos u3, hPr.2.2.2.2.2.1 _ (by omega)]; exact y1
          · rw [w4, v6]
            exact sm_c _ _ _ (fun i _ _ => by rw [hA' _ _ (by omega)])
          · rw [hA' _ _ (by omega), hA' _ _ (by omega), (w6 y (by omega)).2.1, (w6 y (by omega)).2.2]
            exact v5 y hy
  · exact ⟨by rw [hI _ _ (by omega) (by omega), hJ _ (by omega)]; exact q7.1, by rw [hI _ _ (by omega) (by omega)]; exact q7.2⟩
  · rw [hI _ _ (by omega) (by omega), hJ _ (by omega)]
    exact q8
  · rw [up2_n (show ¬ (0 = 14 ∧ 6 = 0) by decide), up2_s]
    rcases hT with ⟨a, b⟩ | ⟨a, b⟩
    · exact Or.inr ⟨b, hGT.trans a⟩
    · exact Or.inl ⟨b, hGT.trans a⟩
end CK

/-! part 91.begin -/
/-! THE TIE: a solving begins -/
section CL
variable {I A : Nat → Nat → Int32} {G : Nat → Nat → Nat} {L : Nat → Nat → Int64} {J R : Nat → Nat → Int32} {n np z sc T E p nv nr : Nat} {w : Int32}
theorem r_L75 {a1 a2 : Int32} {I77 R0 : Nat → Nat → Int32} {k81 : (Nat → Nat → Int32) → Option (Int32 × (Nat → Nat → Int32) × (Nat → Nat → Int32))} : ∀ (k i fu : Nat) (R : Nat → Nat → Int32), i + k = 5 → k < fu → (∀ h, h < i → R 335 h = R0 330 h ∧ R 336 h = 0 ∧ R 334 h = 0 ∧ R 337 h = -9) → (∀ j m, ¬ (334 ≤ j ∧ j ≤ 337) → R j m = R0 j m) → ∃ R', f_X7_solve_L75 a1 a2 I77 k81 fu (nI i) R = k81 R' ∧ (∀ h, h < 5 → R' 335 h = R0 330 h ∧ R' 336 h = 0 ∧ R' 334 h = 0 ∧ R' 337 h = -9) ∧ (∀ j m, ¬ (334 ≤ j ∧ j ≤ 337) → R' j m = R0 j m) := by
  intro k
  induction k with
  | zero =>
    intro i fu R hi hf h1 h2
    obtain ⟨fu, rfl⟩ : ∃ z, fu = z + 1 := ⟨fu - 1, by omega⟩
    obtain rfl : i = 5 := by omega
    rw [f_X7_solve_L75, if_neg (by decide)]
    exact ⟨R, rfl, h1, h2⟩
  | succ k ih =>
    intro i fu R hi hf h1 h2
    obtain ⟨fu, rfl⟩ : ∃ z, fu = z + 1 := ⟨fu - 1, by omega⟩
    rw [f_X7_solve_L75, if_pos (show nI i < 5 from nI_lt (b := 5) (by omega) (by omega))]
    simp (disch := omega) only [bd, gd_in, t_cl, nI_1]
    refine ih (i + 1) fu _ (by omega) (by omega) (fun h hh => ?_) (fun j m q => ?_)
    · by_cases e : h = i
      · subst e
        refine ⟨?_, ?_, ?_, up2_s _ _ _ _⟩
        · rw [up2_n (by omega), up2_n (by omega), up2_n (by omega), up2_s]; exact h2 _ _ (by omega)
        · rw [up2_n (by omega), up2_n (by omega), up2_s]
        · rw [up2_n (by omega), up2_s]
      · obtain ⟨a, b, c, d⟩ := h1 h (by omega)
        refine ⟨?_, ?_, ?_, ?_⟩
        · rw [up2_n (by omega), up2_n (by omega), up2_n (by omega), up2_n (by omega)]; exact a
        · rw [up2_n (by omega), up2_n (by omega), up2_n (by omega), up2_n (by omega)]; exact b
        · rw [up2_n (by omega), up2_n (by omega), up2_n (by omega), up2_n (by omega)]; exact c
        · rw [up2_n (by omega), up2_n (by omega), up2_n (by omega), up2_n (by omega)]; exact d
    · rw [up2_n (by omega), up2_n (by omega), up2_n (by omega), up2_n (by omega)]; exact h2 j m q
theorem t_begin (hT46 : T = 22 ∨ T = 34) (hGT : G 14 0 = T) (hE : TeAt E) (hPr : TPr I A R p (58 + 52 * p) nv nr) (hTe : TTe I A J R E z sc) (hh : ∀ h, h < 5 → (∃ f, f ≤ 200 ∧ A (E + 1) h = nI f ∧ R 335 h = nI f) ∧ R 336 h = 0 ∧ R 334 h = 0 ∧ R 337 h = -9 ∧ A (E + 4) h = R 332 h ∧ A (E + 5) h = R 333 h) (hw : J 318 24 = w) (h28 : J 318 28 = 0) : ∃ r I' G' A' L' J' R' nn fb, f_X3_begin I G A L (58 + 52 * p) E w = some (r, I', G', A', L') ∧ f_X7_begins J R (nI p) 1 = some (J', R') ∧ TSv I' G' A' L' J' R' T E p (58 + 52 * p) nv nr 1 nn 0 0 0 0 z sc fb ∧ ((nn = 0 ∧ r = 2) ∨ (nn = 1 ∧ r = 0)) ∧ J' 318 29 = nI nn ∧ (∀ j k, j ≠ T → j ≠ 14 → G' j k = G j k) ∧ (∀ j k, j ≠ T → j ≠ T + 11 → ¬ (j = 14 ∧ (k = 2 ∨ k = 3)) → I' j k = I j k) ∧ (∀ j m, j ≠ 15 → j ≠ 16 → j ≠ E + 3 → (j < T + 2 ∨ T + 10 < j) → A' j m = A j m) ∧ (∀ j m, j ≠ T + 1 → L' j m = L j m) ∧ (∀ k, ¬ (k = 29 ∨ k = 30 ∨ k = 31 ∨ k = 64 ∨ k = 65) → J' 318 k = J 318 k) ∧ (∀ j m, (j < 338 ∨ 349 < j) → j ≠ 364 → R' j m = R j m) := by
  have hTr : TrAt T := by unfold TrAt; omega
  obtain ⟨g0, g1, g2, g3, g4, g5, g6, g7, g8, g9, g10, g11⟩ := tgd hTr
  have hl3 : ln (T + 3) = lT T := (tr_l hTr).2.2.1
  have hlT : lT T = 1711 := by unfold lT; rw [if_pos (by omega)]
  have hE2 : E = 2 ∨ E = 8 := hE
  obtain ⟨o1, o2, o3, o4, o5, o6, o7, o8, o9, o10, _⟩ := te_o hE
  have ia : IA (E + 3) 5 := ⟨by unfold NS; omega, o5, o10⟩
  have i15 : IA 15 5 := ⟨by decide, by decide +kernel, by decide +kernel⟩
  have i16 : IA 16 5 := ⟨by decide, by decide +kernel, by decide +kernel⟩
  obtain ⟨A9, eA9⟩ : ∃ z, z = fil (fil (fil A (E + 3) 5 0) 15 5 (-1)) 16 5 0 := ⟨_, rfl⟩
  obtain ⟨I3, eI3⟩ : ∃ z, z = up2 (up2 I 14 2 w) 14 3 0 := ⟨_, rfl⟩
  have oA : ∀ j m, j ≠ 15 → j ≠ 16 → j ≠ E + 3 → A9 j m = A j m := fun j m q1 q2 q3 => by rw [eA9, fil_j q2, fil_j q1, fil_j q3]
  have oI : ∀ j k, ¬ (j = 14 ∧ (k = 2 ∨ k = 3)) → I3 j k = I j k := fun j k q => by rw [eI3, up2_n (by omega), up2_n (by omega)]
  have hPr3 : TPr I3 A9 R p (58 + 52 * p) nv nr := TPr_of hPr (fun j k h1 h2 => oI j k (by omega)) (fun j k h1 h2 => oA j k (by omega) (by omega) (by omega)) (fun _ _ _ _ => rfl)
  obtain ⟨I', A', L', J', R', nn, c1, c2, c3, c4, c5, c6, c7, c8, c9, c10, c11, c12, ⟨x1, x2, x3, x4, x5⟩⟩ := t_plant (G := up2 G 14 1 E) (L := L) (J := J) (sv := True) hTr hPr3 (Or.inr rfl)
  have hG0 : up2 G 14 1 E 14 0 = T := by rw [up2_n (by omega)]; exact hGT
  have hG1 : up2 (up2 G 14 1 E) T 14 (58 + 52 * p) 14 0 = T := by rw [up2_n (by omega)]; exact hG0
  have hb : f_X3_begin I G A L (58 + 52 * p) E w = some ((if A' (T + 3) 0 = 0 then 0 else 2), I', up2 (up2 G 14 1 E) T 14 (58 + 52 * p), A', L') := by
    unfold f_X3_begin
    simp only [bd, up2_s]
    rw [gd_t (show E < 318 ∧ kd E = 4 from ⟨by omega, o2⟩), t_fill ia (by omega) (by omega)]
    simp only [Option.bind_some]
    rw [t_fill i15 (by omega) (by omega)]
    simp only [Option.bind_some]
    rw [t_fill i16 (by omega) (by omega)]
    simp only [Option.bind_some]
    rw [hG0, gd_t g0, ← eA9, ← eI3, c1]
    simp only [Option.bind_some]
    simp only [hG1, gd_t g0, gd_t g3, hl3, gd_t (show inr 0 (lT T) from t_in (k := 0) (by omega) (by omega))]
    have z0 : (0 : Int32).toNatClampNeg = 0 := rfl
    by_cases hz : A' (T + 3) 0 = 0
    · rw [if_pos hz, if_pos hz]
    · rw [if_neg hz, if_neg hz]
  have a15 : ∀ h, h < 5 → A' 15 h = -1 := fun h hh => by
    rw [x2 _ _ (by omega) (by omega), eA9, fil_j (by omega)]
    unfold fil
    rw [if_pos ⟨rfl, hh⟩]
  have a16 : ∀ h, h < 5 → A' 16 h = 0 := fun h hh => by
    rw [x2 _ _ (by omega) (by omega), eA9]
    unfold fil
    rw [if_pos ⟨rfl, hh⟩]
  have aE3 : ∀ h, h < 5 → A' (E + 3) h = 0 := fun h hh => by
    rw [x2 _ _ (by omega) (by omega), eA9, fil_j (by omega), fil_j (by omega)]
    unfold fil
    rw [if_pos ⟨rfl, hh⟩]
  have oA' : ∀ j m, j ≠ 15 → j ≠ 16 → j ≠ E + 3 → (j < T + 2 ∨ T + 10 < j) → A' j m = A j m := fun j m q1 q2 q3 q4 => by rw [x2 _ _ (by omega) (by omega)]; exact oA j m q1 q2 q3
  have oI' : ∀ j k, j ≠ T → j ≠ T + 11 → ¬ (j = 14 ∧ (k = 2 ∨ k = 3)) → I' j k = I j k := fun j k q1 q2 q3 => by rw [x1 _ _ q1 q2]; exact oI j k q3
  have oJ' : ∀ k, ¬ (k = 29 ∨ k = 30 ∨ k = 31 ∨ k = 64 ∨ k = 65) → J' 318 k = J 318 k := fun k q => x4 _ _ (by omega)
  have oR' : ∀ j m, (j < 338 ∨ 349 < j) → j ≠ 364 → R' j m = R j m := fun j m q1 q2 => x5 _ _ (by omega) q2
  refine ⟨_, I', _, A', L', J', R', nn, fun _ => none, hb, c2, ⟨⟨hTr, by rw [up2_s], c12, c11, c3, c5, c7, c8, c9, c10, fun i hi => by omega⟩, hE, hG1, by rw [up2_n (by omega), up2_s], by omega, by have := hc_le A'; omega, fun h hh5 => ?_, ?_, ?_, ?_, ?_, by omega, by omega⟩, ?_, c3.2.2.1, fun j k q1 q2 => by rw [up2_n (by omega), up2_n (by omega)], oI', oA', x3, oJ', oR'⟩
  · obtain ⟨⟨f, f1, f2, f3⟩, d1, d2, d3, d4, d5⟩ := hh h hh5
    refine ⟨Or.inl ⟨a15 h hh5, by rw [oR' _ _ (by omega) (by omega)]; exact d3⟩, ⟨0, f, by omega, a16 h hh5, by rw [oR' _ _ (by omega) (by omega)]; exact d1, fun q => absurd (a15 h hh5) q, f1, by rw [oA' _ _ (by omega) (by omega) (by omega) (by omega)]; exact f2, Or.inl (by rw [oR' _ _ (by omega) (by omega)]; exact f3)⟩, ⟨by rw [aE3 h hh5, oR' _ _ (by omega) (by omega)]; exact d2.symm, by rw [oA' _ _ (by omega) (by omega) (by omega) (by omega), oR' _ _ (by omega) (by omega)]; exact d4, by rw [oA' _ _ (by omega) (by omega) (by omega) (by omega), oR' _ _ (by omega) (by omega)]; exact d5⟩⟩
  · obtain ⟨t1, t2, t3, t4, t5, t6, t7, t8⟩ := hTe
    exact ⟨by rw [oI' _ _ (by omega) (by omega) (by omega)]; exact t1, by rw [oJ' _ (by omega)]; exact t2, t3, t4, by rw [oI' _ _ (by omega) (by omega) (by omega)]; exact t5, by rw [oJ' _ (by omega)]; exact t6, t7, fun i hi => by rw [oA' _ _ (by omega) (by omega) (by omega) (by omega), oR' _ _ (by omega) (by omega)]; exact t8 i hi⟩
  · rw [x1 _ _ (by omega) (by omega), eI3, up2_n (by omega), up2_s, oJ' _ (by omega)]; exact hw.symm
  · rw [x1 _ _ (by omega) (by omega), eI3, up2_s]; rfl
  · rw [oJ' _ (by omega)]; exact h28
  · rcases c4 with ⟨a, b⟩ | ⟨a, b⟩
    · exact Or.inl ⟨a, if_neg b⟩
    · exact Or.inr ⟨a, if_pos b⟩
end CL

/-! part 92.solve -/
/-! THE TIE: solve -/
section CM
variable {I A : Nat → Nat → Int32} {G : Nat → Nat → Nat} {L : Nat → Nat → Int64} {J R : Nat → Nat → Int32} {n np z sc T p nv nr kn nn dd tk tn hb ms : Nat} {fb : Nat → Option (Nat × Nat)}
/-- what stands behind the class's loop, and the reference's -/
noncomputable def kc (G : Nat → Nat → Nat) : Int32 → (Nat → Nat → Int32) → (Nat → Nat → Int32) → (Nat → Nat → Int64) → Option (Int32 × (Nat → Nat → Int32) × (Nat → Nat → Nat) × (Nat → Nat → Int32) × (Nat → Nat → Int64)) := fun v30 I31 A32 L33 => if v30 = 0 then (some (v30, I31, G, A32, L33)) else (Option.bind (f_X6_endSolving I31 G A32 L33 v30) fun (I35, G36, A37) => some (v30, I35, G36, A37, L33))
noncomputable def kr (a1 : Int32) : Int32 → (Nat → Nat → Int32) → (Nat → Nat → Int32) → Option (Int32 × (Nat → Nat → Int32) × (Nat → Nat → Int32)) := fun v39 I40 A41 => Option.bind (f_X7_endsAs I40 A41 a1 v39) fun (I42, A43) => some (v39, I42, A43)
def k0 : (Nat → Nat → Int32) → (Nat → Nat → Int32) → Option (Int32 × (Nat → Nat → Int32) × (Nat → Nat → Int32)) := fun I46 A47 => some ((0 : Int32), I46, A47)
theorem t_run (h : RS n I G A L J R np z sc) (hT : (T = 22 ∧ G 0 6 = 34) ∨ (T = 34 ∧ G 0 6 = 22)) (hS : TSv I G A L J R T 2 p (58 + 52 * p) nv nr kn nn dd tk tn hb z sc fb) (hp : p < np) (hu : I 0 5 = nI p) (hj : J 318 23 = nI p) (htk : tk < 250) (htn : tn ≤ 500 * n) (hhb : hb ≤ 500 * n) (hn : n ≤ 1000) (hms : ms ≤ 500) : ∃ r I' G' A' L' J' R', f_X6_solve_L82 (nI ms) G (kc G) FU 0 0 I A L = some (r, I', G', A', L') ∧ f_X7_solve_L143 (nI p) (nI ms) (kr (nI p)) k0 FU 0 J R = some (r, J', R') ∧ (Q9 R' → Rel (n + 1) I' G' A' L' J' R') := by
  obtain ⟨r, I', A', L', J', R', kn', nn', dd', tk', tn', hb', fb', e1, e2, hS', hX, he, b1, b2⟩ := t_loop (k29 := kc G) (k38 := kr (nI p)) (k45 := k0) hms ms 0 FU FU tn hb kn nn dd tk fb I A L J R (by omega) (t_fu _ (by omega)) (t_fu _ (by omega)) (by omega) (by omega) htk hS
  obtain ⟨x1, x2, x3, x4, x5, x6⟩ := hX
  have hT2 : T = 22 ∨ T = 34 := by
    rcases hT with ⟨a, _⟩ | ⟨a, _⟩
    · exact Or.inl a
    · exact Or.inr a
  have hRS : RS n I' G A' L' J' R' np z sc := RS_fr h hT (fun j k q1 q2 q3 q4 => x1 j k q1 q2 (by omega)) (fun _ _ _ _ => rfl) (fun j m q1 q2 q3 q4 q5 q6 => x3 j m q1 q2 (by omega) (by omega) (by omega) q6) x4 (fun k q => x5 _ _ (by omega)) x6 (fun h hh => (hS'.2.2.2.2.2.2.1 h hh).2.2)
  have hu' : I' 0 5 = nI p := by rw [x1 _ _ (by omega) (by omega) (by omega)]; exact hu
  have hj' : J' 318 23 = nI p := by rw [x5 _ _ (by omega)]; exact hj
  have e1' : f_X6_solve_L82 (nI ms) G (kc G) FU 0 0 I A L = kc G r I' A' L' := e1
  have e2' : f_X7_solve_L143 (nI p) (nI ms) (kr (nI p)) k0 FU 0 J R = (if 0 < r then kr (nI p) r J' R' else k0 J' R') := e2
  rw [e1', e2']
  rcases he with ⟨r0, r1⟩ | ⟨r0, r1⟩
  · subst r0
    unfold kc k0
    rw [if_pos rfl, if_neg (by decide)]
    refine ⟨_, _, _, _, _, _, _, rfl, rfl, fun h9 => ?_⟩
    obtain ⟨q1, q2, q3, q4, q5c, q5, q6, q7, q8⟩ := hRS
    exact ⟨np, z, sc, q1, q2, q3, q4, Q5c_of q5c (Nat.le_succ n) rfl (fun _ _ => rfl) (fun _ => rfl), q5, q6, q7, ⟨q8, T, hS'.2.2.1, hT, Or.inr ⟨p, nv, nr, kn', nn', dd', tk', tn', hb', fb', hp, hu', hj', hS', r1, by omega, by omega⟩⟩, h9⟩
  · obtain ⟨I2, G2, A2, J2, R2, y1, y2, y3⟩ := t_end hRS hT hS' hp hu' r0 r1
    have hr : 0 < r := by
      rcases r1 with ⟨a, _⟩ | ⟨a, _⟩ | ⟨a, _⟩ | a | a
      · exact absurd a r0
      · rw [a]; decide
      · rw [a]; decide
      · rw [a]; decide
      · rw [a]; decide
    unfold kc kr
    rw [if_neg r0, if_pos hr, y1, y2]
    exact ⟨_, _, _, _, _, _, _, rfl, rfl, y3⟩
theorem t_500 {a : Int32} (h : ¬ a < 1 ∧ ¬ 500 < a) : ∃ s, 1 ≤ s ∧ s ≤ 500 ∧ a = nI s := by
  have h0 : ¬ a < 0 := fun q => h.1 (Int32.lt_trans q (by decide))
  rcases t_rng (a := a) (hi := 500) (by omega) with ⟨s, s1, rfl⟩ | hc
  · refine ⟨s, ?_, s1, rfl⟩
    rcases Nat.eq_zero_or_pos s with e | e
    · subst e
      exact absurd (show nI 0 < 1 by decide) h.1
    · exact e
  · exact absurd ⟨h0, h.2⟩ hc
theorem t_L82 {r : Int32} (hms : 1 ≤ ms) (hms5 : ms ≤ 500) (hr : ¬ r = 0) : f_X6_solve_L82 (nI ms) G (kc G) FU 0 r I A L = kc G r I A L := by
  obtain ⟨fu, e⟩ : ∃ z, FU = z + 1 := ⟨FU - 1, by have := FU_le; omega⟩
  rw [e, f_X6_solve_L82, if_pos (show 0 < nI ms from nI_lt (a := 0) (by omega) (by omega)), if_neg hr]
theorem k_solve0 (a1 a2 : Int32) (h : Rel n I G A L J R) (hn : n ≤ 1000) : ∃ r I' G' A' L' J' R', f_X6_solve I G A L a1 a2 = some (r, I', G', A', L') ∧ f_X7_solve J R a1 a2 = some (r, J', R') ∧ (Q9 R' → Rel (n + 1) I' G' A' L' J' R') := by
  have hr := Rel_J0 h
  have hu := Rel_u h
  obtain ⟨np, z, sc, q1, q2, q3, q4, q5c, q5, q6, q7, ⟨b1, T, b2, b3, b4⟩, q9⟩ := id h
  have hRS : RS n I G A L J R np z sc := ⟨q1, q2, q3, q4, q5c, q5, q6, q7, b1⟩
  obtain ⟨p1, p2, p3, p4⟩ := id q1
  have e : ∀ k, k ≠ 0 → up2 J 318 0 0 318 k = J 318 k := fun k q => up0 q
  have hT2 : T = 22 ∨ T = 34 := by
    rcases b3 with ⟨a, _⟩ | ⟨a, _⟩
    · exact Or.inl a
    · exact Or.inr a
  unfold f_X6_solve f_X7_solve
  simp only [bd, (t_wi a2 1 500).1, (t_wi a2 1 500).2, Option.bind_some, e 23 (by decide), ← hu]
  rcases t_isP (a := a1) (I := I) (J := up2 J 318 0 0) p2 ((e 2 (by decide)).trans p3) p1 with ⟨p, hp, rfl, e1, e2⟩ | ⟨e1, e2⟩
  · rw [e1, e2, Option.bind_some, Option.bind_some, if_neg z10, if_neg z10]
    by_cases hc : ¬ a2 < 1 ∧ ¬ 500 < a2
    · rw [if_pos hc, if_neg z10, if_neg z10]
      obtain ⟨ms, m1, m2, rfl⟩ := t_500 hc
      by_cases hw : I 0 5 = -9
      · rw [if_pos hw, if_pos hw, if_pos hw, if_pos hw]
        obtain ⟨⟨nv, nr, hP⟩, _⟩ := p4 p (by omega)
        obtain ⟨J77, eJ⟩ : ∃ z, z = up2 (up2 (up2 (up2 J 318 0 0) 318 23 (nI p)) 318 24 (up2 (up2 J 318 0 0) 318 23 (nI p) 318 19)) 318 28 0 := ⟨_, rfl⟩
        rw [← eJ]
        have oJ : ∀ k, ¬ (k = 0 ∨ k = 23 ∨ k = 24 ∨ k = 28) → J77 318 k = J 318 k := fun k q => by rw [eJ, up2_n (by omega), up2_n (by omega), up2_n (by omega), up2_n (by omega)]
        have j23 : J77 318 23 = nI p := by rw [eJ, up2_n (by omega), up2_n (by omega), up2_s]
        have j24 : J77 318 24 = J 318 19 := by rw [eJ, up2_n (by omega), up2_s, up2_n (by omega), up2_n (by omega)]
        have j28 : J77 318 28 = 0 := by rw [eJ, up2_s]
        obtain ⟨R75, r1, r2, r3⟩ := r_L75 (a1 := nI p) (a2 := nI ms) (I77 := J77) (R0 := R) (k81 := fun A82 => Option.bind (f_X7_begins J77 A82 (nI p) 1) fun (I83, A84) => if (I83 318 29) = 0 then (Option.bind (f_X7_endsAs I83 A84 (nI p) 2) fun (I87, A88) => some ((2 : Int32), I87, A88)) else (f_X7_solve_L143 (nI p) (nI ms) (kr (nI p)) k0 FU 0 I83 A84)) 5 0 FU R (by omega) (t_fu _ (by omega)) (fun h hh => by omega) (fun _ _ _ => rfl)
        have hP' : TPr (up2 I 0 5 (nI p)) A R75 p (58 + 52 * p) nv nr := TPr_of hP (fun j k _ _ => up2_n (by omega)) (fun _ _ _ _ => rfl) (fun j k _ _ => r3 j k (by omega))
        obtain ⟨⟨t1, t2, t3, t4, t5, t6, t7, t8⟩, q2b⟩ := q2
        have hTe' : TTe (up2 I 0 5 (nI p)) A J77 R75 2 z sc := ⟨by rw [up2_n (by omega)]; exact t1, by rw [oJ _ (by omega)]; exact t2, t3, t4, by rw [up2_n (by omega)]; exact t5, by rw [oJ _ (by omega)]; exact t6, t7, fun i hi => by rw [r3 _ _ (by omega)]; exact t8 i hi⟩
        have hh' : ∀ h, h < 5 → (∃ f, f ≤ 200 ∧ A (2 + 1) h = nI f ∧ R75 335 h = nI f) ∧ R75 336 h = 0 ∧ R75 334 h = 0 ∧ R75 337 h = -9 ∧ A (2 + 4) h = R75 332 h ∧ A (2 + 5) h = R75 333 h := fun h hh => by
          obtain ⟨⟨u1, f, u2, u3⟩, v1, v2, v3⟩ := q2b h hh
          obtain ⟨w1, w2, w3, w4⟩ := r2 h hh
          exact ⟨⟨f, u2, u3, w1.trans (u1.symm.trans u3)⟩, w2, w3, w4, by rw [r3 _ _ (by omega)]; exact v2, by rw [r3 _ _ (by omega)]; exact v3⟩
        have hw' : J77 318 24 = up2 I 0 5 (nI p) 0 3 := by rw [j24, up2_n (by omega)]; exact b1.symm
        obtain ⟨r, I', G', A', L', J', R', nn, fb, c1, c2, hS, hrn, hn29, oG, oI, oA, oL, oJ', oR⟩ := t_begin (L := L) hT2 b2 (Or.inl rfl) hP' hTe' hh' hw' j28
        have oG6 : G' 0 6 = G 0 6 := oG _ _ (by omega) (by omega)
        have hT' : (T = 22 ∧ G' 0 6 = 34) ∨ (T = 34 ∧ G' 0 6 = 22) := by rw [oG6]; exact b3
        have hRS' : RS n I' G' A' L' J' R' np z sc := RS_fr hRS b3 (fun j k q1 q2 q3 q4 => by rw [oI _ _ q1 q2 (by omega), up2_n q4]) oG (fun j m q1 q2 q3 q4 q5 q6 => oA j m q1 q2 q3 q6) oL (fun k q => by rw [oJ' _ (by omega), oJ _ (by omega)]) (fun j m q1 q2 => by rw [oR _ _ (by omega) q2, r3 _ _ (by omega)]) (fun h hh => (hS.2.2.2.2.2.2.1 h hh).2.2)
        have hu' : I' 0 5 = nI p := by rw [oI _ _ (by omega) (by omega) (by omega), up2_s]
        have hj' : J' 318 23 = nI p := by rw [oJ' _ (by omega)]; exact j23
        simp (disch := omega) only [gd_in, t_cl, c1, Option.bind_some]
        rcases hrn with ⟨n0, r0⟩ | ⟨n0, r0⟩
        · subst n0 r0
          obtain ⟨I2, G2, A2, J2, R2, y1, y2, y3⟩ := t_end (r := 2) hRS' hT' hS hp hu' (by decide) (Or.inr (Or.inr (Or.inl ⟨rfl, rfl⟩)))
          have hk : kc G' 2 I' A' L' = some (2, I2, G2, A2, L') := by
            unfold kc
            rw [if_neg (by decide), y1]
            rfl
          refine ⟨2, I2, G2, A2, L', J2, R2, (t_L82 m1 m2 (by decide)).trans hk, Eq.trans r1 ?_, y3⟩
          simp only [c2, Option.bind_some]
          rw [if_pos (show J' 318 29 = 0 from hn29), y2]
          rfl
        · subst n0 r0
          obtain ⟨r, I2, G2, A2, L2, J2, R2, y1, y2, y3⟩ := t_run hRS' hT' hS hp hu' hj' (by omega) (by omega) (by omega) hn m2
          refine ⟨r, I2, G2, A2, L2, J2, R2, y1, Eq.trans r1 ?_, y3⟩
          simp only [c2, Option.bind_some]
          rw [if_neg (show ¬ J' 318 29 = 0 by rw [hn29]; decide)]
          exact y2
      · simp only [if_neg hw]
        by_cases hpe : I 0 5 = nI p
        · rw [if_pos hpe, if_pos hpe]
          rcases b4 with ⟨x, _⟩ | ⟨p0, nv, nr, kn, nn, dd, tk, tn, hb, fb, d1, d2, d3, d4, d5, d6, d7⟩
          · exact absurd x hw
          · have ep : p0 = p := (t_eq (by omega) (by omega)).mp (d2.symm.trans hpe)
            subst ep
            have hRS' : RS n I G A L (up2 J 318 0 0) R np z sc := RS_fr hRS b3 (fun _ _ _ _ _ _ => rfl) (fun _ _ _ _ => rfl) (fun _ _ _ _ _ _ _ _ => rfl) (fun _ _ _ => rfl) (fun k q => e k (by omega)) (fun _ _ _ _ => rfl) (fun h hh => (q2.2 h hh).2)
            have hS : TSv I G A L (up2 J 318 0 0) R T 2 p0 (58 + 52 * p0) nv nr kn nn dd tk tn hb z sc fb := TSv_of d4 (fun _ _ _ => rfl) (fun _ _ _ => rfl) (fun _ _ _ => rfl) (fun _ => rfl) (fun k q => e k (by omega)) (fun _ _ _ => rfl)
            obtain ⟨r, I2, G2, A2, L2, J2, R2, y1, y2, y3⟩ := t_run hRS' b3 hS hp hpe ((e 23 (by decide)).trans d3) d5 d6 d7 hn m2
            exact ⟨r, I2, G2, A2, L2, J2, R2, y1, y2, y3⟩
        · rw [if_neg hpe, if_neg hpe]
          exact ⟨_, _, _, _, _, _, _, rfl, rfl, fun _ => hr⟩
    · rw [if_neg hc, if_pos rfl, if_pos rfl]
      exact ⟨_, _, _, _, _, _, _, rfl, rfl, fun _ => hr⟩
  · rw [e1, e2]
    exact ⟨_, _, _, _, _, _, _, rfl, rfl, fun _ => hr⟩
theorem k_solve (a1 a2 : Int32) (h : Rel n I G A L J R) (hn : n ≤ 1000) : ∃ r I' G' A' L' J' R', f_X6_solve I G A L a1 a2 = some (r, I', G', A', L') ∧ f_X7_solve J R a1 a2 = some (r, J', R') ∧ Rel (n + 1) I' G' A' L' J' R' := by
  obtain ⟨r, I', G', A', L', J', R', e1, e2, e3⟩ := k_solve0 a1 a2 h hn
  have h9 : Q9 R := by obtain ⟨_, _, _, _, _, _, _, _, _, _, _, _, q9⟩ := h; exact q9
  exact ⟨r, I', G', A', L', J', R', e1, e2, e3 ((qb_X7_solve J R a1 a2 r J' R' e2).2 h9)⟩
end CM

/-! part 93.glue -/
/-! THE TIE: both sides in one memory (laid by gen93.py) -/
section GL
variable {I A : Nat → Nat → Int32} {G : Nat → Nat → Nat} {L : Nat → Nat → Int64} {J R I' A' J' R' : Nat → Nat → Int32} {n : Nat}
theorem Rel_9 (h : Rel n I G A L J R) : Q9 R := by
  obtain ⟨_, _, _, _, _, _, _, _, _, _, _, _, q9⟩ := h
  exact q9
theorem Rel_ref (h : Rel n I G A L J R) (hJ : Fc pC J J') (hR : Fc pC R R') : Rel n I G A L J' R' :=
  Rel_fr h (Nat.le_refl n) (fun _ _ _ => rfl) (fun _ _ _ => rfl) (fun _ _ _ => rfl) (fun _ _ _ _ => rfl) (fun k _ _ _ => by rw [hJ 318 (show 318 ≤ 318 by omega)]) (fun j m h1 _ => by rw [hR j (show 318 ≤ j by omega)]) (fun j x q => by rw [hR j (show 318 ≤ j by omega)]; exact Rel_9 h j x q)
theorem Rel_cls (h : Rel n I G A L J R) (hI : Fc pR I I') (hA : Fc pR A A') : Rel n I' G A' L J R :=
  Rel_fr h (Nat.le_refl n) (fun j k q => by rw [hI j (show j < 318 by omega)]) (fun _ _ _ => rfl) (fun j m q => by rw [hA j (show j < 318 by omega)]) (fun _ _ _ _ => rfl) (fun _ _ _ _ => rfl) (fun _ _ _ _ => rfl) (Rel_9 h)
theorem g_problem (h : Rel n I G A L I A) : ∃ r I1 J2, f_X6_problem I = some (r, I1) ∧ f_X7_problem I1 = some (r, J2) ∧ Rel (n + 1) J2 G A L J2 A := by
  obtain ⟨r, I1, _, e1, _⟩ := k_problem  h 
  have f1 := fr_X6_problem I r I1 e1
  obtain ⟨r2, I1b, J2, d1, d2, d3⟩ := k_problem  (Rel_ref h (f1) (Fc_rf)) 
  rw [e1] at d1
  cases d1
  have f2 := fr_X7_problem I1 r J2 d2
  exact ⟨r, I1, J2, e1, d2, Rel_cls d3 (f2) (Fc_rf)⟩
theorem g_limit (a1 : Int32) (h : Rel n I G A L I A) : ∃ r I1 J2, f_X6_limit I a1 = some (r, I1) ∧ f_X7_limit I1 a1 = some (r, J2) ∧ Rel (n + 1) J2 G A L J2 A := by
  obtain ⟨r, I1, _, e1, _⟩ := k_limit a1 h 
  have f1 := fr_X6_limit I a1 r I1 e1
  obtain ⟨r2, I1b, J2, d1, d2, d3⟩ := k_limit a1 (Rel_ref h (f1) (Fc_rf)) 
  rw [e1] at d1
  cases d1
  have f2 := fr_X7_limit I1 a1 r J2 d2
  exact ⟨r, I1, J2, e1, d2, Rel_cls d3 (f2) (Fc_rf)⟩
theorem g_giveUp (h : Rel n I G A L I A) : ∃ r I1 J2, f_X6_giveUp I = some (r, I1) ∧ f_X7_giveUp I1 = some (r, J2) ∧ Rel (n + 1) J2 G A L J2 A := by
  obtain ⟨r, I1, _, e1, _⟩ := k_giveUp  h 
  have f1 := fr_X6_giveUp I r I1 e1
  obtain ⟨r2, I1b, J2, d1, d2, d3⟩ := k_giveUp  (Rel_ref h (f1) (Fc_rf)) 
  rw [e1] at d1
  cases d1
  have f2 := fr_X7_giveUp I1 r J2 d2
  exact ⟨r, I1, J2, e1, d2, Rel_cls d3 (f2) (Fc_rf)⟩
theorem g_status (h : Rel n I G A L I A) : ∃ r J2, f_X6_status I = some r ∧ f_X7_status I = some (r, J2) ∧ Rel (n + 1) J2 G A L J2 A := by
  obtain ⟨r, _, e1, _⟩ := k_status  h 
  obtain ⟨r2, J2, d1, d2, d3⟩ := k_status  h 
  rw [e1] at d1
  cases d1
  have f2 := fr_X7_status I r J2 d2
  exact ⟨r, J2, e1, d2, Rel_cls d3 (f2) (Fc_rf)⟩
theorem g_plain (h : Rel n I G A L I A) : ∃ r I1 J2, f_X6_plain I = some (r, I1) ∧ f_X7_plain I1 = some (r, J2) ∧ Rel (n + 1) J2 G A L J2 A := by
  obtain ⟨r, I1, _, e1, _⟩ := k_plain  h 
  have f1 := fr_X6_plain I r I1 e1
  obtain ⟨r2, I1b, J2, d1, d2, d3⟩ := k_plain  (Rel_ref h (f1) (Fc_rf)) 
  rw [e1] at d1
  cases d1
  have f2 := fr_X7_plain I1 r J2 d2
  exact ⟨r, I1, J2, e1, d2, Rel_cls d3 (f2) (Fc_rf)⟩
theorem g_turn (a1 : Int32) (h : Rel n I G A L I A) : ∃ r I1 A1 J2 R2, f_X6_turn I A a1 = some (r, I1, A1) ∧ f_X7_turn I1 A1 a1 = some (r, J2, R2) ∧ Rel (n + 1) J2 G R2 L J2 R2 := by
  obtain ⟨r, I1, A1, _, _, e1, _⟩ := k_turn a1 h 
  have f1 := fr_X6_turn I A a1 r I1 A1 e1
  obtain ⟨r2, I1b, A1b, J2, R2, d1, d2, d3⟩ := k_turn a1 (Rel_ref h (f1.1) (f1.2)) 
  rw [e1] at d1
  cases d1
  have f2 := fr_X7_turn I1 A1 a1 r J2 R2 d2
  exact ⟨r, I1, A1, J2, R2, e1, d2, Rel_cls d3 (f2.1) (f2.2)⟩
theorem g_fail (a1 a2 : Int32) (h : Rel n I G A L I A) : ∃ r A1 J2 R2, f_X6_fail I A a1 a2 = some (r, A1) ∧ f_X7_fail I A1 a1 a2 = some (r, J2, R2) ∧ Rel (n + 1) J2 G R2 L J2 R2 := by
  obtain ⟨r, A1, _, _, e1, _⟩ := k_fail a1 a2 h 
  have f1 := fr_X6_fail I A a1 a2 r A1 e1
  obtain ⟨r2, A1b, J2, R2, d1, d2, d3⟩ := k_fail a1 a2 (Rel_ref h (Fc_rf) (f1)) 
  rw [e1] at d1
  cases d1
  have f2 := fr_X7_fail I A1 a1 a2 r J2 R2 d2
  exact ⟨r, A1, J2, R2, e1, d2, Rel_cls d3 (f2.1) (f2.2)⟩
theorem g_helpers (a1 : Int32) (h : Rel n I G A L I A) : ∃ r I1 A1 J2 R2, f_X6_helpers I A a1 = some (r, I1, A1) ∧ f_X7_helpers I1 A1 a1 = some (r, J2, R2) ∧ Rel (n + 1) J2 G R2 L J2 R2 := by
  obtain ⟨r, I1, A1, _, _, e1, _⟩ := k_helpers a1 h 
  have f1 := fr_X6_helpers I A a1 r I1 A1 e1
  obtain ⟨r2, I1b, A1b, J2, R2, d1, d2, d3⟩ := k_helpers a1 (Rel_ref h (f1.1) (f1.2)) 
  rw [e1] at d1
  cases d1
  have f2 := fr_X7_helpers I1 A1 a1 r J2 R2 d2
  exact ⟨r, I1, A1, J2, R2, e1, d2, Rel_cls d3 (f2.1) (f2.2)⟩
theorem g_helper (a1 a2 : Int32) (h : Rel n I G A L I A) : ∃ r J2, f_X6_helper A a1 a2 = some r ∧ f_X7_helper I A a1 a2 = some (r, J2) ∧ Rel (n + 1) J2 G A L J2 A := by
  obtain ⟨r, _, e1, _⟩ := k_helper a1 a2 h 
  obtain ⟨r2, J2, d1, d2, d3⟩ := k_helper a1 a2 h 
  rw [e1] at d1
  cases d1
  have f2 := fr_X7_helper I A a1 a2 r J2 d2
  exact ⟨r, J2, e1, d2, Rel_cls d3 (f2) (Fc_rf)⟩
theorem g_row (a1 : Int32) (h : Rel n I G A L I A) : ∃ r J2, f_X6_row A a1 = some r ∧ f_X7_row I A a1 = some (r, J2) ∧ Rel (n + 1) J2 G A L J2 A := by
  obtain ⟨r, _, e1, _⟩ := k_row a1 h 
  obtain ⟨r2, J2, d1, d2, d3⟩ := k_row a1 h 
  rw [e1] at d1
  cases d1
  have f2 := fr_X7_row I A a1 r J2 d2
  exact ⟨r, J2, e1, d2, Rel_cls d3 (f2) (Fc_rf)⟩
theorem g_told (a1 a2 : Int32) (h : Rel n I G A L I A) : ∃ r J2, f_X6_told I A a1 a2 = some r ∧ f_X7_told I A a1 a2 = some (r, J2) ∧ Rel (n + 1) J2 G A L J2 A := by
  obtain ⟨r, _, e1, _⟩ := k_told a1 a2 h 
  obtain ⟨r2, J2, d1, d2, d3⟩ := k_told a1 a2 h 
  rw [e1] at d1
  cases d1
  have f2 := fr_X7_told I A a1 a2 r J2 d2
  exact ⟨r, J2, e1, d2, Rel_cls d3 (f2) (Fc_rf)⟩
theorem g_answer (a1 a2 : Int32) (h : Rel n I G A L I A) : ∃ r J2, f_X6_answer I A a1 a2 = some r ∧ f_X7_answer I A a1 a2 = some (r, J2) ∧ Rel (n + 1) J2 G A L J2 A := by
  obtain ⟨r, _, e1, _⟩ := k_answer a1 a2 h 
  obtain ⟨r2, J2, d1, d2, d3⟩ := k_answer a1 a2 h 
  rw [e1] at d1
  cases d1
  have f2 := fr_X7_answer I A a1 a2 r J2 d2
  exact ⟨r, J2, e1, d2, Rel_cls d3 (f2) (Fc_rf)⟩
theorem g_costs (a1 a2 a3 : Int32) (h : Rel n I G A L I A) : ∃ r I1 J2, f_X6_costs I A a1 a2 a3 = some (r, I1) ∧ f_X7_costs I1 A a1 a2 a3 = some (r, J2) ∧ Rel (n + 1) J2 G A L J2 A := by
  obtain ⟨r, I1, _, e1, _⟩ := k_costs a1 a2 a3 h 
  have f1 := fr_X6_costs I A a1 a2 a3 r I1 e1
  obtain ⟨r2, I1b, J2, d1, d2, d3⟩ := k_costs a1 a2 a3 (Rel_ref h (f1) (Fc_rf)) 
  rw [e1] at d1
  cases d1
  have f2 := fr_X7_costs I1 A a1 a2 a3 r J2 d2
  exact ⟨r, I1, J2, e1, d2, Rel_cls d3 (f2) (Fc_rf)⟩
theorem g_count (a1 : Int32) (h : Rel n I G A L I A) : ∃ r r' J2, f_X6_count I G a1 = some r ∧ f_X7_count I a1 = some (r', J2) ∧ (a1 ≠ 5 → r = r') ∧ Rel (n + 1) J2 G A L J2 A := by
  obtain ⟨r, r', _, e1, _⟩ := k_count a1 h 
  obtain ⟨r2, r'2, J2, d1, d2, x0, d3⟩ := k_count a1 h 
  rw [e1] at d1
  cases d1
  have f2 := fr_X7_count I a1 r'2 J2 d2
  exact ⟨r, r'2, J2, e1, d2, x0, Rel_cls d3 (f2) (Fc_rf)⟩
theorem g_about (a1 a2 a3 : Int32) (h : Rel n I G A L I A) : ∃ r I1 J2, f_X6_about I A a1 a2 a3 = some (r, I1) ∧ f_X7_about I1 A a1 a2 a3 = some (r, J2) ∧ Rel (n + 1) J2 G A L J2 A := by
  obtain ⟨r, I1, _, e1, _⟩ := k_about a1 a2 a3 h 
  have f1 := fr_X6_about I A a1 a2 a3 r I1 e1
  obtain ⟨r2, I1b, J2, d1, d2, d3⟩ := k_about a1 a2 a3 (Rel_ref h (f1) (Fc_rf)) 
  rw [e1] at d1
  cases d1
  have f2 := fr_X7_about I1 A a1 a2 a3 r J2 d2
  exact ⟨r, I1, J2, e1, d2, Rel_cls d3 (f2) (Fc_rf)⟩
theorem g_ask (a1 : Int32) (h : Rel n I G A L I A) (hn : n < 1073741824) : ∃ r I1 A1 J2, f_X6_ask I A a1 = some (r, I1, A1) ∧ f_X7_ask I1 A1 a1 = some (r, J2) ∧ Rel (n + 1) J2 G A1 L J2 A1 := by
  obtain ⟨r, I1, A1, _, e1, _⟩ := k_ask a1 h hn
  have f1 := fr_X6_ask I A a1 r I1 A1 e1
  obtain ⟨r2, I1b, A1b, J2, d1, d2, d3⟩ := k_ask a1 (Rel_ref h (f1.1) (f1.2)) hn
  rw [e1] at d1
  cases d1
  have f2 := fr_X7_ask I1 A1 a1 r J2 d2
  exact ⟨r, I1, A1, J2, e1, d2, Rel_cls d3 (f2) (Fc_rf)⟩
theorem g_with (a1 : Int32) (h : Rel n I G A L I A) : ∃ r I1 A1 J2 R2, f_X6_with I A a1 = some (r, I1, A1) ∧ f_X7_with I1 A1 a1 = some (r, J2, R2) ∧ Rel (n + 1) J2 G R2 L J2 R2 := by
  obtain ⟨r, I1, A1, _, _, e1, _⟩ := k_with a1 h 
  have f1 := fr_X6_with I A a1 r I1 A1 e1
  obtain ⟨r2, I1b, A1b, J2, R2, d1, d2, d3⟩ := k_with a1 (Rel_ref h (f1.1) (f1.2)) 
  rw [e1] at d1
  cases d1
  have f2 := fr_X7_with I1 A1 a1 r J2 R2 d2
  exact ⟨r, I1, A1, J2, R2, e1, d2, Rel_cls d3 (f2.1) (f2.2)⟩
theorem g_walked (a1 a2 : Int32) (h : Rel n I G A L I A) : ∃ r J2, f_X6_walked I G A L a1 a2 = some r ∧ f_X7_walked I A a1 a2 = some (r, J2) ∧ Rel (n + 1) J2 G A L J2 A := by
  obtain ⟨r, _, e1, _⟩ := k_walked a1 a2 h 
  obtain ⟨r2, J2, d1, d2, d3⟩ := k_walked a1 a2 h 
  rw [e1] at d1
  cases d1
  have f2 := fr_X7_walked I A a1 a2 r J2 d2
  exact ⟨r, J2, e1, d2, Rel_cls d3 (f2) (Fc_rf)⟩
theorem g_closed (a1 a2 a3 : Int32) (h : Rel n I G A L I A) : ∃ r J2, f_X6_closed I G A a1 a2 a3 = some r ∧ f_X7_closed I A a1 a2 a3 = some (r, J2) ∧ Rel (n + 1) J2 G A L J2 A := by
  obtain ⟨r, _, e1, _⟩ := k_closed a1 a2 a3 h 
  obtain ⟨r2, J2, d1, d2, d3⟩ := k_closed a1 a2 a3 h 
  rw [e1] at d1
  cases d1
  have f2 := fr_X7_closed I A a1 a2 a3 r J2 d2
  exact ⟨r, J2, e1, d2, Rel_cls d3 (f2) (Fc_rf)⟩
theorem g_number (a1 a2 a3 : Int32) (h : Rel n I G A L I A) (hn : n < 1073741000) : ∃ r I1 J2 R2, f_X6_number I a1 a2 a3 = some (r, I1) ∧ f_X7_number I1 A a1 a2 a3 = some (r, J2, R2) ∧ Rel (n + 1) J2 G R2 L J2 R2 := by
  obtain ⟨r, I1, _, _, e1, _⟩ := k_number a1 a2 a3 h hn
  have f1 := fr_X6_number I a1 a2 a3 r I1 e1
  obtain ⟨r2, I1b, J2, R2, d1, d2, d3⟩ := k_number a1 a2 a3 (Rel_ref h (f1) (Fc_rf)) hn
  rw [e1] at d1
  cases d1
  have f2 := fr_X7_number I1 A a1 a2 a3 r J2 R2 d2
  exact ⟨r, I1, J2, R2, e1, d2, Rel_cls d3 (f2.1) (f2.2)⟩
theorem g_rule (a1 a2 a3 : Int32) (h : Rel n I G A L I A) (hn : n < 1073741000) : ∃ r I1 J2 R2, f_X6_rule I a1 a2 a3 = some (r, I1) ∧ f_X7_rule I1 A a1 a2 a3 = some (r, J2, R2) ∧ Rel (n + 1) J2 G R2 L J2 R2 := by
  obtain ⟨r, I1, _, _, e1, _⟩ := k_rule a1 a2 a3 h hn
  have f1 := fr_X6_rule I a1 a2 a3 r I1 e1
  obtain ⟨r2, I1b, J2, R2, d1, d2, d3⟩ := k_rule a1 a2 a3 (Rel_ref h (f1) (Fc_rf)) hn
  rw [e1] at d1
  cases d1
  have f2 := fr_X7_rule I1 A a1 a2 a3 r J2 R2 d2
  exact ⟨r, I1, J2, R2, e1, d2, Rel_cls d3 (f2.1) (f2.2)⟩
theorem g_variable (a1 a2 a3 : Int32) (h : Rel n I G A L I A) (hn : n < 1073741000) : ∃ r I1 A1 J2 R2, f_X6_variable I A a1 a2 a3 = some (r, I1, A1) ∧ f_X7_variable I1 A1 a1 a2 a3 = some (r, J2, R2) ∧ Rel (n + 1) J2 G R2 L J2 R2 := by
  obtain ⟨r, I1, A1, _, _, e1, _⟩ := k_variable a1 a2 a3 h hn
  have f1 := fr_X6_variable I A a1 a2 a3 r I1 A1 e1
  obtain ⟨r2, I1b, A1b, J2, R2, d1, d2, d3⟩ := k_variable a1 a2 a3 (Rel_ref h (f1.1) (f1.2)) hn
  rw [e1] at d1
  cases d1
  have f2 := fr_X7_variable I1 A1 a1 a2 a3 r J2 R2 d2
  exact ⟨r, I1, A1, J2, R2, e1, d2, Rel_cls d3 (f2.1) (f2.2)⟩
theorem g_cost (a1 a2 a3 a4 : Int32) (h : Rel n I G A L I A) (hn : n < 1073741000) : ∃ r I1 A1 J2 R2, f_X6_cost I A a1 a2 a3 a4 = some (r, I1, A1) ∧ f_X7_cost I1 A1 a1 a2 a3 a4 = some (r, J2, R2) ∧ Rel (n + 1) J2 G R2 L J2 R2 := by
  obtain ⟨r, I1, A1, _, _, e1, _⟩ := k_cost a1 a2 a3 a4 h hn
  have f1 := fr_X6_cost I A a1 a2 a3 a4 r I1 A1 e1
  obtain ⟨r2, I1b, A1b, J2, R2, d1, d2, d3⟩ := k_cost a1 a2 a3 a4 (Rel_ref h (f1.1) (f1.2)) hn
  rw [e1] at d1
  cases d1
  have f2 := fr_X7_cost I1 A1 a1 a2 a3 a4 r J2 R2 d2
  exact ⟨r, I1, A1, J2, R2, e1, d2, Rel_cls d3 (f2.1) (f2.2)⟩
theorem g_part (a1 a2 a3 a4 : Int32) (h : Rel n I G A L I A) (hn : n < 1073741000) : ∃ r I1 A1 J2 R2, f_X6_part I A a1 a2 a3 a4 = some (r, I1, A1) ∧ f_X7_part I1 A1 a1 a2 a3 a4 = some (r, J2, R2) ∧ Rel (n + 1) J2 G R2 L J2 R2 := by
  obtain ⟨r, I1, A1, _, _, e1, _⟩ := k_part a1 a2 a3 a4 h hn
  have f1 := fr_X6_part I A a1 a2 a3 a4 r I1 A1 e1
  obtain ⟨r2, I1b, A1b, J2, R2, d1, d2, d3⟩ := k_part a1 a2 a3 a4 (Rel_ref h (f1.1) (f1.2)) hn
  rw [e1] at d1
  cases d1
  have f2 := fr_X7_part I1 A1 a1 a2 a3 a4 r J2 R2 d2
  exact ⟨r, I1, A1, J2, R2, e1, d2, Rel_cls d3 (f2.1) (f2.2)⟩
theorem g_node (a1 a2 a3 : Int32) (h : Rel n I G A L I A) : ∃ r I1 J2 R2, f_X6_node I A a1 a2 a3 = some (r, I1) ∧ f_X7_node I1 A a1 a2 a3 = some (r, J2, R2) ∧ Rel (n + 1) J2 G R2 L J2 R2 := by
  obtain ⟨r, I1, _, _, e1, _⟩ := k_node a1 a2 a3 h 
  have f1 := fr_X6_node I A a1 a2 a3 r I1 e1
  obtain ⟨r2, I1b, J2, R2, d1, d2, d3⟩ := k_node a1 a2 a3 (Rel_ref h (f1) (Fc_rf)) 
  rw [e1] at d1
  cases d1
  have f2 := fr_X7_node I1 A a1 a2 a3 r J2 R2 d2
  exact ⟨r, I1, J2, R2, e1, d2, Rel_cls d3 (f2.1) (f2.2)⟩
theorem g_solve (a1 a2 : Int32) (h : Rel n I G A L I A) (hn : n ≤ 1000) : ∃ r I1 G1 A1 L1 J2 R2, f_X6_solve I G A L a1 a2 = some (r, I1, G1, A1, L1) ∧ f_X7_solve I1 A1 a1 a2 = some (r, J2, R2) ∧ Rel (n + 1) J2 G1 R2 L1 J2 R2 := by
  obtain ⟨r, I1, G1, A1, L1, _, _, e1, _⟩ := k_solve a1 a2 h hn
  have f1 := fr_X6_solve I G A L a1 a2 r I1 G1 A1 L1 e1
  obtain ⟨r2, I1b, G1b, A1b, L1b, J2, R2, d1, d2, d3⟩ := k_solve a1 a2 (Rel_ref h (f1.1) (f1.2.2.1)) hn
  rw [e1] at d1
  cases d1
  have f2 := fr_X7_solve I1 A1 a1 a2 r J2 R2 d2
  exact ⟨r, I1, G1, A1, L1, J2, R2, e1, d2, Rel_cls d3 (f2.1) (f2.2)⟩
end GL
