/-! THE TIE: the walk, as it is told -/
section CE
variable {I A : Nat → Nat → Int32} {G : Nat → Nat → Nat} {L : Nat → Nat → Int64} {J R : Nat → Nat → Int32} {n : Nat}
theorem t_oB {T B nv i c d : Nat} (hT : T = 22 ∨ T = 34) (hG : G T 14 = B) (hB : PrAt B) (hc : c < 1711) (hd : A (T + 2) c = nI d) (hd6 : d ≤ 6) (hnv : nv ≤ 6) (h : (A (T + 7) c = -1 ∧ R 359 i = 0 ∧ R 358 i = 0) ∨ ∃ f s, A (T + 7) c = nI f ∧ s ≤ 6 ∧ f + s ≤ 1711 ∧ d < nv ∧ A (B + 1) d = nI s ∧ R 359 i = nI s ∧ R 358 i = sm (fun y => if A (T + 3) (f + y) = 0 then 1 else 0) s 0 0 ∧ ∀ y, y < s → A (T + 3) (f + y) = R 360 (6 * i + y) ∧ A (T + 4) (f + y) = R 361 (6 * i + y)) : f_X5_openBelow G A T (nI c) = some (R 358 i) := by
  have hTr : TrAt T := by unfold TrAt; omega
  have hl : lT T = 1711 := by unfold lT; rw [if_pos (by omega)]
  have ec : (nI c).toNatClampNeg = c := t_cl (by omega)
  unfold f_X5_openBelow
  rcases h with ⟨h1, h2, h3⟩ | ⟨f, s, h1, h2, h3, h4, h5, h6, h7, h8⟩
  · have ew : wdo G A T c = 0 := by unfold wdo; rw [if_pos h1]
    have hp : pre_X5_openBelow G A T (nI c) := by
      unfold pre_X5_openBelow
      rw [ec, ew, hG]
      exact ⟨hTr, by omega, hB, by omega, Or.inl ⟨h1, rfl⟩, rfl⟩
    unfold gd
    rw [if_pos hp, ec, ew, h3]
    rfl
  · have ef : (nI f).toNatClampNeg = f := t_cl (by omega)
    have ed : (nI d).toNatClampNeg = d := t_cl (by omega)
    have ew : wdo G A T c = s := by unfold wdo; rw [if_neg (by rw [h1]; exact t_m1 (by omega)), hG, hd, ed, h5, t_cl (by omega)]
    have hp : pre_X5_openBelow G A T (nI c) := by
      unfold pre_X5_openBelow
      rw [ec, ew, hG, h1, ef]
      exact ⟨hTr, by omega, hB, by omega, Or.inr ⟨by rw [h1]; exact t_m1 (by omega), h1, by omega, by rw [hd]; exact nI_in (by omega) (by omega), by rw [hd, ed]; exact h5⟩, rfl⟩
    unfold gd
    rw [if_pos hp, ec, ew, h1, ef, h7]
theorem k_walked (a1 a2 : Int32) (h : Rel n I G A L J R) : ∃ r J', f_X6_walked I G A L a1 a2 = some r ∧ f_X7_walked J R a1 a2 = some (r, J') ∧ Rel (n + 1) I G A L J' R := by
  have hr := Rel_J0 h
  obtain ⟨np, z, sc, q1, q2, q3, ⟨T, B, wk, nv, b1, b2, b3, b4, b5, b6, b7, b8, b9, b10⟩, _⟩ := id h
  have hT : TrAt T := by unfold TrAt; omega
  have hl : lT T = 1711 := by unfold lT; rw [if_pos (by omega)]
  obtain ⟨g0, g1, g2, g3, g4, g5, g6, g7, g8, g9, g10, g11⟩ := tgd hT
  obtain ⟨l1, l2, l3, l4, l5, l6, l7, l8, l9, _⟩ := tr_l hT
  have e48 : up2 J 318 0 0 318 48 = nI wk := (up0 (by decide)).trans b6
  unfold f_X6_walked f_X7_walked
  simp only [bd, e48, b1, b5, gd_t g0, (t_wi _ _ _).1, (t_wi _ _ _).2, Option.bind_some]
  rcases t_rng (a := a2) (hi := 9) (by omega) with ⟨x, hx, rfl⟩ | hc
  · rw [if_pos (show ¬ nI x < 0 ∧ ¬ 9 < nI x from t_rng1 (hi := 9) (by omega) hx), if_neg z10, if_neg z10]
    rcases t_ix (a := a1) (m := wk) (by omega) with ⟨i, i1, rfl, i3, i4, i5⟩ | ⟨h1, h2⟩
    · rw [if_pos i3, if_neg z10, if_neg z10]
      obtain ⟨c, d, c1, c2, c3, c4, c5, c6, c7, c8, c9, c10⟩ := b10 i i1
      have hoB := t_oB (i := i) b2 b3 b4 c1 c4 c3 b9 c10
      have hx10 : x = 0 ∨ x = 1 ∨ x = 2 ∨ x = 3 ∨ x = 4 ∨ x = 5 ∨ x = 6 ∨ x = 7 ∨ x = 8 ∨ x = 9 := by omega
      rcases hx10 with rfl | rfl | rfl | rfl | rfl | rfl | rfl | rfl | rfl | rfl
      · simp only [eq_true (show nI 0 = (0 : Int32) from rfl), eq_false (show ¬ nI 0 = (1 : Int32) by decide), eq_false (show ¬ nI 0 = (2 : Int32) by decide), eq_false (show ¬ nI 0 = (3 : Int32) by decide), eq_false (show ¬ nI 0 = (4 : Int32) by decide), eq_false (show ¬ nI 0 = (5 : Int32) by decide), eq_false (show ¬ nI 0 = (6 : Int32) by decide), eq_false (show ¬ nI 0 = (7 : Int32) by decide), eq_false (show ¬ nI 0 = (8 : Int32) by decide), eq_false (show ¬ nI 0 = (9 : Int32) by decide), eq_true (show nI 0 < (7 : Int32) by decide), if_true, if_false]
        simp (disch := omega) only [gd_t g9, gd_t g2, gd_t g6, l9, l2, l6, hl, gd_in, t_cl, c2, c4, m6, t_vOf hT, t_bOf hT, hoB, Option.bind_some, c5, c8, c9]
        exact ⟨_, _, rfl, rfl, hr⟩
      · simp only [eq_false (show ¬ nI 1 = (0 : Int32) by decide), eq_true (show nI 1 = (1 : Int32) from rfl), eq_false (show ¬ nI 1 = (2 : Int32) by decide), eq_false (show ¬ nI 1 = (3 : Int32) by decide), eq_false (show ¬ nI 1 = (4 : Int32) by decide), eq_false (show ¬ nI 1 = (5 : Int32) by decide), eq_false (show ¬ nI 1 = (6 : Int32) by decide), eq_false (show ¬ nI 1 = (7 : Int32) by decide), eq_false (show ¬ nI 1 = (8 : Int32) by decide), eq_false (show ¬ nI 1 = (9 : Int32) by decide), eq_true (show nI 1 < (7 : Int32) by decide), if_true, if_false]
        simp (disch := omega) only [gd_t g9, gd_t g2, gd_t g6, l9, l2, l6, hl, gd_in, t_cl, c2, c4, m6, t_vOf hT, t_bOf hT, hoB, Option.bind_some, c5, c8, c9]
        have e1 : nI (6 * i + 1) - 1 = nI (6 * i + 0) := nI_pred (6 * i + 0)
        have e2 : nI 1 - 1 = nI 0 := nI_pred 0
        simp (disch := omega) only [e1, e2, gd_in, t_cl, t_vOf hT, hl, Option.bind_some]
        by_cases hd : d < 1
        · rw [if_pos (nI_lt hd (by omega)), c7 0 (by omega) (by omega)]
          exact ⟨_, _, rfl, rfl, hr⟩
        · rw [if_neg (nI_nlt (by omega) (by omega)), c6 0 (by omega)]
          exact ⟨_, _, rfl, rfl, hr⟩
      · simp only [eq_false (show ¬ nI 2 = (0 : Int32) by decide), eq_false (show ¬ nI 2 = (1 : Int32) by decide), eq_true (show nI 2 = (2 : Int32) from rfl), eq_false (show ¬ nI 2 = (3 : Int32) by decide), eq_false (show ¬ nI 2 = (4 : Int32) by decide), eq_false (show ¬ nI 2 = (5 : Int32) by decide), eq_false (show ¬ nI 2 = (6 : Int32) by decide), eq_false (show ¬ nI 2 = (7 : Int32) by decide), eq_false (show ¬ nI 2 = (8 : Int32) by decide), eq_false (show ¬ nI 2 = (9 : Int32) by decide), eq_true (show nI 2 < (7 : Int32) by decide), if_true, if_false]
        simp (disch := omega) only [gd_t g9, gd_t g2, gd_t g6, l9, l2, l6, hl, gd_in, t_cl, c2, c4, m6, t_vOf hT, t_bOf hT, hoB, Option.bind_some, c5, c8, c9]
        have e1 : nI (6 * i + 2) - 1 = nI (6 * i + 1) := nI_pred (6 * i + 1)
        have e2 : nI 2 - 1 = nI 1 := nI_pred 1
        simp (disch := omega) only [e1, e2, gd_in, t_cl, t_vOf hT, hl, Option.bind_some]
        by_cases hd : d < 2
        · rw [if_pos (nI_lt hd (by omega)), c7 1 (by omega) (by omega)]
          exact ⟨_, _, rfl, rfl, hr⟩
        · rw [if_neg (nI_nlt (by omega) (by omega)), c6 1 (by omega)]
          exact ⟨_, _, rfl, rfl, hr⟩
      · simp only [eq_false (show ¬ nI 3 = (0 : Int32) by decide), eq_false (show ¬ nI 3 = (1 : Int32) by decide), eq_false (show ¬ nI 3 = (2 : Int32) by decide), eq_true (show nI 3 = (3 : Int32) from rfl), eq_false (show ¬ nI 3 = (4 : Int32) by decide), eq_false (show ¬ nI 3 = (5 : Int32) by decide), eq_false (show ¬ nI 3 = (6 : Int32) by decide), eq_false (show ¬ nI 3 = (7 : Int32) by decide), eq_false (show ¬ nI 3 = (8 : Int32) by decide), eq_false (show ¬ nI 3 = (9 : Int32) by decide), eq_true (show nI 3 < (7 : Int32) by decide), if_true, if_false]
        simp (disch := omega) only [gd_t g9, gd_t g2, gd_t g6, l9, l2, l6, hl, gd_in, t_cl, c2, c4, m6, t_vOf hT, t_bOf hT, hoB, Option.bind_some, c5, c8, c9]
        have e1 : nI (6 * i + 3) - 1 = nI (6 * i + 2) := nI_pred (6 * i + 2)
        have e2 : nI 3 - 1 = nI 2 := nI_pred 2
        simp (disch := omega) only [e1, e2, gd_in, t_cl, t_vOf hT, hl, Option.bind_some]
        by_cases hd : d < 3
        · rw [if_pos (nI_lt hd (by omega)), c7 2 (by omega) (by omega)]
          exact ⟨_, _, rfl, rfl, hr⟩
        · rw [if_neg (nI_nlt (by omega) (by omega)), c6 2 (by omega)]
          exact ⟨_, _, rfl, rfl, hr⟩
      · simp only [eq_false (show ¬ nI 4 = (0 : Int32) by decide), eq_false (show ¬ nI 4 = (1 : Int32) by decide), eq_false (show ¬ nI 4 = (2 : Int32) by decide), eq_false (show ¬ nI 4 = (3 : Int32) by decide), eq_true (show nI 4 = (4 : Int32) from rfl), eq_false (show ¬ nI 4 = (5 : Int32) by decide), eq_false (show ¬ nI 4 = (6 : Int32) by decide), eq_false (show ¬ nI 4 = (7 : Int32) by decide), eq_false (show ¬ nI 4 = (8 : Int32) by decide), eq_false (show ¬ nI 4 = (9 : Int32) by decide), eq_true (show nI 4 < (7 : Int32) by decide), if_true, if_false]
        simp (disch := omega) only [gd_t g9, gd_t g2, gd_t g6, l9, l2, l6, hl, gd_in, t_cl, c2, c4, m6, t_vOf hT, t_bOf hT, hoB, Option.bind_some, c5, c8, c9]
        have e1 : nI (6 * i + 4) - 1 = nI (6 * i + 3) := nI_pred (6 * i + 3)
        have e2 : nI 4 - 1 = nI 3 := nI_pred 3
        simp (disch := omega) only [e1, e2, gd_in, t_cl, t_vOf hT, hl, Option.bind_some]
        by_cases hd : d < 4
        · rw [if_pos (nI_lt hd (by omega)), c7 3 (by omega) (by omega)]
          exact ⟨_, _, rfl, rfl, hr⟩
        · rw [if_neg (nI_nlt (by omega) (by omega)), c6 3 (by omega)]
          exact ⟨_, _, rfl, rfl, hr⟩
      · simp only [eq_false (show ¬ nI 5 = (0 : Int32) by decide), eq_false (show ¬ nI 5 = (1 : Int32) by decide), eq_false (show ¬ nI 5 = (2 : Int32) by decide), eq_false (show ¬ nI 5 = (3 : Int32) by decide), eq_false (show ¬ nI 5 = (4 : Int32) by decide), eq_true (show nI 5 = (5 : Int32) from rfl), eq_false (show ¬ nI 5 = (6 : Int32) by decide), eq_false (show ¬ nI 5 = (7 : Int32) by decide), eq_false (show ¬ nI 5 = (8 : Int32) by decide), eq_false (show ¬ nI 5 = (9 : Int32) by decide), eq_true (show nI 5 < (7 : Int32) by decide), if_true, if_false]
        simp (disch := omega) only [gd_t g9, gd_t g2, gd_t g6, l9, l2, l6, hl, gd_in, t_cl, c2, c4, m6, t_vOf hT, t_bOf hT, hoB, Option.bind_some, c5, c8, c9]
        have e1 : nI (6 * i + 5) - 1 = nI (6 * i + 4) := nI_pred (6 * i + 4)
        have e2 : nI 5 - 1 = nI 4 := nI_pred 4
        simp (disch := omega) only [e1, e2, gd_in, t_cl, t_vOf hT, hl, Option.bind_some]
        by_cases hd : d < 5
        · rw [if_pos (nI_lt hd (by omega)), c7 4 (by omega) (by omega)]
          exact ⟨_, _, rfl, rfl, hr⟩
        · rw [if_neg (nI_nlt (by omega) (by omega)), c6 4 (by omega)]
          exact ⟨_, _, rfl, rfl, hr⟩
      · simp only [eq_false (show ¬ nI 6 = (0 : Int32) by decide), eq_false (show ¬ nI 6 = (1 : Int32) by decide), eq_false (show ¬ nI 6 = (2 : Int32) by decide), eq_false (show ¬ nI 6 = (3 : Int32) by decide), eq_false (show ¬ nI 6 = (4 : Int32) by decide), eq_false (show ¬ nI 6 = (5 : Int32) by decide), eq_true (show nI 6 = (6 : Int32) from rfl), eq_false (show ¬ nI 6 = (7 : Int32) by decide), eq_false (show ¬ nI 6 = (8 : Int32) by decide), eq_false (show ¬ nI 6 = (9 : Int32) by decide), eq_true (show nI 6 < (7 : Int32) by decide), if_true, if_false]
        simp (disch := omega) only [gd_t g9, gd_t g2, gd_t g6, l9, l2, l6, hl, gd_in, t_cl, c2, c4, m6, t_vOf hT, t_bOf hT, hoB, Option.bind_some, c5, c8, c9]
        have e1 : nI (6 * i + 6) - 1 = nI (6 * i + 5) := nI_pred (6 * i + 5)
        have e2 : nI 6 - 1 = nI 5 := nI_pred 5
        simp (disch := omega) only [e1, e2, gd_in, t_cl, t_vOf hT, hl, Option.bind_some]
        by_cases hd : d < 6
        · rw [if_pos (nI_lt hd (by omega)), c7 5 (by omega) (by omega)]
          exact ⟨_, _, rfl, rfl, hr⟩
        · rw [if_neg (nI_nlt (by omega) (by omega)), c6 5 (by omega)]
          exact ⟨_, _, rfl, rfl, hr⟩
      · simp only [eq_false (show ¬ nI 7 = (0 : Int32) by decide), eq_false (show ¬ nI 7 = (1 : Int32) by decide), eq_false (show ¬ nI 7 = (2 : Int32) by decide), eq_false (show ¬ nI 7 = (3 : Int32) by decide), eq_false (show ¬ nI 7 = (4 : Int32) by decide), eq_false (show ¬ nI 7 = (5 : Int32) by decide), eq_false (show ¬ nI 7 = (6 : Int32) by decide), eq_true (show nI 7 = (7 : Int32) from rfl), eq_false (show ¬ nI 7 = (8 : Int32) by decide), eq_false (show ¬ nI 7 = (9 : Int32) by decide), eq_false (show ¬ nI 7 < (7 : Int32) by decide), if_true, if_false]
        simp (disch := omega) only [gd_t g9, gd_t g2, gd_t g6, l9, l2, l6, hl, gd_in, t_cl, c2, c4, m6, t_vOf hT, t_bOf hT, hoB, Option.bind_some, c5, c8, c9]
        exact ⟨_, _, rfl, rfl, hr⟩
      · simp only [eq_false (show ¬ nI 8 = (0 : Int32) by decide), eq_false (show ¬ nI 8 = (1 : Int32) by decide), eq_false (show ¬ nI 8 = (2 : Int32) by decide), eq_false (show ¬ nI 8 = (3 : Int32) by decide), eq_false (show ¬ nI 8 = (4 : Int32) by decide), eq_false (show ¬ nI 8 = (5 : Int32) by decide), eq_false (show ¬ nI 8 = (6 : Int32) by decide), eq_false (show ¬ nI 8 = (7 : Int32) by decide), eq_true (show nI 8 = (8 : Int32) from rfl), eq_false (show ¬ nI 8 = (9 : Int32) by decide), eq_false (show ¬ nI 8 < (7 : Int32) by decide), if_true, if_false]
        simp (disch := omega) only [gd_t g9, gd_t g2, gd_t g6, l9, l2, l6, hl, gd_in, t_cl, c2, c4, m6, t_vOf hT, t_bOf hT, hoB, Option.bind_some, c5, c8, c9]
        exact ⟨_, _, rfl, rfl, hr⟩
      · simp only [eq_false (show ¬ nI 9 = (0 : Int32) by decide), eq_false (show ¬ nI 9 = (1 : Int32) by decide), eq_false (show ¬ nI 9 = (2 : Int32) by decide), eq_false (show ¬ nI 9 = (3 : Int32) by decide), eq_false (show ¬ nI 9 = (4 : Int32) by decide), eq_false (show ¬ nI 9 = (5 : Int32) by decide), eq_false (show ¬ nI 9 = (6 : Int32) by decide), eq_false (show ¬ nI 9 = (7 : Int32) by decide), eq_false (show ¬ nI 9 = (8 : Int32) by decide), eq_true (show nI 9 = (9 : Int32) from rfl), eq_false (show ¬ nI 9 < (7 : Int32) by decide), if_true, if_false]
        simp (disch := omega) only [gd_t g9, gd_t g2, gd_t g6, l9, l2, l6, hl, gd_in, t_cl, c2, c4, m6, t_vOf hT, t_bOf hT, hoB, Option.bind_some, c5, c8, c9]
        exact ⟨_, _, rfl, rfl, hr⟩
    · rw [if_neg h1, if_pos rfl, if_pos rfl]
      exact ⟨_, _, rfl, rfl, hr⟩
  · rw [if_neg (show ¬ (¬ a2 < 0 ∧ ¬ 9 < a2) from hc), if_pos rfl, if_pos rfl]
    exact ⟨_, _, rfl, rfl, hr⟩
theorem k_closed (a1 a2 a3 : Int32) (h : Rel n I G A L J R) : ∃ r J', f_X6_closed I G A a1 a2 a3 = some r ∧ f_X7_closed J R a1 a2 a3 = some (r, J') ∧ Rel (n + 1) I G A L J' R := by
  have hr := Rel_J0 h
  obtain ⟨np, z, sc, q1, q2, q3, ⟨T, B, wk, nv, b1, b2, b3, b4, b5, b6, b7, b8, b9, b10⟩, _⟩ := id h
  have hT : TrAt T := by unfold TrAt; omega
  have hl : lT T = 1711 := by unfold lT; rw [if_pos (by omega)]
  obtain ⟨g0, g1, g2, g3, g4, g5, g6, g7, g8, g9, g10, g11⟩ := tgd hT
  obtain ⟨l1, l2, l3, l4, l5, l6, l7, l8, l9, _⟩ := tr_l hT
  have e48 : up2 J 318 0 0 318 48 = nI wk := (up0 (by decide)).trans b6
  unfold f_X6_closed f_X7_closed f_X5_below f_X5_widthBelow
  simp only [bd, e48, b1, b3, b5, gd_t g0, gd_t g9, gd_t g7, gd_t g2, (t_wi _ _ _).1, (t_wi _ _ _).2, Option.bind_some]
  rcases t_rng (a := a3) (hi := 1) (by omega) with ⟨x, hx, rfl⟩ | hc
  · rw [if_pos (show ¬ nI x < 0 ∧ ¬ 1 < nI x from t_rng1 (hi := 1) (by omega) hx), if_neg z10, if_neg z10]
    rcases t_ix (a := a1) (m := wk) (by omega) with ⟨i, i1, rfl, i3, i4, i5⟩ | ⟨h1, h2⟩
    · rw [if_pos i3, if_neg z10, if_neg z10]
      obtain ⟨c, d, c1, c2, c3, c4, c5, c6, c7, c8, c9, c10⟩ := b10 i i1
      obtain ⟨pB, hpB, eB⟩ := b4
      obtain ⟨gB0, gB1, _, _, _, _, lB1, _⟩ := pq_all pB hpB
      rw [← eB] at gB0 gB1 lB1
      simp (disch := omega) only [l9, l2, l7, hl, gd_in, t_cl, c2, c4]
      rcases c10 with ⟨h1, h2, h3⟩ | ⟨f, s, h1, h2, h3, h4, h5, h6, h7, h8⟩
      · rw [h1, h2, if_pos rfl, Option.bind_some]
        have hz : ¬ (¬ a2 < 0 ∧ ¬ (0 : Int32) - 1 < a2) := by
          rintro ⟨r1, r2⟩
          exact absurd (Int32.le_trans (Int32.not_lt.mp r1) (Int32.not_lt.mp r2)) (by decide)
        rw [if_neg hz, if_pos rfl]
        by_cases h0 : a2 < 0
        · rw [if_pos h0, Option.bind_some, if_pos rfl]
          exact ⟨_, _, rfl, rfl, hr⟩
        · rw [if_neg h0, if_neg h0, Option.bind_some, if_pos rfl]
          exact ⟨_, _, rfl, rfl, hr⟩
      · simp (disch := omega) only [gd_t gB0, gd_t gB1, lB1, gd_in, h1, h5, h6, Option.bind_some, if_neg (show ¬ nI f = -1 from t_m1 (by omega))]
        rcases t_ix (a := a2) (m := s) (by omega) with ⟨y, y1, rfl, y3, y4, y5⟩ | ⟨r1, r2⟩
        · rw [if_pos y3, if_neg z10, if_neg y4, if_pos y5, Option.bind_some, nI_add, if_neg (t_m1 (by omega))]
          simp (disch := omega) only [gd_t g3, gd_t g4, l3, l4, hl, gd_in, t_cl, m6]
          obtain ⟨u1, u2⟩ := h8 y y1
          rw [u1, u2]
          by_cases h0 : nI x = 0
          · rw [if_pos h0, if_pos h0]
            exact ⟨_, _, rfl, rfl, hr⟩
          · rw [if_neg h0, if_neg h0]
            exact ⟨_, _, rfl, rfl, hr⟩
        · rw [if_neg r1, if_pos rfl]
          have hv : (if a2 < 0 then some (-1 : Int32) else if a2 < nI s then some (nI f + a2) else some (-1)) = some (-1) := by
            by_cases h0 : a2 < 0
            · rw [if_pos h0]
            · rw [if_neg h0, if_neg (fun q => r2 ⟨h0, q⟩)]
          rw [hv, Option.bind_some, if_pos rfl]
          exact ⟨_, _, rfl, rfl, hr⟩
    · rw [if_neg h1, if_pos rfl, if_pos rfl]
      exact ⟨_, _, rfl, rfl, hr⟩
  · rw [if_neg (show ¬ (¬ a3 < 0 ∧ ¬ 1 < a3) from hc), if_pos rfl, if_pos rfl]
    exact ⟨_, _, rfl, rfl, hr⟩
end CE
