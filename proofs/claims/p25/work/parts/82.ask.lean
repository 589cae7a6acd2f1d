/-! THE TIE: calls that ask -/
theorem t_vOf {L : Nat → Nat → Int64} {T c : Nat} (hT : TrAt T) (hc : c < lT T) (a : Int32) : f_X5_valueOf L T (nI c) a = some (vlo (L (T + 1) c) a) := by
  obtain ⟨g0, g1, _⟩ := tgd hT
  have hl := (tr_l hT).1
  have hlT := (tr_l hT).2.2.2.2.2.2.2.2.2.2.2
  unfold f_X5_valueOf f_X5_shiftOf
  rw [gd_t g0, gd_t g1, hl, gd_in hc (by omega)]
  simp (disch := omega) only [t_cl, Option.bind_some]
  rfl
theorem t_bOf {L : Nat → Nat → Int64} {T c : Nat} (hT : TrAt T) (hc : c < lT T) : f_X5_boundOf L T (nI c) = some (bdo (L (T + 1) c)) := by
  obtain ⟨g0, g1, _⟩ := tgd hT
  have hl := (tr_l hT).1
  have hlT := (tr_l hT).2.2.2.2.2.2.2.2.2.2.2
  unfold f_X5_boundOf
  rw [gd_t g0, gd_t g1, hl, gd_in hc (by omega)]
  simp (disch := omega) only [t_cl]
  rfl
section CD
variable {I A : Nat → Nat → Int32} {G : Nat → Nat → Nat} {L : Nat → Nat → Int64} {J R : Nat → Nat → Int32} {n : Nat}
theorem k_count (a1 : Int32) (h : Rel n I G A L J R) : ∃ r r' J', f_X6_count I G a1 = some r ∧ f_X7_count J a1 = some (r', J') ∧ (a1 ≠ 5 → r = r') ∧ Rel (n + 1) I G A L J' R := by
  have hr := Rel_J0 h
  have hu := Rel_u h
  obtain ⟨np, z, sc, ⟨p1, p2, p3, p4⟩, ⟨⟨t1, t2, t3, t4, t5, t6, t7, t8⟩, _⟩, q3, q4, q5c, q5, q6, q7, ⟨b1, T, b2, b3, b4⟩, q9⟩ := id h
  have hT : TrAt T := by unfold TrAt; omega
  have gT := (tgd hT).1
  have e : ∀ k, k ≠ 0 → up2 J 318 0 0 318 k = J 318 k := fun k q => up0 q
  unfold f_X6_count f_X7_count
  simp only [bd, e 2 (by decide), e 19 (by decide), e 15 (by decide), e 18 (by decide), e 23 (by decide), e 29 (by decide), e 30 (by decide), e 31 (by decide), b2, gd_t gT, ← hu, p2, p3, b1, t1, t2, t5, t6]
  by_cases c0 : a1 = 0
  · simp only [if_pos c0]
    exact ⟨_, _, _, ite_self _, rfl, fun _ => rfl, hr⟩
  simp only [if_neg c0]
  by_cases c1 : a1 = 1
  · simp only [if_pos c1]
    exact ⟨_, _, _, ite_self _, rfl, fun _ => rfl, hr⟩
  simp only [if_neg c1]
  by_cases c2 : a1 = 2
  · simp only [if_pos c2]
    exact ⟨_, _, _, ite_self _, rfl, fun _ => rfl, hr⟩
  simp only [if_neg c2]
  by_cases c3 : a1 = 3
  · simp only [if_pos c3]
    exact ⟨_, _, _, ite_self _, rfl, fun _ => rfl, hr⟩
  simp only [if_neg c3]
  by_cases c4 : a1 = 4
  · simp only [if_pos c4]
    exact ⟨_, _, _, ite_self _, rfl, fun _ => rfl, hr⟩
  simp only [if_neg c4]
  by_cases hw : I 0 5 = -9
  · simp only [if_pos hw, if_true]
    by_cases c5 : a1 = 5
    · simp only [if_pos c5]
      exact ⟨_, _, _, rfl, rfl, fun _ => rfl, hr⟩
    simp only [if_neg c5]
    by_cases c6 : a1 = 6
    · simp only [if_pos c6]
      exact ⟨_, _, _, rfl, rfl, fun _ => rfl, hr⟩
    simp only [if_neg c6]
    by_cases c7 : a1 = 7
    · simp only [if_pos c7]
      exact ⟨_, _, _, rfl, rfl, fun _ => rfl, hr⟩
    simp only [if_neg c7]
    exact ⟨_, _, _, rfl, rfl, fun _ => rfl, hr⟩
  · rcases b4 with ⟨x, y⟩ | ⟨p, nv, nr, kn, nn, dd, tk, tn, hb, fb, x1, x2, x3, hS, _⟩
    · exact absurd x hw
    obtain ⟨⟨_, hGB, hPr, hmt, hX, hF, hd1, hd2, ht1, ht2, _⟩, _⟩ := hS
    simp only [if_neg hw, if_neg z10, hd1, hd2, ht1, ht2]
    by_cases c5 : a1 = 5
    · simp only [if_pos c5]
      exact ⟨_, _, _, rfl, rfl, fun q => absurd c5 q, hr⟩
    simp only [if_neg c5]
    by_cases c6 : a1 = 6
    · simp only [if_pos c6]
      exact ⟨_, _, _, rfl, rfl, fun _ => rfl, hr⟩
    simp only [if_neg c6]
    by_cases c7 : a1 = 7
    · simp only [if_pos c7]
      exact ⟨_, _, _, rfl, rfl, fun _ => rfl, hr⟩
    simp only [if_neg c7]
    exact ⟨_, _, _, rfl, rfl, fun _ => rfl, hr⟩
theorem t_isRu {p nv nr : Nat} {a : Int32} (hP : TPr I A R p (58 + 52 * p) nv nr) (hJ : f_X7_isProblem J (nI p) = some 1) : (∃ x, x < nr ∧ a = nI x ∧ f_X1_hasRule I (58 + 52 * p) a = some 1 ∧ f_X7_isRule J R (nI p) a = some 1) ∨ (f_X1_hasRule I (58 + 52 * p) a = some 0 ∧ f_X7_isRule J R (nI p) a = some 0) := by
  have hp := hP.1
  have hw := hP.2.2.1
  unfold f_X7_isRule
  rw [hJ, Option.bind_some, if_neg z10, gd_in hp (by omega)]
  simp (disch := omega) only [t_cl]
  rw [hP.2.2.2.2.1]
  rcases t_hasR (a := a) hp hw.2.2.2.1 hw.2.1 with ⟨x, x1, rfl, x3, x4⟩ | ⟨h1, h2⟩
  · rw [x3, x4, Option.bind_some, if_neg z10]
    exact Or.inl ⟨x, x1, rfl, rfl, rfl⟩
  · rw [h1, h2]
    exact Or.inr ⟨rfl, rfl⟩
theorem k_about (a1 a2 a3 : Int32) (h : Rel n I G A L J R) : ∃ r I' J', f_X6_about I A a1 a2 a3 = some (r, I') ∧ f_X7_about J R a1 a2 a3 = some (r, J') ∧ Rel (n + 1) I' G A L J' R := by
  obtain ⟨np, z, sc, ⟨p1, p2, p3, p4⟩, _⟩ := id h
  have hbad : Rel (n + 1) (up2 I 0 17 (-1)) G A L (up2 (up2 (up2 J 318 0 0) 318 1 0) 318 1 (-1)) R := Rel_st h (up2_s _ _ _ _) (fun k q => by rw [up2_k (by omega), up2_k (by omega), up2_k (by omega)])
  have hok : Rel (n + 1) (up2 I 0 17 0) G A L (up2 (up2 J 318 0 0) 318 1 0) R := Rel_st h (up2_s _ _ _ _) (fun k q => by rw [up2_k (by omega), up2_k (by omega)])
  have e2' : up2 (up2 J 318 0 0) 318 1 0 318 2 = nI np := by rw [up2_k (by decide), up2_k (by decide)]; exact p3
  unfold f_X6_about f_X7_about f_X6_refuse f_X6_grant f_X7_no
  simp only [bd, Option.bind_some, (t_wi a2 0 6).1, (t_wi a2 0 6).2]
  rcases t_isP (a := a1) (I := I) (J := up2 (up2 J 318 0 0) 318 1 0) p2 e2' p1 with ⟨p, hp, rfl, e1, e2⟩ | ⟨e1, e2⟩
  · rw [e1, e2, Option.bind_some, Option.bind_some, if_neg z10, if_neg z10]
    obtain ⟨g0, g1, g2, g3, g10, g11, l1, l2, l3, l10, l11⟩ := pq_all p (by omega)
    obtain ⟨⟨nv, nr, hP⟩, hK⟩ := p4 p (by omega)
    have hnv := hP.2.2.1.1
    have hnr := hP.2.2.1.2.1
    rcases t_rng (a := a2) (hi := 6) (by omega) with ⟨x, hx, rfl⟩ | hc
    · rw [if_pos (show ¬ nI x < 0 ∧ ¬ 6 < nI x from t_rng1 (hi := 6) (by omega) hx), if_neg z10, if_neg z10]
      simp (disch := omega) only [gd_in, t_cl, gd_t g0, gd_t g1, gd_t g2, gd_t g10, l1, l2, l10]
      rw [hP.2.2.2.1]
      have hx7 : x = 0 ∨ x = 1 ∨ x = 2 ∨ x = 3 ∨ x = 4 ∨ x = 5 ∨ x = 6 := by omega
      rcases hx7 with rfl | rfl | rfl | rfl | rfl | rfl | rfl
      · simp only [eq_true (show nI 0 = (0 : Int32) from rfl), eq_false (show ¬ nI 0 = (1 : Int32) by decide), eq_false (show ¬ nI 0 = (2 : Int32) by decide), eq_false (show ¬ nI 0 = (3 : Int32) by decide), eq_false (show ¬ nI 0 = (4 : Int32) by decide), eq_false (show ¬ nI 0 = (5 : Int32) by decide), eq_false (show ¬ nI 0 = (6 : Int32) by decide), eq_false (show ¬ (4 : Int32) < nI 0 by decide), eq_true (show nI 0 < (5 : Int32) by decide), if_true, if_false]
        rw [hP.2.2.1.2.2.1]
        exact ⟨_, _, _, rfl, rfl, hok⟩
      · simp only [eq_false (show ¬ nI 1 = (0 : Int32) by decide), eq_true (show nI 1 = (1 : Int32) from rfl), eq_false (show ¬ nI 1 = (2 : Int32) by decide), eq_false (show ¬ nI 1 = (3 : Int32) by decide), eq_false (show ¬ nI 1 = (4 : Int32) by decide), eq_false (show ¬ nI 1 = (5 : Int32) by decide), eq_false (show ¬ nI 1 = (6 : Int32) by decide), eq_false (show ¬ (4 : Int32) < nI 1 by decide), eq_true (show nI 1 < (5 : Int32) by decide), if_true, if_false]
        rw [hP.2.2.1.2.2.2.1, hP.2.2.2.2.1]
        exact ⟨_, _, _, rfl, rfl, hok⟩
      · simp only [eq_false (show ¬ nI 2 = (0 : Int32) by decide), eq_false (show ¬ nI 2 = (1 : Int32) by decide), eq_true (show nI 2 = (2 : Int32) from rfl), eq_false (show ¬ nI 2 = (3 : Int32) by decide), eq_false (show ¬ nI 2 = (4 : Int32) by decide), eq_false (show ¬ nI 2 = (5 : Int32) by decide), eq_false (show ¬ nI 2 = (6 : Int32) by decide), eq_false (show ¬ (4 : Int32) < nI 2 by decide), eq_true (show nI 2 < (5 : Int32) by decide), if_true, if_false]
        rcases t_isRu (a := a3) hP e2 with ⟨r, r1, rfl, v1, v2⟩ | ⟨v1, v2⟩
        · obtain ⟨g, _⟩ := pq_ru p (by omega) r (by omega)
          obtain ⟨⟨u0, u1, u2, _⟩, _⟩ := hP.2.2.2.2.2.2.2 r (by omega)
          unfold f_X2_tell
          simp (disch := omega) only [v1, v2, Option.bind_some, if_neg z10, gd_in, t_cl, gd_t g, m8, u0, u1, u2]
          simp only [eq_false (show ¬ nI 2 = (0 : Int32) by decide), eq_false (show ¬ nI 2 = (1 : Int32) by decide), eq_true (show nI 2 = (2 : Int32) from rfl), eq_false (show ¬ nI 2 = (3 : Int32) by decide), eq_false (show ¬ nI 2 = (4 : Int32) by decide), eq_false (show ¬ nI 2 = (5 : Int32) by decide), eq_false (show ¬ nI 2 = (6 : Int32) by decide), eq_false (show ¬ (4 : Int32) < nI 2 by decide), eq_true (show nI 2 < (5 : Int32) by decide), if_true, if_false]
          exact ⟨_, _, _, rfl, rfl, hok⟩
        · rw [v1, v2]
          exact ⟨_, _, _, rfl, rfl, hbad⟩
      · simp only [eq_false (show ¬ nI 3 = (0 : Int32) by decide), eq_false (show ¬ nI 3 = (1 : Int32) by decide), eq_false (show ¬ nI 3 = (2 : Int32) by decide), eq_true (show nI 3 = (3 : Int32) from rfl), eq_false (show ¬ nI 3 = (4 : Int32) by decide), eq_false (show ¬ nI 3 = (5 : Int32) by decide), eq_false (show ¬ nI 3 = (6 : Int32) by decide), eq_false (show ¬ (4 : Int32) < nI 3 by decide), eq_true (show nI 3 < (5 : Int32) by decide), if_true, if_false]
        rcases t_isRu (a := a3) hP e2 with ⟨r, r1, rfl, v1, v2⟩ | ⟨v1, v2⟩
        · obtain ⟨g, _⟩ := pq_ru p (by omega) r (by omega)
          obtain ⟨⟨u0, u1, u2, _⟩, _⟩ := hP.2.2.2.2.2.2.2 r (by omega)
          unfold f_X2_tell
          simp (disch := omega) only [v1, v2, Option.bind_some, if_neg z10, gd_in, t_cl, gd_t g, m8, u0, u1, u2]
          simp only [eq_false (show ¬ nI 3 = (0 : Int32) by decide), eq_false (show ¬ nI 3 = (1 : Int32) by decide), eq_false (show ¬ nI 3 = (2 : Int32) by decide), eq_true (show nI 3 = (3 : Int32) from rfl), eq_false (show ¬ nI 3 = (4 : Int32) by decide), eq_false (show ¬ nI 3 = (5 : Int32) by decide), eq_false (show ¬ nI 3 = (6 : Int32) by decide), eq_false (show ¬ (4 : Int32) < nI 3 by decide), eq_true (show nI 3 < (5 : Int32) by decide), if_true, if_false]
          exact ⟨_, _, _, rfl, rfl, hok⟩
        · rw [v1, v2]
          exact ⟨_, _, _, rfl, rfl, hbad⟩
      · simp only [eq_false (show ¬ nI 4 = (0 : Int32) by decide), eq_false (show ¬ nI 4 = (1 : Int32) by decide), eq_false (show ¬ nI 4 = (2 : Int32) by decide), eq_false (show ¬ nI 4 = (3 : Int32) by decide), eq_true (show nI 4 = (4 : Int32) from rfl), eq_false (show ¬ nI 4 = (5 : Int32) by decide), eq_false (show ¬ nI 4 = (6 : Int32) by decide), eq_false (show ¬ (4 : Int32) < nI 4 by decide), eq_true (show nI 4 < (5 : Int32) by decide), if_true, if_false]
        rcases t_isRu (a := a3) hP e2 with ⟨r, r1, rfl, v1, v2⟩ | ⟨v1, v2⟩
        · obtain ⟨g, _⟩ := pq_ru p (by omega) r (by omega)
          obtain ⟨⟨u0, u1, u2, _⟩, _⟩ := hP.2.2.2.2.2.2.2 r (by omega)
          unfold f_X2_tell
          simp (disch := omega) only [v1, v2, Option.bind_some, if_neg z10, gd_in, t_cl, gd_t g, m8, u0, u1, u2]
          simp only [eq_false (show ¬ nI 4 = (0 : Int32) by decide), eq_false (show ¬ nI 4 = (1 : Int32) by decide), eq_false (show ¬ nI 4 = (2 : Int32) by decide), eq_false (show ¬ nI 4 = (3 : Int32) by decide), eq_true (show nI 4 = (4 : Int32) from rfl), eq_false (show ¬ nI 4 = (5 : Int32) by decide), eq_false (show ¬ nI 4 = (6 : Int32) by decide), eq_false (show ¬ (4 : Int32) < nI 4 by decide), eq_true (show nI 4 < (5 : Int32) by decide), if_true, if_false]
          exact ⟨_, _, _, rfl, rfl, hok⟩
        · rw [v1, v2]
          exact ⟨_, _, _, rfl, rfl, hbad⟩
      · simp only [eq_false (show ¬ nI 5 = (0 : Int32) by decide), eq_false (show ¬ nI 5 = (1 : Int32) by decide), eq_false (show ¬ nI 5 = (2 : Int32) by decide), eq_false (show ¬ nI 5 = (3 : Int32) by decide), eq_false (show ¬ nI 5 = (4 : Int32) by decide), eq_true (show nI 5 = (5 : Int32) from rfl), eq_false (show ¬ nI 5 = (6 : Int32) by decide), eq_true (show (4 : Int32) < nI 5 by decide), eq_false (show ¬ nI 5 < (5 : Int32) by decide), if_true, if_false]
        rcases t_hasV (a := a3) (by omega) hP.2.2.1.2.2.1 hnv with ⟨m, m1, rfl, v1, v2⟩ | ⟨v1, v2⟩
        · simp (disch := omega) only [v1, v2, Option.bind_some, if_neg z10, gd_in, t_cl, m6]
          rw [(hP.2.2.2.2.2.1 m (by omega))]
          exact ⟨_, _, _, rfl, rfl, hok⟩
        · rw [v1, v2]
          exact ⟨_, _, _, rfl, rfl, hbad⟩
      · simp only [eq_false (show ¬ nI 6 = (0 : Int32) by decide), eq_false (show ¬ nI 6 = (1 : Int32) by decide), eq_false (show ¬ nI 6 = (2 : Int32) by decide), eq_false (show ¬ nI 6 = (3 : Int32) by decide), eq_false (show ¬ nI 6 = (4 : Int32) by decide), eq_false (show ¬ nI 6 = (5 : Int32) by decide), eq_true (show nI 6 = (6 : Int32) from rfl), eq_true (show (4 : Int32) < nI 6 by decide), eq_false (show ¬ nI 6 < (5 : Int32) by decide), if_true, if_false]
        rcases t_hasV (a := a3) (by omega) hP.2.2.1.2.2.1 hnv with ⟨m, m1, rfl, v1, v2⟩ | ⟨v1, v2⟩
        · simp (disch := omega) only [v1, v2, Option.bind_some, if_neg z10, gd_in, t_cl, m6]
          rw [(hK.1 m (by omega))]
          exact ⟨_, _, _, rfl, rfl, hok⟩
        · rw [v1, v2]
          exact ⟨_, _, _, rfl, rfl, hbad⟩
    · rw [if_neg (show ¬ (¬ a2 < 0 ∧ ¬ 6 < a2) from hc), if_pos rfl, if_pos rfl]
      exact ⟨_, _, _, rfl, rfl, hbad⟩
  · rw [e1, e2]
    exact ⟨_, _, _, rfl, rfl, hbad⟩
theorem k_ask (a1 : Int32) (h : Rel n I G A L J R) (hn : n < 1073741824) : ∃ r I' A' J', f_X6_ask I A a1 = some (r, I', A') ∧ f_X7_ask J R a1 = some (r, J') ∧ Rel (n + 1) I' G A' L J' R := by
  have hr := Rel_J0 h
  obtain ⟨np, z, sc, ⟨p1, p2, p3, p4⟩, q2, q3, q4, ⟨g, c1, c2, c3⟩, _⟩ := id h
  have e2' : up2 J 318 0 0 318 2 = nI np := by rw [up2_k (by decide)]; exact p3
  unfold f_X6_ask f_X7_ask
  simp only [bd]
  rcases t_isP (a := a1) (I := I) (J := up2 J 318 0 0) p2 e2' p1 with ⟨p, hp, rfl, e1, e2⟩ | ⟨e1, e2⟩
  · rw [e1, e2, Option.bind_some, Option.bind_some, if_neg z10, if_neg z10]
    obtain ⟨g0, _⟩ := pq_all p (by omega)
    obtain ⟨⟨nv, nr, hP⟩, hK⟩ := p4 p (by omega)
    obtain ⟨c, c', d1, d2, d3, d4⟩ := c3 p (by omega)
    rw [t_fill (A := A) (j := 18) (n := 6) (w := -1) ⟨by decide, by decide +kernel, by decide +kernel⟩ (by decide) (by decide)]
    simp (disch := omega) only [gd_in, t_cl, gd_t g0, Option.bind_some]
    have o2 : ∀ (a b d : Int32), up2 (up2 (up2 I 0 7 a) 0 8 b) 0 9 d (58 + 52 * p) 0 = nI nv := fun a b d => by
      rw [up2_j (by omega), up2_j (by omega), up2_j (by omega)]; exact hP.2.2.1.2.2.1
    rw [o2, hP.2.2.2.1, up2_j (show 58 + 52 * p ≠ 0 by omega), d1, d2]
    refine ⟨_, _, _, _, rfl, rfl, Rel_Q5 h (fun j k q => ?_) (fun j m q => fil_j q) (fun k q => by rw [up2_k (by omega), up2_k (by omega), up2_k (by omega), up2_k (by omega)]) (fun _ _ _ => rfl) (Or.inr ⟨p, 0, nv, c, c, c', c', ⟨by omega, np, p1, by rw [up2_k (by decide), up2_k (by decide), up2_k (by decide)]; exact e2', hp⟩, ?_, ?_, ?_, ⟨Nat.zero_le _, hP.2.2.1.1⟩, up2_s _ _ _ _, up2_s _ _ _ _, fun i hi => by omega, fun i _ hi => by unfold fil; rw [if_pos ⟨rfl, by omega⟩], ?_, ?_, d2, ?_, by omega, by omega, Or.inl ⟨rfl, rfl⟩⟩)⟩
    · unfold up2
      rw [if_neg (by omega), if_neg (by omega), if_neg (by omega)]
    · rw [up2_k (by decide), up2_k (by decide), up2_s]
    · rw [up2_k (by decide), up2_k (by decide), up2_s]
    · exact o2 _ _ _
    · rw [up2_j (by omega), up2_j (by omega), up2_j (by omega)]; exact d1
    · rw [up2_k (by decide), up2_s]
    · rw [up2_k (by decide), up2_s]
  · rw [e1, e2]
    exact ⟨_, _, _, _, rfl, rfl, hr⟩
theorem k_with (a1 : Int32) (h : Rel n I G A L J R) : ∃ r I' A' J' R', f_X6_with I A a1 = some (r, I', A') ∧ f_X7_with J R a1 = some (r, J', R') ∧ Rel (n + 1) I' G A' L J' R' := by
  have hr := Rel_J0 h
  obtain ⟨np, z, sc, ⟨p1, p2, p3, p4⟩, q2, q3, q4, _, q5, _⟩ := id h
  have e : ∀ k, k ≠ 0 → up2 J 318 0 0 318 k = J 318 k := fun k q => up0 q
  unfold f_X6_with f_X7_with
  simp only [bd, e 57 (by decide), e 59 (by decide)]
  rcases q5 with ⟨a, b⟩ | ⟨p, ad, nv, c, a, c', a', ⟨hp, hpn⟩, q2, q3, q4, q5, q6, q7, q8, q9, q10, q11, q12, q13, q14, q15, q16⟩
  · rw [if_pos a, if_pos b]
    exact ⟨_, _, _, _, _, rfl, rfl, hr⟩
  · obtain ⟨g0, g1, g2, g3, g10, g11, l1, l2, l3, l10, l11⟩ := pq_all p (by omega)
    obtain ⟨⟨nv2, nr, hP⟩, hK⟩ := p4 p (by omega)
    have hw := hP.2.2.1
    have hnv := hw.1
    have env : nv2 = nv := by
      have q := hw.2.2.1.symm.trans q4
      exact (t_eq (by omega) (by omega)).mp q
    subst env
    rw [q2, q3, q6, q7, if_neg (t_m9 (by omega)), if_neg (t_m9 (by omega))]
    simp (disch := omega) only [gd_in, t_cl, gd_t g0, hP.2.2.2.1, m6]
    unfold f_X1_hasValue
    rw [gd_t g0]
    rcases t_hasV (a := nI ad) hp q4 hnv with ⟨x, x1, x2, x3, x4⟩ | ⟨h1, h2⟩
    · have ex : ad = x := (t_eq (by omega) (by omega)).mp x2
      subst ex
      rw [if_neg (show ¬ nI ad = nI nv2 from fun q => by
        have := (t_eq (by omega) (by omega)).mp q
        omega)]
      obtain ⟨s1, s2, s3⟩ := pr_sz hw x1
      have eR : R 321 (6 * p + ad) = nI (szo A (58 + 52 * p) ad) := (hP.2.2.2.2.2.1 ad (by omega)).trans s1
      simp (disch := omega) only [x3, Option.bind_some, if_neg z10, gd_in, t_cl, eR, (t_wi _ _ _).2, gd_t g1, l1, s1]
      rcases t_ix (a := a1) (m := szo A (58 + 52 * p) ad) (by omega) with ⟨y, y1, rfl, y3, y4, y5⟩ | ⟨h1, h2⟩
      · rw [if_pos y3, if_neg y4, if_pos y5, Option.bind_some, if_neg z10, if_neg z10, nI_1, up2_s, up2_s]
        refine ⟨_, _, _, _, _, rfl, rfl, Rel_Q5 h (fun j k q => ?_) (fun j m q => up2_j q) (fun k q => by rw [up2_k (by omega), up2_k (by omega)]) (fun j m q => up2_j q) (Or.inr ⟨p, ad + 1, nv2, c, a, c', a', ⟨hp, Qn_of (by rw [up2_k (by decide), up2_k (by decide)]) p hpn⟩, ?_, ?_, ?_, ⟨by omega, hnv⟩, up2_s _ _ _ _, up2_s _ _ _ _, fun i hi => ?_, fun i h1 h2 => ?_, ?_, ?_, q12, ?_, q14, q15, q16⟩)⟩
        · unfold up2
          rw [if_neg (by omega)]
        · rw [up2_k (by decide)]; exact q2
        · rw [up2_k (by decide), up2_k (by decide)]; exact q3
        · rw [up2_j (by omega)]; exact q4
        · have e1 : ∀ i, szo (up2 A 18 ad (nI y)) (58 + 52 * p) i = szo A (58 + 52 * p) i := fun i => by unfold szo; rw [up2_j (by omega)]
          rw [e1]
          rcases Nat.lt_or_ge i ad with r | r
          · obtain ⟨m, m1, m2, m3⟩ := q8 i r
            exact ⟨m, m1, by rw [up2_k (by omega)]; exact m2, by rw [up2_k (by omega)]; exact m3⟩
          · have : i = ad := by omega
            subst this
            exact ⟨y, y1, up2_s _ _ _ _, up2_s _ _ _ _⟩
        · rw [up2_k (by omega)]; exact q9 i (by omega) h2
        · rw [up2_j (by omega)]; exact q10
        · rw [up2_k (by decide)]; exact q11
        · rw [up2_k (by decide), up2_k (by decide)]; exact q13
      · rw [if_neg h1]
        have hv : (if a1 < 0 then some (0 : Int32) else if a1 < nI (szo A (58 + 52 * p) ad) then some 1 else some 0) = some 0 := by
          by_cases h0 : a1 < 0
          · rw [if_pos h0]
          · rw [if_neg h0, if_neg (fun q => h2 ⟨h0, q⟩)]
        rw [hv]
        exact ⟨_, _, _, _, _, rfl, rfl, hr⟩
    · have ex : ¬ ad < nv2 := fun q => by
        unfold f_X1_hasVariable at h1
        rw [gd_t g0, q4, if_neg (nI_pos (by omega)), if_pos (nI_lt q (by omega))] at h1
        exact absurd (Option.some.inj h1) (by decide)
      have ex2 : ad = nv2 := by omega
      subst ex2
      rw [if_pos rfl, h1]
      exact ⟨_, _, _, _, _, rfl, rfl, hr⟩
end CD
