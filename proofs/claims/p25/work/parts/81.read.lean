/-! THE TIE: calls that read -/
theorem t_ix {a : Int32} {m : Nat} (hm : m < 1073741824) : (∃ x, x < m ∧ a = nI x ∧ (¬ a < 0 ∧ ¬ nI m - 1 < a) ∧ ¬ a < 0 ∧ a < nI m) ∨ (¬ (¬ a < 0 ∧ ¬ nI m - 1 < a) ∧ ¬ (¬ a < 0 ∧ a < nI m)) := by
  rcases Nat.eq_zero_or_pos m with h0 | h0
  · right
    subst h0
    have e : nI 0 - 1 = (-1 : Int32) := by decide
    rw [e]
    constructor
    · rintro ⟨h1, h2⟩
      exact absurd (Int32.le_trans (Int32.not_lt.mp h1) (Int32.not_lt.mp h2)) (by decide)
    · rintro ⟨h1, h2⟩
      exact h1 h2
  · rw [nI_s1 h0]
    rcases t_rng (a := a) (hi := m - 1) (by omega) with ⟨x, hx, rfl⟩ | hc
    · exact Or.inl ⟨x, by omega, rfl, t_rng1 (by omega) hx, nI_pos (by omega), nI_lt (by omega) (by omega)⟩
    · refine Or.inr ⟨hc, fun q => hc ⟨q.1, fun r => ?_⟩⟩
      obtain ⟨j, j1, j2⟩ := nI_of q.1
      subst j2
      have a1 := (t_lt (by omega) (by omega)).mp q.2
      have a2 := (t_lt (by omega) (by omega)).mp r
      omega
theorem pq_all : ∀ p, p < 5 → (58 + 52 * p < 318 ∧ kd (58 + 52 * p) = 1) ∧ (58 + 52 * p + 1 < 318 ∧ kd (58 + 52 * p + 1) = 8) ∧ (58 + 52 * p + 2 < 318 ∧ kd (58 + 52 * p + 2) = 8) ∧ (58 + 52 * p + 3 < 318 ∧ kd (58 + 52 * p + 3) = 15) ∧ (58 + 52 * p + 10 < 318 ∧ kd (58 + 52 * p + 10) = 14) ∧ (58 + 52 * p + 11 < 318 ∧ kd (58 + 52 * p + 11) = 8) ∧ ln (58 + 52 * p + 1) = 6 ∧ ln (58 + 52 * p + 2) = 6 ∧ ln (58 + 52 * p + 3) = 6 ∧ ln (58 + 52 * p + 10) = 8 ∧ ln (58 + 52 * p + 11) = 12 := by decide +kernel
theorem pq_row : ∀ p, p < 5 → ∀ x, x < 6 → (58 + 52 * p + 4 + x < 318 ∧ kd (58 + 52 * p + 4 + x) = 8) ∧ ln (58 + 52 * p + 4 + x) = 6 := by decide +kernel
theorem pq_ru : ∀ p, p < 5 → ∀ r, r < 8 → (58 + 52 * p + 12 + 5 * r < 318 ∧ kd (58 + 52 * p + 12 + 5 * r) = 2) ∧ (58 + 52 * p + 12 + 5 * r + 1 < 318 ∧ kd (58 + 52 * p + 12 + 5 * r + 1) = 8) ∧ (58 + 52 * p + 12 + 5 * r + 2 < 318 ∧ kd (58 + 52 * p + 12 + 5 * r + 2) = 8) ∧ (58 + 52 * p + 12 + 5 * r + 3 < 318 ∧ kd (58 + 52 * p + 12 + 5 * r + 3) = 11) ∧ (58 + 52 * p + 12 + 5 * r + 4 < 318 ∧ kd (58 + 52 * p + 12 + 5 * r + 4) = 8) ∧ ln (58 + 52 * p + 12 + 5 * r + 1) = 6 ∧ ln (58 + 52 * p + 12 + 5 * r + 2) = 6 ∧ ln (58 + 52 * p + 12 + 5 * r + 3) = 6 ∧ ln (58 + 52 * p + 12 + 5 * r + 4) = 6 := by decide +kernel
section CC
variable {I A : Nat → Nat → Int32} {G : Nat → Nat → Nat} {L : Nat → Nat → Int64} {J R : Nat → Nat → Int32} {n : Nat}
theorem t_hasV {p nv : Nat} {a : Int32} (hp : p < 5) (hv : I (58 + 52 * p) 0 = nI nv) (hn : nv ≤ 6) : (∃ x, x < nv ∧ a = nI x ∧ f_X1_hasVariable I (58 + 52 * p) a = some 1 ∧ f_X7_in a 0 (nI nv - 1) = some 1) ∨ (f_X1_hasVariable I (58 + 52 * p) a = some 0 ∧ f_X7_in a 0 (nI nv - 1) = some 0) := by
  have g := (pq_all p hp).1
  unfold f_X1_hasVariable
  rw [gd_t g, hv, (t_wi _ _ _).2]
  rcases t_ix (a := a) (m := nv) (by omega) with ⟨x, x1, x2, x3, x4, x5⟩ | ⟨h1, h2⟩
  · rw [if_pos x3, if_neg x4, if_pos x5]
    exact Or.inl ⟨x, x1, x2, rfl, rfl⟩
  · rw [if_neg h1]
    refine Or.inr ⟨?_, rfl⟩
    by_cases h0 : a < 0
    · rw [if_pos h0]
    · rw [if_neg h0, if_neg (fun q => h2 ⟨h0, q⟩)]
theorem t_hasR {p nr : Nat} {a : Int32} (hp : p < 5) (hv : I (58 + 52 * p) 1 = nI nr) (hn : nr ≤ 8) : (∃ x, x < nr ∧ a = nI x ∧ f_X1_hasRule I (58 + 52 * p) a = some 1 ∧ f_X7_in a 0 (nI nr - 1) = some 1) ∨ (f_X1_hasRule I (58 + 52 * p) a = some 0 ∧ f_X7_in a 0 (nI nr - 1) = some 0) := by
  have g := (pq_all p hp).1
  unfold f_X1_hasRule
  rw [gd_t g, hv, (t_wi _ _ _).2]
  rcases t_ix (a := a) (m := nr) (by omega) with ⟨x, x1, x2, x3, x4, x5⟩ | ⟨h1, h2⟩
  · rw [if_pos x3, if_neg x4, if_pos x5]
    exact Or.inl ⟨x, x1, x2, rfl, rfl⟩
  · rw [if_neg h1]
    refine Or.inr ⟨?_, rfl⟩
    by_cases h0 : a < 0
    · rw [if_pos h0]
    · rw [if_neg h0, if_neg (fun q => h2 ⟨h0, q⟩)]
/-- has the variable the value? (where the problem is one) -/
theorem t_hasVal {p nv nr : Nat} {a b : Int32} (hP : TPr I A R p (58 + 52 * p) nv nr) (hJ : f_X7_isProblem J (nI p) = some 1) : (∃ x y, x < nv ∧ a = nI x ∧ y < szo A (58 + 52 * p) x ∧ szo A (58 + 52 * p) x ≤ 6 ∧ b = nI y ∧ f_X1_hasValue I A (58 + 52 * p) a b = some 1 ∧ f_X7_isValue J R (nI p) a b = some 1) ∨ (f_X1_hasValue I A (58 + 52 * p) a b = some 0 ∧ f_X7_isValue J R (nI p) a b = some 0) := by
  have hp := hP.1
  have hw := hP.2.2.1
  have hnv := hw.1
  obtain ⟨g0, g1, g2, g3, g10, g11, l1, l2, l3, l10, l11⟩ := pq_all p hp
  unfold f_X1_hasValue f_X7_isValue
  rw [gd_t g0, hJ, Option.bind_some, if_neg z10, gd_in hp (by omega), t_cl (show p < 2147483648 by omega), hP.2.2.2.1]
  rcases t_hasV (a := a) hp hw.2.2.1 hnv with ⟨x, x1, rfl, x3, x4⟩ | ⟨h1, h2⟩
  · rw [x3, x4, Option.bind_some, Option.bind_some, if_neg z10, if_neg z10]
    obtain ⟨s1, s2, s3⟩ := pr_sz hw x1
    have eR : R 321 (6 * p + x) = nI (szo A (58 + 52 * p) x) := (hP.2.2.2.2.2.1 x (by omega)).trans s1
    simp (disch := omega) only [m6, gd_in, t_cl, eR, (t_wi _ _ _).2, gd_t g1, l1, s1, Option.bind_some]
    rcases t_ix (a := b) (m := szo A (58 + 52 * p) x) (by omega) with ⟨y, y1, y2, y3, y4, y5⟩ | ⟨h1, h2⟩
    · rw [if_pos y3, if_neg y4, if_pos y5]
      exact Or.inl ⟨x, y, x1, rfl, y1, s3, y2, rfl, rfl⟩
    · rw [if_neg h1]
      refine Or.inr ⟨?_, rfl⟩
      by_cases h0 : b < 0
      · rw [if_pos h0]
      · rw [if_neg h0, if_neg (fun q => h2 ⟨h0, q⟩)]
  · rw [h1, h2]
    exact Or.inr ⟨rfl, rfl⟩
theorem k_row (a1 : Int32) (h : Rel n I G A L J R) : ∃ r J', f_X6_row A a1 = some r ∧ f_X7_row J R a1 = some (r, J') ∧ Rel (n + 1) I G A L J' R := by
  have hr := Rel_J0 h
  obtain ⟨np, z, sc, q1, q2, q3, q4, q5c, q5, q6, _⟩ := id h
  have e61 : up2 J 318 0 0 318 61 = J 318 61 := up0 (by decide)
  unfold f_X6_row f_X7_row
  simp only [bd, (t_wi _ _ _).1, (t_wi _ _ _).2, Option.bind_some, e61]
  rcases q6 with ⟨a, b⟩ | ⟨m, a, b, c, d⟩
  · rw [if_pos a]
    rcases t_rng (a := a1) (hi := 5) (by omega) with ⟨x, hx, rfl⟩ | hc
    · rw [if_pos (show ¬ nI x < 0 ∧ ¬ 5 < nI x from t_rng1 (hi := 5) (by omega) hx), if_neg z10, gd_in (show x < 6 by omega) (by omega), t_cl (show x < 2147483648 by omega), b x (by omega)]
      exact ⟨_, _, rfl, rfl, hr⟩
    · rw [if_neg (show ¬ (¬ a1 < 0 ∧ ¬ 5 < a1) from hc), if_pos rfl]
      exact ⟨_, _, rfl, rfl, hr⟩
  · rw [b, if_neg (t_m9 (by omega))]
    rcases t_ix (a := a1) (m := m) (by omega) with ⟨x, x1, rfl, x3, x4, x5⟩ | ⟨h1, h2⟩
    · simp (disch := omega) only [gd_in, t_cl]
      rw [if_pos x3, if_neg z10, if_pos (show ¬ nI x < 0 ∧ ¬ 5 < nI x from t_rng1 (hi := 5) (by omega) (by omega)), if_neg z10, c x x1]
      exact ⟨_, _, rfl, rfl, hr⟩
    · rw [if_neg h1, if_pos rfl]
      rcases t_rng (a := a1) (hi := 5) (by omega) with ⟨x, hx, rfl⟩ | hc
      · have hxm : m ≤ x := by
          rcases Nat.lt_or_ge x m with r | r
          · exact absurd ⟨nI_pos (by omega), nI_lt r (by omega)⟩ h2
          · exact r
        rw [if_pos (show ¬ nI x < 0 ∧ ¬ 5 < nI x from t_rng1 (hi := 5) (by omega) hx), if_neg z10, gd_in (show x < 6 by omega) (by omega), t_cl (show x < 2147483648 by omega), d x hxm (by omega)]
        exact ⟨_, _, rfl, rfl, hr⟩
      · rw [if_neg (show ¬ (¬ a1 < 0 ∧ ¬ 5 < a1) from hc), if_pos rfl]
        exact ⟨_, _, rfl, rfl, hr⟩
theorem k_told (a1 a2 : Int32) (h : Rel n I G A L J R) : ∃ r J', f_X6_told I A a1 a2 = some r ∧ f_X7_told J R a1 a2 = some (r, J') ∧ Rel (n + 1) I G A L J' R := by
  have hr := Rel_J0 h
  obtain ⟨np, z, sc, ⟨p1, p2, p3, p4⟩, q2, q3, _⟩ := id h
  unfold f_X6_told f_X7_told
  simp only [bd, (t_wi _ _ _).1, (t_wi _ _ _).2, Option.bind_some]
  rcases t_isP (a := a1) (I := I) (J := up2 J 318 0 0) p2 ((up0 (by decide)).trans p3) p1 with ⟨p, hp, rfl, e1, e2⟩ | ⟨e1, e2⟩
  · rw [e1, e2, Option.bind_some, Option.bind_some, if_neg z10, if_neg z10]
    obtain ⟨g0, g1, g2, g3, g10, g11, l1, l2, l3, l10, l11⟩ := pq_all p (by omega)
    rcases t_rng (a := a2) (hi := 5) (by omega) with ⟨x, hx, rfl⟩ | hc
    · rw [if_pos (show ¬ nI x < 0 ∧ ¬ 5 < nI x from t_rng1 (hi := 5) (by omega) hx), if_neg z10, if_neg z10]
      simp (disch := omega) only [gd_in, t_cl, gd_t g0, gd_t g11, l11, m6]
      rcases q3 p (by omega) with ⟨c1, c2, c3⟩ | ⟨c1, c2, c3, c4⟩
      · rw [c1, c2, if_pos rfl, if_pos rfl]
        exact ⟨_, _, rfl, rfl, hr⟩
      · rw [c1, c2, if_neg z10, if_neg z10, c3 x (by omega)]
        exact ⟨_, _, rfl, rfl, hr⟩
    · rw [if_neg (show ¬ (¬ a2 < 0 ∧ ¬ 5 < a2) from hc), if_pos rfl, if_pos rfl]
      exact ⟨_, _, rfl, rfl, hr⟩
  · rw [e1, e2]
    exact ⟨_, _, rfl, rfl, hr⟩
theorem k_answer (a1 a2 : Int32) (h : Rel n I G A L J R) : ∃ r J', f_X6_answer I A a1 a2 = some r ∧ f_X7_answer J R a1 a2 = some (r, J') ∧ Rel (n + 1) I G A L J' R := by
  have hr := Rel_J0 h
  obtain ⟨np, z, sc, ⟨p1, p2, p3, p4⟩, q2, q3, _⟩ := id h
  unfold f_X6_answer f_X7_answer
  simp only [bd]
  rcases t_isP (a := a1) (I := I) (J := up2 J 318 0 0) p2 ((up0 (by decide)).trans p3) p1 with ⟨p, hp, rfl, e1, e2⟩ | ⟨e1, e2⟩
  · rw [e1, e2, Option.bind_some, Option.bind_some, if_neg z10, if_neg z10]
    obtain ⟨g0, g1, g2, g3, g10, g11, l1, l2, l3, l10, l11⟩ := pq_all p (by omega)
    obtain ⟨⟨nv, nr, hP⟩, _⟩ := p4 p (by omega)
    have hnv := hP.2.2.1.1
    simp (disch := omega) only [gd_in, t_cl, gd_t g0]
    rw [hP.2.2.2.1]
    rcases t_hasV (a := a2) (by omega) hP.2.2.1.2.2.1 hnv with ⟨x, x1, rfl, x3, x4⟩ | ⟨h1, h2⟩
    · rw [x3, x4, Option.bind_some, Option.bind_some, if_neg z10, if_neg z10]
      have e6 : 6 + nI x = nI (6 + x) := nI_add 6 x
      rw [e6]
      simp (disch := omega) only [gd_in, t_cl, gd_t g11, l11, m6]
      rcases q3 p (by omega) with ⟨c1, c2, c3⟩ | ⟨c1, c2, c3, ⟨c4, c5⟩ | ⟨c4, c5⟩⟩
      · rw [c1, c3, if_pos rfl, if_pos rfl]
        exact ⟨_, _, rfl, rfl, hr⟩
      · rw [c1, c4, if_neg z10, if_neg z10, c5 x (by omega)]
        exact ⟨_, _, rfl, rfl, hr⟩
      · rw [c1, c4, if_neg z10, if_pos rfl, c5 x (by omega)]
        exact ⟨_, _, rfl, rfl, hr⟩
    · rw [h1, h2]
      exact ⟨_, _, rfl, rfl, hr⟩
  · rw [e1, e2]
    exact ⟨_, _, rfl, rfl, hr⟩
/-- status: granted, refused -/
theorem Rel_st {w : Int32} {J' : Nat → Nat → Int32} (h : Rel n I G A L J R) (h1 : J' 318 1 = w) (hJ : ∀ k, ¬ (k = 0 ∨ k = 1) → J' 318 k = J 318 k) : Rel (n + 1) (up2 I 0 17 w) G A L J' R :=
  Rel_Q7 h (fun j k q => by unfold up2; rw [if_neg q]) (fun _ _ _ => rfl) hJ (fun _ _ _ => rfl) (by rw [up2_s, h1])
theorem k_costs (a1 a2 a3 : Int32) (h : Rel n I G A L J R) : ∃ r I' J', f_X6_costs I A a1 a2 a3 = some (r, I') ∧ f_X7_costs J R a1 a2 a3 = some (r, J') ∧ Rel (n + 1) I' G A L J' R := by
  obtain ⟨np, z, sc, ⟨p1, p2, p3, p4⟩, _⟩ := id h
  have hbad : Rel (n + 1) (up2 I 0 17 (-1)) G A L (up2 (up2 (up2 J 318 0 0) 318 1 0) 318 1 (-1)) R := Rel_st h (up2_s _ _ _ _) (fun k q => by rw [up2_k (by omega), up2_k (by omega), up2_k (by omega)])
  have hok : Rel (n + 1) (up2 I 0 17 0) G A L (up2 (up2 J 318 0 0) 318 1 0) R := Rel_st h (up2_s _ _ _ _) (fun k q => by rw [up2_k (by omega), up2_k (by omega)])
  have e2' : up2 (up2 J 318 0 0) 318 1 0 318 2 = nI np := by rw [up2_k (by decide), up2_k (by decide)]; exact p3
  unfold f_X6_costs f_X7_costs f_X6_refuse f_X6_grant f_X7_no
  simp only [bd, Option.bind_some]
  rcases t_isP (a := a1) (I := I) (J := up2 (up2 J 318 0 0) 318 1 0) p2 e2' p1 with ⟨p, hp, rfl, e1, e2⟩ | ⟨e1, e2⟩
  · rw [e1, Option.bind_some, if_neg z10]
    obtain ⟨g0, g1, g2, g3, g10, g11, l1, l2, l3, l10, l11⟩ := pq_all p (by omega)
    obtain ⟨⟨nv, nr, hP⟩, _⟩ := p4 p (by omega)
    have hnv := hP.2.2.1.1
    simp (disch := omega) only [gd_in, t_cl, gd_t g0]
    rcases t_hasVal (a := a2) (b := a3) hP e2 with ⟨x, y, x1, rfl, y1, y2, rfl, v1, v2⟩ | ⟨v1, v2⟩
    · obtain ⟨r1, r2⟩ := pq_row p (by omega) x (by omega)
      have hc := r_costAt hP (show x < 6 by omega) (show y < 6 by omega)
      simp (disch := omega) only [v1, v2, Option.bind_some, z10, if_false, gd_t g3, l3, gd_in, t_cl, gd_t r1, r2, hc]
      exact ⟨_, _, _, rfl, rfl, hok⟩
    · rw [v1, v2]
      exact ⟨_, _, _, rfl, rfl, hbad⟩
  · unfold f_X7_isValue
    rw [e1, e2]
    exact ⟨_, _, _, rfl, rfl, hbad⟩
end CC
