/-! THE TIE: the team's calls, and those that only read -/
section CB
variable {I A : Nat → Nat → Int32} {G : Nat → Nat → Nat} {L : Nat → Nat → Int64} {J R : Nat → Nat → Int32} {n : Nat}
theorem k_limit (a1 : Int32) (h : Rel n I G A L J R) : ∃ r I' J', f_X6_limit I a1 = some (r, I') ∧ f_X7_limit J a1 = some (r, J') ∧ Rel (n + 1) I' G A L J' R := by
  have hr := Rel_J0 h
  have hu := Rel_u h
  have e23 : up2 J 318 0 0 318 23 = J 318 23 := up0 (by decide)
  have e19 : up2 J 318 0 0 318 19 = J 318 19 := up0 (by decide)
  unfold f_X6_limit f_X7_limit
  simp only [bd, (t_wi _ _ _).1, (t_wi _ _ _).2, Option.bind_some, e23, e19, ← hu]
  by_cases hc : ¬ a1 < 0 ∧ ¬ 1000 < a1
  · rw [if_pos hc, if_neg z10, if_neg z10]
    by_cases hw : I 0 5 = -9
    · rw [if_pos hw, if_pos hw]
      have hq8 : I 0 3 = J 318 19 := by obtain ⟨np, z, sc, q1, q2, q3, q4, q5c, q5, q6, q7, ⟨b1, _⟩, q9⟩ := h; exact b1
      refine ⟨_, _, _, rfl, by rw [hq8], Rel_Q8 h (fun j k q => by unfold up2; rw [if_neg (fun r => q ⟨r.1, by omega⟩)]) (fun k q => by rw [up2_k (by omega), up2_k (by omega)]) (fun np z sc q8 => ?_)⟩
      obtain ⟨b1, T, b2, b3, b4⟩ := q8
      exact ⟨by rw [up2_s, up2_s], T, b2, b3, Or.inl ⟨by rw [up2_k (by decide)]; exact hw, by rw [up2_k (by decide), up2_k (by decide), ← hu]; exact hw⟩⟩
    · rw [if_neg hw, if_neg hw]
      exact ⟨_, _, _, rfl, rfl, hr⟩
  · rw [if_neg hc, if_pos rfl, if_pos rfl]
    exact ⟨_, _, _, rfl, rfl, hr⟩
theorem k_giveUp (h : Rel n I G A L J R) : ∃ r I' J', f_X6_giveUp I = some (r, I') ∧ f_X7_giveUp J = some (r, J') ∧ Rel (n + 1) I' G A L J' R := by
  have hr := Rel_J0 h
  have hu := Rel_u h
  have e23 : up2 J 318 0 0 318 23 = J 318 23 := up0 (by decide)
  unfold f_X6_giveUp f_X7_giveUp
  simp only [bd, e23, ← hu]
  by_cases hw : I 0 5 = -9
  · rw [if_pos hw, if_pos hw]
    exact ⟨_, _, _, rfl, rfl, hr⟩
  · rw [if_neg hw, if_neg hw]
    refine ⟨_, _, _, rfl, rfl, Rel_Q8 h (fun j k q => by unfold up2; rw [if_neg (fun r => q ⟨r.1, by omega⟩)]) (fun k q => by rw [up2_k (by omega), up2_k (by omega)]) (fun np z sc q8 => ?_)⟩
    obtain ⟨b1, T, b2, b3, b4⟩ := q8
    exact ⟨by rw [up2_k (by decide), up2_k (by decide), up2_k (by decide)]; exact b1, T, b2, b3, Or.inl ⟨up2_s _ _ _ _, up2_s _ _ _ _⟩⟩
theorem k_status (h : Rel n I G A L J R) : ∃ r J', f_X6_status I = some r ∧ f_X7_status J = some (r, J') ∧ Rel (n + 1) I G A L J' R := by
  have hr := Rel_J0 h
  have q : I 0 17 = J 318 1 := by obtain ⟨np, z, sc, q1, q2, q3, q4, q5c, q5, q6, q7, _⟩ := h; exact q7.1
  unfold f_X6_status f_X7_status
  simp only [bd]
  exact ⟨_, _, rfl, by rw [up0 (by decide), q], hr⟩
theorem k_plain (h : Rel n I G A L J R) : ∃ r I' J', f_X6_plain I = some (r, I') ∧ f_X7_plain J = some (r, J') ∧ Rel (n + 1) I' G A L J' R := by
  have hr := Rel_J0 h
  have hu := Rel_u h
  have e23 : up2 J 318 0 0 318 23 = J 318 23 := up0 (by decide)
  have e18 : up2 J 318 0 0 318 18 = J 318 18 := up0 (by decide)
  unfold f_X6_plain f_X7_plain
  simp only [bd, e23, e18, ← hu]
  by_cases hw : I 0 5 = -9
  · rw [if_pos hw, if_pos hw]
    obtain ⟨np, z, sc, q1, ⟨⟨t1, t2, t3, t4, t5, t6, t7, t8⟩, q2⟩, q3⟩ := id h
    refine ⟨nI sc, up2 I 2 1 0, up2 (up2 J 318 0 0) 318 18 0, by rw [t5], by rw [t6], Rel_Q2 h hw (fun j k q => up2_j q) (fun _ _ _ => rfl) (fun k q => by rw [up2_k (by omega), up2_k (by omega)]) (fun _ _ _ => rfl) (z' := z) (sc' := 0) ⟨⟨by rw [up2_k (by decide)]; exact t1, by rw [up2_k (by decide), up2_k (by decide)]; exact t2, t3, t4, up2_s _ _ _ _, up2_s _ _ _ _, by omega, fun i hi => by omega⟩, q2⟩⟩
  · rw [if_neg hw, if_neg hw]
    exact ⟨_, _, _, rfl, rfl, hr⟩
theorem k_turn (a1 : Int32) (h : Rel n I G A L J R) : ∃ r I' A' J' R', f_X6_turn I A a1 = some (r, I', A') ∧ f_X7_turn J R a1 = some (r, J', R') ∧ Rel (n + 1) I' G A' L J' R' := by
  have hr := Rel_J0 h
  have hu := Rel_u h
  have e23 : up2 J 318 0 0 318 23 = J 318 23 := up0 (by decide)
  have e18 : up2 J 318 0 0 318 18 = J 318 18 := up0 (by decide)
  obtain ⟨np, z, sc, q1, ⟨⟨t1, t2, t3, t4, t5, t6, t7, t8⟩, q2⟩, q3⟩ := id h
  unfold f_X6_turn f_X7_turn
  simp only [bd, (t_wi _ _ _).1, (t_wi _ _ _).2, Option.bind_some, e23, e18, ← hu]
  rcases t_rng (a := a1) (hi := 4) (by omega) with ⟨x, hx, rfl⟩ | hc
  · rw [if_pos (show ¬ nI x < 0 ∧ ¬ 4 < nI x from t_rng1 (hi := 4) (by omega) hx), if_neg z10, if_neg z10]
    by_cases hw : I 0 5 = -9
    · rw [if_pos hw, if_pos hw, t5, t6]
      by_cases hs : sc = 200
      · rw [if_neg (show ¬ nI sc < 200 from nI_nlt (b := 200) (by omega) (by omega)), if_pos (show nI sc = 200 by rw [hs]; rfl)]
        exact ⟨_, _, _, _, _, rfl, rfl, hr⟩
      · rw [if_pos (show nI sc < 200 from nI_lt (b := 200) (by omega) (by omega)), if_neg (show ¬ nI sc = 200 from fun q => by
          have q : nI sc = nI 200 := q
          rw [t_eq (by omega) (by omega)] at q; omega), gd_in (show sc < 200 by omega) (by omega), gd_in (show sc < 200 by omega) (by omega), t_cl (show sc < 2147483648 by omega), nI_1, up2_s, up2_s]
        refine ⟨_, _, _, _, _, rfl, rfl, Rel_Q2 h hw (fun j k q => up2_j q) (fun j m q => up2_j (by omega)) (fun k q => by rw [up2_k (by omega), up2_k (by omega)]) (fun j m q => up2_j (by omega)) (z' := z) (sc' := sc + 1) ⟨⟨by rw [up2_k (by decide)]; exact t1, by rw [up2_k (by decide), up2_k (by decide)]; exact t2, t3, t4, up2_s _ _ _ _, up2_s _ _ _ _, by omega, fun i hi => ?_⟩, fun y hy => ?_⟩⟩
        · by_cases hi2 : i = sc
          · subst hi2; rw [up2_s, up2_s]; exact ⟨rfl, x, by omega, rfl⟩
          · rw [up2_k hi2, up2_k hi2]; exact t8 i (by omega)
        · have := q2 y hy
          unfold THt at this ⊢
          rw [up2_j (show (3 : Nat) ≠ 4 by decide), up2_j (show (330 : Nat) ≠ 331 by decide), up2_j (show 2 + 3 ≠ 4 by decide), up2_j (show 2 + 4 ≠ 4 by decide), up2_j (show 2 + 5 ≠ 4 by decide), up2_j (show (334 : Nat) ≠ 331 by decide), up2_j (show (332 : Nat) ≠ 331 by decide), up2_j (show (333 : Nat) ≠ 331 by decide)]
          exact this
    · rw [if_neg hw, if_neg hw]
      exact ⟨_, _, _, _, _, rfl, rfl, hr⟩
  · rw [if_neg (show ¬ (¬ a1 < 0 ∧ ¬ 4 < a1) from hc), if_pos rfl, if_pos rfl]
    exact ⟨_, _, _, _, _, rfl, rfl, hr⟩
theorem k_fail (a1 a2 : Int32) (h : Rel n I G A L J R) : ∃ r A' J' R', f_X6_fail I A a1 a2 = some (r, A') ∧ f_X7_fail J R a1 a2 = some (r, J', R') ∧ Rel (n + 1) I G A' L J' R' := by
  have hr := Rel_J0 h
  have hu := Rel_u h
  have e23 : up2 J 318 0 0 318 23 = J 318 23 := up0 (by decide)
  have e15 : up2 J 318 0 0 318 15 = J 318 15 := up0 (by decide)
  obtain ⟨np, z, sc, q1, ⟨⟨t1, t2, t3, t4, t5, t6, t7, t8⟩, q2⟩, q3⟩ := id h
  unfold f_X6_fail f_X7_fail
  simp only [bd, (t_wi _ _ _).1, (t_wi _ _ _).2, Option.bind_some, e23, e15, ← hu, t1, t2]
  rw [nI_s1 (show 0 < z by omega)]
  rcases t_rng (a := a1) (hi := z - 1) (by omega) with ⟨x, hx, rfl⟩ | hc
  · rw [if_pos (show ¬ nI x < 0 ∧ ¬ nI (z - 1) < nI x from t_rng1 (by omega) hx), if_neg z10, if_neg z10]
    rcases t_rng (a := a2) (hi := 200) (by omega) with ⟨y, hy, rfl⟩ | hc
    · rw [if_pos (show ¬ nI y < 0 ∧ ¬ 200 < nI y from t_rng1 (hi := 200) (by omega) hy), if_neg z10, if_neg z10]
      by_cases hw : I 0 5 = -9
      · rw [if_pos hw, if_pos hw, gd_in (show x < 5 by omega) (by omega), gd_in (show x < 5 by omega) (by omega), t_cl (show x < 2147483648 by omega)]
        refine ⟨_, _, _, _, rfl, rfl, Rel_Q2 h hw (fun _ _ _ => rfl) (fun j m q => up2_j (by omega)) (fun k q => up2_k (by omega)) (fun j m q => up2_j (by omega)) (z' := z) (sc' := sc) ⟨⟨t1, by rw [up2_k (by decide)]; exact t2, t3, t4, t5, by rw [up2_k (by decide)]; exact t6, t7, fun i hi => by rw [up2_j (by decide), up2_j (by decide)]; exact t8 i hi⟩, fun u hu => ?_⟩⟩
        have := q2 u hu
        unfold THt at this ⊢
        rw [up2_j (show 2 + 3 ≠ 3 by decide), up2_j (show 2 + 4 ≠ 3 by decide), up2_j (show 2 + 5 ≠ 3 by decide), up2_j (show (334 : Nat) ≠ 330 by decide), up2_j (show (332 : Nat) ≠ 330 by decide), up2_j (show (333 : Nat) ≠ 330 by decide)]
        refine ⟨?_, this.2⟩
        by_cases hux : u = x
        · subst hux; rw [up2_s, up2_s]; exact ⟨rfl, y, hy, rfl⟩
        · rw [up2_k hux, up2_k hux]; exact this.1
      · rw [if_neg hw, if_neg hw]
        exact ⟨_, _, _, _, rfl, rfl, hr⟩
    · rw [if_neg (show ¬ (¬ a2 < 0 ∧ ¬ 200 < a2) from hc), if_pos rfl, if_pos rfl]
      exact ⟨_, _, _, _, rfl, rfl, hr⟩
  · rw [if_neg hc, if_pos rfl, if_pos rfl]
    exact ⟨_, _, _, _, rfl, rfl, hr⟩
def fl0 (R : Nat → Nat → Int32) (i : Nat) : Nat → Nat → Int32 := fun j m => if j = 330 ∧ m < i then 0 else R j m
theorem r_help_L {k11 : Int32 → (Nat → Nat → Int32) → Option (Int32 × (Nat → Nat → Int32) × (Nat → Nat → Int32))} {v : Int32} : ∀ (k i fu : Nat), i + k = 5 → k < fu → f_X7_helpers_L40 J k11 fu (nI i) v (fl0 R i) = k11 v (fl0 R 5) := by
  intro k
  induction k with
  | zero =>
    intro i fu hi hf
    obtain ⟨fu, rfl⟩ : ∃ z, fu = z + 1 := ⟨fu - 1, by omega⟩
    obtain rfl : i = 5 := by omega
    rw [f_X7_helpers_L40, if_neg (by decide)]
  | succ k ih =>
    intro i fu hi hf
    obtain ⟨fu, rfl⟩ : ∃ z, fu = z + 1 := ⟨fu - 1, by omega⟩
    have e2 : up2 (fl0 R i) 330 i 0 = fl0 R (i + 1) := by
      funext j m
      unfold up2 fl0
      by_cases h : j = 330 ∧ m = i
      · rw [if_pos h, if_pos ⟨h.1, by omega⟩]
      · rw [if_neg h]
        by_cases h2 : j = 330 ∧ m < i
        · rw [if_pos h2, if_pos ⟨h2.1, by omega⟩]
        · rw [if_neg h2, if_neg (fun q => by
            rcases Nat.lt_or_ge m i with r | r
            · exact h2 ⟨q.1, r⟩
            · exact h ⟨q.1, by omega⟩)]
    rw [f_X7_helpers_L40, if_pos (show nI i < 5 from nI_lt (b := 5) (by omega) (by omega))]
    simp (disch := omega) only [bd, gd_in, t_cl, e2, nI_1]
    exact ih (i + 1) fu (by omega) (by omega)
theorem k_helpers (a1 : Int32) (h : Rel n I G A L J R) : ∃ r I' A' J' R', f_X6_helpers I A a1 = some (r, I', A') ∧ f_X7_helpers J R a1 = some (r, J', R') ∧ Rel (n + 1) I' G A' L J' R' := by
  have hr := Rel_J0 h
  have hu := Rel_u h
  have e23 : up2 J 318 0 0 318 23 = J 318 23 := up0 (by decide)
  have e15 : up2 J 318 0 0 318 15 = J 318 15 := up0 (by decide)
  obtain ⟨np, z, sc, q1, ⟨⟨t1, t2, t3, t4, t5, t6, t7, t8⟩, q2⟩, q3⟩ := id h
  have hfill : ∀ F : Nat → Nat → Int32, f_J7_fill_53178 F (2 + 1) 0 = some (fil F 3 5 0) := fun F => t_fill (j := 3) (n := 5) ⟨by decide, by decide, by decide⟩ (by omega) (by omega)
  unfold f_X6_helpers f_X7_helpers
  simp only [bd, (t_wi _ _ _).1, (t_wi _ _ _).2, Option.bind_some, e23, e15, ← hu]
  by_cases hc : ¬ a1 < 1 ∧ ¬ 5 < a1
  · rw [if_pos hc, if_neg z10, if_neg z10]
    have hx : ∃ x, 1 ≤ x ∧ x ≤ 5 ∧ a1 = nI x := by
      have h0 : ¬ a1 < 0 := fun q => hc.1 (Int32.lt_trans q (by decide))
      obtain ⟨x, h1, h2⟩ := nI_of2 (M := 5) (n := 5) (by decide) h0 (Int32.not_lt.mp hc.2)
      refine ⟨x, ?_, h1, h2⟩
      rcases Nat.eq_zero_or_pos x with r | r
      · exfalso; rw [h2, r] at hc; exact hc.1 (by decide)
      · exact r
    obtain ⟨x, x1, x5, rfl⟩ := hx
    by_cases hw : I 0 5 = -9
    · rw [if_pos hw, if_pos hw]
      have hb : f_X4_become I A 2 (nI x) = some (up2 I 2 0 (nI x), fil A 3 5 0) := by
        unfold f_X4_become
        rw [gd_t (show 2 < 318 ∧ kd 2 = 4 by decide)]
        simp only [bd]
        rw [hfill, Option.bind_some]
      have e0 : fl0 R 0 = R := by funext j m; unfold fl0; rw [if_neg (fun q => by omega)]
      have hL := r_help_L (J := up2 (up2 J 318 0 0) 318 15 (nI x)) (R := R) (k11 := fun v12 A13 => some (v12, up2 (up2 J 318 0 0) 318 15 (nI x), A13)) (v := J 318 15) 5 0 FU (by omega) (t_fu _ (by omega))
      rw [e0] at hL
      have hf3 : ∀ y, y < 5 → fil A 3 5 0 3 y = 0 := fun y hy => by unfold fil; rw [if_pos ⟨rfl, hy⟩]
      have hf0 : ∀ y, y < 5 → fl0 R 5 330 y = 0 := fun y hy => by unfold fl0; rw [if_pos ⟨rfl, hy⟩]
      have hfo : ∀ j m, j ≠ 330 → fl0 R 5 j m = R j m := fun j m q => by unfold fl0; rw [if_neg (fun r => q r.1)]
      refine ⟨nI z, up2 I 2 0 (nI x), fil A 3 5 0, up2 (up2 J 318 0 0) 318 15 (nI x), fl0 R 5, by rw [hb, Option.bind_some, t1], by rw [t2] at hL ⊢; exact hL, Rel_Q2 h hw (fun j k q => up2_j q) (fun j m q => fil_j (by omega)) (fun k q => by rw [up2_k (by omega), up2_k (by omega)]) (fun j m q => hfo j m (by omega)) (z' := x) (sc' := sc) ⟨⟨up2_s _ _ _ _, up2_s _ _ _ _, x1, x5, by rw [up2_k (by decide)]; exact t5, by rw [up2_k (by decide), up2_k (by decide)]; exact t6, t7, fun i hi => by rw [fil_j (by decide), hfo _ _ (by decide)]; exact t8 i hi⟩, fun y hy => ?_⟩⟩
      have := q2 y hy
      unfold THt at this ⊢
      rw [hf3 y hy, hf0 y hy, fil_j (by decide), fil_j (by decide), fil_j (by decide), hfo _ _ (by decide), hfo _ _ (by decide), hfo _ _ (by decide)]
      exact ⟨⟨rfl, 0, by omega, rfl⟩, this.2⟩
    · rw [if_neg hw, if_neg hw]
      exact ⟨_, _, _, _, _, rfl, rfl, hr⟩
  · rw [if_neg hc, if_pos rfl, if_pos rfl]
    exact ⟨_, _, _, _, _, rfl, rfl, hr⟩
theorem k_helper (a1 a2 : Int32) (h : Rel n I G A L J R) : ∃ r J', f_X6_helper A a1 a2 = some r ∧ f_X7_helper J R a1 a2 = some (r, J') ∧ Rel (n + 1) I G A L J' R := by
  have hr := Rel_J0 h
  obtain ⟨np, z, sc, q1, ⟨_, q2⟩, q3⟩ := id h
  unfold f_X6_helper f_X7_helper
  simp only [bd, (t_wi _ _ _).1, (t_wi _ _ _).2, Option.bind_some]
  rcases t_rng (a := a1) (hi := 4) (by omega) with ⟨x, hx, rfl⟩ | hc
  · rw [if_pos (show ¬ nI x < 0 ∧ ¬ 4 < nI x from t_rng1 (hi := 4) (by omega) hx), if_neg z10, if_neg z10]
    obtain ⟨_, c1, c2, c3⟩ := q2 x (by omega)
    simp (disch := omega) only [gd_in, t_cl]
    have c1 : A 5 x = R 334 x := c1
    have c2 : A 6 x = R 332 x := c2
    have c3 : A 7 x = R 333 x := c3
    rw [c1, c2, c3]
    rcases t_rng (a := a2) (hi := 2) (by omega) with ⟨y, hy, rfl⟩ | hc
    · rw [if_pos (show ¬ nI y < 0 ∧ ¬ 2 < nI y from t_rng1 (hi := 2) (by omega) hy), if_neg z10]
      obtain rfl | rfl | rfl : y = 0 ∨ y = 1 ∨ y = 2 := by omega
      · rw [if_pos (show nI 0 = 0 from rfl), if_pos (show nI 0 = 0 from rfl)]; exact ⟨_, _, rfl, rfl, hr⟩
      · rw [if_neg (show ¬ nI 1 = 0 by decide), if_pos (show nI 1 = 1 from rfl), if_neg (show ¬ nI 1 = 0 by decide), if_pos (show nI 1 = 1 from rfl)]; exact ⟨_, _, rfl, rfl, hr⟩
      · rw [if_neg (show ¬ nI 2 = 0 by decide), if_neg (show ¬ nI 2 = 1 by decide), if_pos (show nI 2 = 2 from rfl), if_neg (show ¬ nI 2 = 0 by decide), if_neg (show ¬ nI 2 = 1 by decide)]; exact ⟨_, _, rfl, rfl, hr⟩
    · have hc : ¬ (¬ a2 < 0 ∧ ¬ 2 < a2) := hc
      rw [if_neg (fun q => hc (by rw [q]; decide)), if_neg (fun q => hc (by rw [q]; decide)), if_neg (fun q => hc (by rw [q]; decide)), if_neg hc, if_pos rfl]
      exact ⟨_, _, rfl, rfl, hr⟩
  · rw [if_neg (show ¬ (¬ a1 < 0 ∧ ¬ 4 < a1) from hc), if_pos rfl, if_pos rfl]
    exact ⟨_, _, rfl, rfl, hr⟩
end CB
