/-! THE TIE: rules, numbers, variables -/
theorem up2_n {α : Type} {F : Nat → Nat → α} {j k a b : Nat} {v : α} (h : ¬ (a = j ∧ b = k)) : up2 F j k v a b = F a b := by unfold up2; rw [if_neg h]
section CG
variable {I A : Nat → Nat → Int32} {G : Nat → Nat → Nat} {L : Nat → Nat → Int64} {J R I' A' J' R' : Nat → Nat → Int32} {n p nv nr : Nat}
theorem TPr_ru {r0 nr' : Nat} (h : TPr I A R p (58 + 52 * p) nv nr) (hr0 : r0 < 8) (hnr : nr' ≤ 8)
    (hI : ∀ j k, 58 ≤ j → ¬ (j = 58 + 52 * p ∧ (k = 1 ∨ k = 2 ∨ k = 3)) → ¬ (j = 58 + 52 * p + 12 + 5 * r0 ∧ (k = 0 ∨ k = 1)) → I' j k = I j k)
    (h1 : I' (58 + 52 * p) 1 = nI nr') (h2 : R' 320 p = nI nr') (h3 : R' 324 (8 * p + r0) = I' (58 + 52 * p + 12 + 5 * r0) 0) (h4 : R' 325 (8 * p + r0) = I' (58 + 52 * p + 12 + 5 * r0) 1) (h5 : ∃ k, k ≤ 7 ∧ I' (58 + 52 * p + 12 + 5 * r0) 0 = nI k)
    (hR : ∀ j m, 319 ≤ j → j ≤ 328 → ¬ (j = 320 ∧ m = p) → ¬ ((j = 324 ∨ j = 325) ∧ m = 8 * p + r0) → R' j m = R j m) : TPr I' A R' p (58 + 52 * p) nv nr' := by
  obtain ⟨hp, hB, hw, k1, k2, k3, k4, k5⟩ := h
  have en : ∀ r, nP I' (58 + 52 * p + 12 + 5 * r) = nP I (58 + 52 * p + 12 + 5 * r) := fun r => by unfold nP; rw [hI _ _ (by omega) (by omega) (by omega)]
  refine ⟨hp, hB, ⟨hw.1, hnr, by rw [hI _ _ (by omega) (by omega) (by omega)]; exact hw.2.2.1, h1, hw.2.2.2.2.1, fun r hr => ?_⟩, by rw [hR _ _ (by omega) (by omega) (by omega) (by omega)]; exact k1, h2, fun m hm => by rw [hR _ _ (by omega) (by omega) (by omega) (by omega)]; exact k3 m hm, fun x k hx hk => by rw [hR _ _ (by omega) (by omega) (by omega) (by omega)]; exact k4 x k hx hk, fun r hr => ?_⟩
  · have w := hw.2.2.2.2.2 r hr
    rw [en r]
    exact ⟨w.1, by rw [hI _ _ (by omega) (by omega) (by omega)]; exact w.2.1, w.2.2⟩
  · obtain ⟨⟨a1, a2, a3, a4⟩, b, c, d, k, k7, ek⟩ := k5 r hr
    unfold TRl
    rw [en r]
    by_cases e : r = r0
    · subst e
      exact ⟨⟨h3, h4, by rw [hR _ _ (by omega) (by omega) (by omega) (by omega), hI _ _ (by omega) (by omega) (by omega)]; exact a3, fun k hk => by rw [hR _ _ (by omega) (by omega) (by omega) (by omega), hR _ _ (by omega) (by omega) (by omega) (by omega)]; exact a4 k hk⟩, b, c, d, h5⟩
    · exact ⟨⟨by rw [hR _ _ (by omega) (by omega) (by omega) (by omega), hI _ _ (by omega) (by omega) (by omega)]; exact a1, by rw [hR _ _ (by omega) (by omega) (by omega) (by omega), hI _ _ (by omega) (by omega) (by omega)]; exact a2, by rw [hR _ _ (by omega) (by omega) (by omega) (by omega), hI _ _ (by omega) (by omega) (by omega)]; exact a3, fun k hk => by rw [hR _ _ (by omega) (by omega) (by omega) (by omega), hR _ _ (by omega) (by omega) (by omega) (by omega)]; exact a4 k hk⟩, b, c, d, k, k7, by rw [hI _ _ (by omega) (by omega) (by omega)]; exact ek⟩
theorem TPr_var {s : Nat} (h : TPr I A R p (58 + 52 * p) nv nr) (hs1 : 1 ≤ s) (hs6 : s ≤ 6) (hv : nv < 6)
    (hI : ∀ j k, 58 ≤ j → ¬ (j = 58 + 52 * p ∧ (k = 0 ∨ k = 2 ∨ k = 3)) → I' j k = I j k) (h1 : I' (58 + 52 * p) 0 = nI (nv + 1)) (h2 : R' 319 p = nI (nv + 1))
    (hA : ∀ j m, ¬ ((j = 58 + 52 * p + 1 ∨ j = 58 + 52 * p + 2) ∧ m = nv) → A' j m = A j m) (h3 : A' (58 + 52 * p + 1) nv = nI s) (h4 : R' 321 (6 * p + nv) = nI s)
    (hR : ∀ j m, 319 ≤ j → j ≤ 328 → ¬ (j = 319 ∧ m = p) → ¬ ((j = 321 ∨ j = 322) ∧ m = 6 * p + nv) → R' j m = R j m) : TPr I' A' R' p (58 + 52 * p) (nv + 1) nr := by
  obtain ⟨hp, hB, hw, k1, k2, k3, k4, k5⟩ := h
  have en : ∀ r, nP I' (58 + 52 * p + 12 + 5 * r) = nP I (58 + 52 * p + 12 + 5 * r) := fun r => by unfold nP; rw [hI _ _ (by omega) (by omega)]
  refine ⟨hp, hB, ⟨by omega, hw.2.1, h1, by rw [hI _ _ (by omega) (by omega)]; exact hw.2.2.2.1, fun x hx => ?_, fun r hr => ?_⟩, h2, by rw [hR _ _ (by omega) (by omega) (by omega) (by omega)]; exact k2, fun m hm => ?_, fun x k hx hk => by rw [hR _ _ (by omega) (by omega) (by omega) (by omega), hA _ _ (by omega)]; exact k4 x k hx hk, fun r hr => ?_⟩
  · by_cases e : x = nv
    · subst e
      exact ⟨s, hs1, hs6, h3⟩
    · rw [hA _ _ (by omega)]
      exact hw.2.2.2.2.1 x (by omega)
  · have w := hw.2.2.2.2.2 r hr
    rw [en r]
    exact ⟨w.1, by rw [hI _ _ (by omega) (by omega)]; exact w.2.1, fun i hi => by rw [hA _ _ (by omega)]; exact w.2.2 i hi⟩
  · by_cases e : m = nv
    · subst e
      rw [h3, h4]
    · rw [hA _ _ (by omega), hR _ _ (by omega) (by omega) (by omega) (by omega)]
      exact k3 m hm
  · obtain ⟨⟨a1, a2, a3, a4⟩, b, c, d, k, k7, ek⟩ := k5 r hr
    unfold TRl
    rw [en r]
    refine ⟨⟨by rw [hR _ _ (by omega) (by omega) (by omega) (by omega), hI _ _ (by omega) (by omega)]; exact a1, by rw [hR _ _ (by omega) (by omega) (by omega) (by omega), hI _ _ (by omega) (by omega)]; exact a2, by rw [hR _ _ (by omega) (by omega) (by omega) (by omega), hI _ _ (by omega) (by omega)]; exact a3, fun k hk => by rw [hR _ _ (by omega) (by omega) (by omega) (by omega), hR _ _ (by omega) (by omega) (by omega) (by omega), hA _ _ (by omega), hA _ _ (by omega)]; exact a4 k hk⟩, fun k hk => by rw [hA _ _ (by omega)]; exact b k hk, fun i hi => ?_, fun x hx => ?_, k, k7, by rw [hI _ _ (by omega) (by omega)]; exact ek⟩
    · rw [hA (58 + 52 * p + 12 + 5 * r + 1) _ (by omega)]
      by_cases e : (A (58 + 52 * p + 12 + 5 * r + 1) i).toNatClampNeg = nv
      · rw [e]
        exact ⟨s, hs1, hs6, h3⟩
      · rw [hA _ _ (by omega)]
        exact c i hi
    · rw [hA _ _ (by omega), hA (58 + 52 * p + 12 + 5 * r + 4) _ (by omega)]
      simp only [fun m => hA (58 + 52 * p + 12 + 5 * r + 1) m (by omega), fun m => hA (58 + 52 * p + 12 + 5 * r + 2) m (by omega)]
      exact d x hx
theorem t_chg (hp : p < 5) : f_X7_changes J R (nI p) = some (up2 J 318 14 (J 318 14 + 1), up2 (up2 (up2 R 329 p (J 318 14 + 1)) 351 p 0) 352 p 0) := by
  unfold f_X7_changes
  simp (disch := omega) only [bd, gd_in, t_cl, up2_s]
  rfl
theorem t_cng (hp : p < 5) : f_X1_change I (58 + 52 * p) = some (up2 (up2 I (58 + 52 * p) 2 (I (58 + 52 * p) 2 + 1)) (58 + 52 * p) 3 0) := by
  unfold f_X1_change
  rw [gd_t (pq_all p hp).1]
  rfl
theorem t_rn (a : Int32) : f_X6_isRuleNumber a = f_X7_in a (-1000) 1000 := by
  unfold f_X6_isRuleNumber
  rw [(t_wi _ _ _).1, (t_wi _ _ _).2, Option.bind_some]
  by_cases h : ¬ a < -1000 ∧ ¬ 1000 < a
  · rw [if_pos h]; exact gd_t (Or.inr rfl)
  · rw [if_neg h]; exact gd_t (Or.inl rfl)
theorem k_number (a1 a2 a3 : Int32) (h : Rel n I G A L J R) (hn : n < 1073741000) : ∃ r I' J' R', f_X6_number I a1 a2 a3 = some (r, I') ∧ f_X7_number J R a1 a2 a3 = some (r, J', R') ∧ Rel (n + 1) I' G A L J' R' := by
  have hu := Rel_u h
  obtain ⟨np, z, sc, ⟨p1, p2, p3, p4⟩, _⟩ := id h
  have hno : ∀ w : Int32, Rel (n + 1) (up2 I 0 17 w) G A L (up2 (up2 (up2 J 318 0 0) 318 1 0) 318 1 w) R := fun w => Rel_st h (up2_s _ _ _ _) (fun k q => by rw [up2_k (by omega), up2_k (by omega), up2_k (by omega)])
  have e2' : up2 (up2 J 318 0 0) 318 1 0 318 2 = nI np := by rw [up2_k (by decide), up2_k (by decide)]; exact p3
  have e23 : up2 (up2 J 318 0 0) 318 1 0 318 23 = I 0 5 := by rw [up2_k (by decide), up2_k (by decide)]; exact hu.symm
  unfold f_X6_number f_X7_number f_X6_refuse f_X6_grant f_X7_no
  simp only [bd, Option.bind_some, t_rn, (t_wi _ _ _).2, e23]
  rcases t_isP (a := a1) (I := I) (J := up2 (up2 J 318 0 0) 318 1 0) p2 e2' p1 with ⟨p, hp, rfl, e1, e2⟩ | ⟨e1, e2⟩
  · rw [e1, Option.bind_some, if_neg z10]
    obtain ⟨g0, g1, g2, g3, g10, g11, l1, l2, l3, l10, l11⟩ := pq_all p (by omega)
    obtain ⟨⟨nv, nr, hP⟩, hK, hC⟩ := p4 p (by omega)
    have hnr := hP.2.2.1.2.1
    simp (disch := omega) only [gd_in, t_cl, gd_t g0]
    rcases t_isRu (a := a2) hP e2 with ⟨x, x1, rfl, v1, v2⟩ | ⟨v1, v2⟩
    · rw [v1, v2, Option.bind_some, Option.bind_some, if_neg z10, if_neg z10]
      by_cases hc : ¬ a3 < -1000 ∧ ¬ 1000 < a3
      · rw [if_pos hc, if_neg z10, if_neg z10]
        by_cases hw : I 0 5 = -9
        · rw [if_pos hw, if_pos hw]
          obtain ⟨gr, _⟩ := pq_ru p (by omega) x (by omega)
          obtain ⟨⟨u0, u1, u2, u3⟩, _, _, _, ku⟩ := hP.2.2.2.2.2.2.2 x (by omega)
          unfold f_X1_setNumber
          simp (disch := omega) only [t_cng, t_chg, Option.bind_some, gd_t g0, gd_t g10, gd_t gr, l10, gd_in, t_cl, bd, m8]
          rw [up2_j (show 58 + 52 * p + 12 + 5 * x ≠ 58 + 52 * p by omega), up2_j (show 58 + 52 * p + 12 + 5 * x ≠ 58 + 52 * p by omega), u1]
          refine ⟨_, _, _, _, rfl, rfl, Rel_P (nv' := nv) (nr' := nr) h hn (by omega) hw (fun j k q1 q2 => ?_) ?_ ?_ (fun _ _ _ => rfl) (fun k q => ?_) ?_ (fun j m q => ?_) ?_ ?_ (up2_s _ _ _ _) (fun q j m hq hne hm => ?_) ?_ (TPr_ru hP (r0 := x) (by omega) hnr (fun j k q1 q2 q3 => ?_) ?_ ?_ ?_ ?_ ?_ (fun j m q1 q2 q3 q4 => ?_)) (fun v hv => ?_) (fun r hr => ?_) (fun nv2 q1 q2 => ?_)⟩
          · rw [up2_n q2, up2_n (by omega), up2_n (by omega), up2_n (by omega)]
          · rw [up2_n (by omega), up2_n (by omega), up2_n (by omega), up2_s]
          · rw [up2_n (by omega), up2_n (by omega), up2_s]
          · rw [up2_n (by omega), up2_n (by omega), up2_n (by omega)]
          · rw [up2_s, up2_n (by omega), up2_n (by omega)]
          · rw [up2_n (by omega), up2_n (by omega), up2_n (by omega), up2_n (by omega)]
          · rw [up2_n (by omega), up2_n (by omega), up2_s, up2_n (by omega), up2_n (by omega)]
          · rw [up2_n (by omega), up2_s]
          · unfold RPw at hm
            rw [up2_n (by omega), up2_n (by omega), up2_n (by omega), up2_n (by omega)]
          · rw [up2_s, up2_n (by omega), up2_s]
          · rw [up2_n (by omega), up2_n (by omega), up2_n (by omega), up2_n (by omega)]
          · rw [up2_n (by omega), up2_n (by omega), up2_n (by omega), up2_n (by omega)]; exact hP.2.2.1.2.2.2.1
          · rw [up2_n (by omega), up2_n (by omega), up2_n (by omega), up2_n (by omega)]; exact hP.2.2.2.2.1
          · rw [up2_n (by omega), up2_n (by omega), up2_n (by omega), up2_n (by omega), up2_n (by omega), up2_n (by omega), up2_n (by omega), up2_n (by omega)]; exact u0
          · rw [up2_n (by omega), up2_n (by omega), up2_n (by omega), up2_s, up2_n (by omega), up2_s]
          · rw [up2_n (by omega), up2_n (by omega), up2_n (by omega), up2_n (by omega)]; exact ku
          · rw [up2_n (by omega), up2_n (by omega), up2_n (by omega), up2_n (by omega)]
          · rw [up2_n (by omega), up2_n (by omega), up2_n (by omega), up2_n (by omega)]; exact hK v hv
          · unfold nP
            rw [up2_n (by omega), up2_n (by omega), up2_n (by omega), up2_n (by omega)]; exact hC r hr
          · have := (t_eq (by omega) (by have := hP.2.2.1.1; omega)).mp (q1.symm.trans hP.2.2.1.2.2.1)
            exact ⟨by omega, fun _ _ => rfl⟩
        · rw [if_neg hw, if_neg hw]
          exact ⟨_, _, _, _, rfl, rfl, hno _⟩
      · rw [if_neg hc, if_pos rfl, if_pos rfl]
        exact ⟨_, _, _, _, rfl, rfl, hno _⟩
    · rw [v1, v2]
      exact ⟨_, _, _, _, rfl, rfl, hno _⟩
  · unfold f_X7_isRule
    rw [e1, e2]
    exact ⟨_, _, _, _, rfl, rfl, hno _⟩
theorem k_rule (a1 a2 a3 : Int32) (h : Rel n I G A L J R) (hn : n < 1073741000) : ∃ r I' J' R', f_X6_rule I a1 a2 a3 = some (r, I') ∧ f_X7_rule J R a1 a2 a3 = some (r, J', R') ∧ Rel (n + 1) I' G A L J' R' := by
  have hr := Rel_J0 h
  have hu := Rel_u h
  obtain ⟨np, z, sc, ⟨p1, p2, p3, p4⟩, q2, q3, q4, q5c, q5, q6, q7, _⟩ := id h
  have e2' : up2 J 318 0 0 318 2 = nI np := by rw [up2_k (by decide)]; exact p3
  have e23 : up2 J 318 0 0 318 23 = I 0 5 := by rw [up2_k (by decide)]; exact hu.symm
  unfold f_X6_rule f_X7_rule
  simp only [bd, Option.bind_some, t_rn, (t_wi _ _ _).1, (t_wi _ _ _).2, e23]
  rcases t_isP (a := a1) (I := I) (J := up2 J 318 0 0) p2 e2' p1 with ⟨p, hp, rfl, e1, e2⟩ | ⟨e1, e2⟩
  · rw [e1, e2, Option.bind_some, Option.bind_some, if_neg z10, if_neg z10]
    obtain ⟨g0, g1, g2, g3, g10, g11, l1, l2, l3, l10, l11⟩ := pq_all p (by omega)
    obtain ⟨⟨nv, nr, hP⟩, hK, hC⟩ := p4 p (by omega)
    have hnr := hP.2.2.1.2.1
    have hB1 := hP.2.2.1.2.2.2.1
    simp (disch := omega) only [gd_in, t_cl, gd_t g0, hB1, hP.2.2.2.2.1, m8]
    rcases t_rng (a := a2) (hi := 7) (by omega) with ⟨x, hx, rfl⟩ | hc
    · rw [if_pos (show ¬ nI x < 0 ∧ ¬ 7 < nI x from t_rng1 (hi := 7) (by omega) hx), if_neg z10, if_neg z10]
      by_cases hc : ¬ a3 < -1000 ∧ ¬ 1000 < a3
      · rw [if_pos hc, if_neg z10, if_neg z10]
        by_cases hw : I 0 5 = -9
        · rw [if_pos hw, if_pos hw]
          by_cases h8 : nr = 8
          · subst h8
            rw [if_neg (show ¬ nI 8 < 8 by decide), if_pos (show nI 8 = 8 from rfl)]
            exact ⟨_, _, _, _, rfl, rfl, hr⟩
          · rw [if_pos (show nI nr < 8 from nI_lt (b := 8) (by omega) (by omega)), if_neg (show ¬ nI nr = 8 from fun q => h8 ((t_eq (b := 8) (by omega) (by omega)).mp q))]
            obtain ⟨gr, _⟩ := pq_ru p (by omega) nr (by omega)
            have eJ1 : ∀ (a b : Int32), up2 (up2 R 324 (8 * p + nr) a) 325 (8 * p + nr) b 320 p = nI nr := fun a b => by rw [up2_n (by omega), up2_n (by omega)]; exact hP.2.2.2.2.1
            have eI1 : ∀ (a b : Int32), up2 (up2 I (58 + 52 * p) 2 a) (58 + 52 * p) 3 b (58 + 52 * p) 1 = nI nr := fun a b => by rw [up2_n (by omega), up2_n (by omega)]; exact hB1
            have eI2 : ∀ (F : Nat → Nat → Int32) (a : Int32) (k : Nat), up2 F (58 + 52 * p + 12 + 5 * nr) k a (58 + 52 * p) 1 = F (58 + 52 * p) 1 := fun F a k => up2_n (by omega)
            unfold f_X1_addRule
            simp (disch := omega) only [t_cng, t_chg, Option.bind_some, gd_t g0, gd_t g10, gd_t gr, l10, gd_in, t_cl, bd, m8, eJ1, eI1, eI2, nI_1]
            refine ⟨_, _, _, _, rfl, rfl, Rel_P (nv' := nv) (nr' := nr + 1) h hn (by omega) hw (fun j k q1 q2 => ?_) ?_ ?_ (fun _ _ _ => rfl) (fun k q => ?_) ?_ (fun j m q => ?_) ?_ ?_ (up2_s _ _ _ _) (fun q j m hq hne hm => ?_) ?_ (TPr_ru hP (r0 := nr) (by omega) (by omega) (fun j k q1 q2 q3 => ?_) ?_ ?_ ?_ ?_ ⟨x, hx, ?_⟩ (fun j m q1 q2 q3 q4 => ?_)) (fun v hv => ?_) (fun r hr => ?_) (fun nv2 q1 q2 => ?_)⟩
            · rw [up2_n (by omega), up2_n (by omega), up2_n (by omega), up2_n (by omega), up2_n (by omega)]
            · rw [up2_n (by omega), up2_n (by omega), up2_n (by omega), up2_n (by omega), up2_s]
            · rw [up2_n (by omega), up2_n (by omega), up2_n (by omega), up2_s]
            · rw [up2_n (by omega), up2_n (by omega)]
            · rw [up2_s, up2_n (by omega)]
            · rw [up2_n (by omega), up2_n (by omega), up2_n (by omega), up2_n (by omega), up2_n (by omega), up2_n (by omega)]
            · rw [up2_n (by omega), up2_n (by omega), up2_s, up2_n (by omega)]
            · rw [up2_n (by omega), up2_s]
            · unfold RPw at hm
              rw [up2_n (by omega), up2_n (by omega), up2_n (by omega), up2_n (by omega), up2_n (by omega), up2_n (by omega)]
            · rw [up2_n (by omega), up2_n (by omega), up2_n (by omega), up2_n (by omega), up2_n (by omega), up2_n (by omega), up2_n (by omega)]; exact q7.1
            · rw [up2_n (by omega), up2_n (by omega), up2_n (by omega), up2_n (by omega), up2_n (by omega)]
            · rw [up2_s]
            · rw [up2_n (by omega), up2_n (by omega), up2_n (by omega), up2_s]
            · rw [up2_n (by omega), up2_n (by omega), up2_n (by omega), up2_n (by omega), up2_n (by omega), up2_s, up2_n (by omega), up2_n (by omega), up2_s]
            · rw [up2_n (by omega), up2_n (by omega), up2_n (by omega), up2_n (by omega), up2_s, up2_n (by omega), up2_s]
            · rw [up2_n (by omega), up2_n (by omega), up2_s]
            · rw [up2_n (by omega), up2_n (by omega), up2_n (by omega), up2_n (by omega), up2_n (by omega), up2_n (by omega)]
            · rw [up2_n (by omega), up2_n (by omega), up2_n (by omega), up2_n (by omega), up2_n (by omega), up2_n (by omega)]; exact hK v hv
            · unfold nP
              rw [up2_n (by omega), up2_n (by omega), up2_n (by omega), up2_n (by omega), up2_n (by omega)]; exact hC r hr
            · have := (t_eq (by omega) (by have := hP.2.2.1.1; omega)).mp (q1.symm.trans hP.2.2.1.2.2.1)
              exact ⟨by omega, fun _ _ => rfl⟩
        · rw [if_neg hw, if_neg hw]
          exact ⟨_, _, _, _, rfl, rfl, hr⟩
      · rw [if_neg hc, if_pos rfl, if_pos rfl]
        exact ⟨_, _, _, _, rfl, rfl, hr⟩
    · rw [if_neg (show ¬ (¬ a2 < 0 ∧ ¬ 7 < a2) from hc), if_pos rfl, if_pos rfl]
      exact ⟨_, _, _, _, rfl, rfl, hr⟩
  · rw [e1, e2]
    exact ⟨_, _, _, _, rfl, rfl, hr⟩
end CG
