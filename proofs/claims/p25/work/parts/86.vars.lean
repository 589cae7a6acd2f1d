/-! THE TIE: variables, costs -/
section CH
variable {I A : Nat → Nat → Int32} {G : Nat → Nat → Nat} {L : Nat → Nat → Int64} {J R I' A' J' R' : Nat → Nat → Int32} {n p nv nr : Nat}
theorem t_16 {a : Int32} (h : ¬ a < 1 ∧ ¬ 6 < a) : ∃ s, 1 ≤ s ∧ s ≤ 6 ∧ a = nI s := by
  have h0 : ¬ a < 0 := fun q => h.1 (Int32.lt_trans q (by decide))
  rcases t_rng (a := a) (hi := 6) (by omega) with ⟨s, s1, rfl⟩ | hc
  · refine ⟨s, ?_, s1, rfl⟩
    rcases Nat.eq_zero_or_pos s with e | e
    · subst e
      exact absurd (show nI 0 < 1 by decide) h.1
    · exact e
  · exact absurd ⟨h0, h.2⟩ hc
theorem k_variable (a1 a2 a3 : Int32) (h : Rel n I G A L J R) (hn : n < 1073741000) : ∃ r I' A' J' R', f_X6_variable I A a1 a2 a3 = some (r, I', A') ∧ f_X7_variable J R a1 a2 a3 = some (r, J', R') ∧ Rel (n + 1) I' G A' L J' R' := by
  have hr := Rel_J0 h
  have hu := Rel_u h
  obtain ⟨np, z, sc, ⟨p1, p2, p3, p4⟩, q2, q3, q4, q5c, q5, q6, q7, _⟩ := id h
  have e2' : up2 J 318 0 0 318 2 = nI np := by rw [up2_k (by decide)]; exact p3
  have e23 : up2 J 318 0 0 318 23 = I 0 5 := by rw [up2_k (by decide)]; exact hu.symm
  unfold f_X6_variable f_X7_variable
  simp only [bd, Option.bind_some, (t_wi _ _ _).1, (t_wi _ _ _).2, e23]
  rcases t_isP (a := a1) (I := I) (J := up2 J 318 0 0) p2 e2' p1 with ⟨p, hp, rfl, e1, e2⟩ | ⟨e1, e2⟩
  · rw [e1, e2, Option.bind_some, Option.bind_some, if_neg z10, if_neg z10]
    obtain ⟨g0, g1, g2, g3, g10, g11, l1, l2, l3, l10, l11⟩ := pq_all p (by omega)
    obtain ⟨⟨nv, nr, hP⟩, hK, hC⟩ := p4 p (by omega)
    have hnv := hP.2.2.1.1
    have hB0 := hP.2.2.1.2.2.1
    simp (disch := omega) only [gd_in, t_cl, gd_t g0, hB0, hP.2.2.2.1, m6]
    by_cases hc : ¬ a2 < 1 ∧ ¬ 6 < a2
    · rw [if_pos hc, if_neg z10, if_neg z10]
      by_cases hc3 : ¬ a3 < 0 ∧ ¬ 3 < a3
      · rw [if_pos hc3, if_neg z10, if_neg z10]
        by_cases hw : I 0 5 = -9
        · rw [if_pos hw, if_pos hw]
          by_cases h6 : nv = 6
          · subst h6
            rw [if_neg (show ¬ nI 6 < 6 by decide), if_pos (show nI 6 = 6 from rfl)]
            exact ⟨_, _, _, _, _, rfl, rfl, hr⟩
          · rw [if_pos (show nI nv < 6 from nI_lt (b := 6) (by omega) (by omega)), if_neg (show ¬ nI nv = 6 from fun q => h6 ((t_eq (b := 6) (by omega) (by omega)).mp q))]
            obtain ⟨s, s1, s6, rfl⟩ := t_16 hc
            have eJ1 : ∀ (a b : Int32), up2 (up2 R 321 (6 * p + nv) a) 322 (6 * p + nv) b 319 p = nI nv := fun a b => by rw [up2_n (by omega), up2_n (by omega)]; exact hP.2.2.2.1
            have eI1 : ∀ (a b : Int32), up2 (up2 I (58 + 52 * p) 2 a) (58 + 52 * p) 3 b (58 + 52 * p) 0 = nI nv := fun a b => by rw [up2_n (by omega), up2_n (by omega)]; exact hB0
            unfold f_X1_addVariable
            simp (disch := omega) only [t_cng, t_chg, Option.bind_some, gd_t g0, gd_t g1, gd_t g2, l1, l2, gd_in, t_cl, bd, m6, eJ1, eI1, nI_1]
            refine ⟨_, _, _, _, _, rfl, rfl, Rel_P (nv' := nv + 1) (nr' := nr) h hn (by omega) hw (fun j k q1 q2 => ?_) ?_ ?_ (fun j m q => ?_) (fun k q => ?_) ?_ (fun j m q => ?_) ?_ ?_ (up2_s _ _ _ _) (fun q j m hq hne hm => ?_) ?_ (TPr_var hP s1 s6 (by omega) (fun j k q1 q2 => ?_) ?_ ?_ (fun j m q => ?_) ?_ ?_ (fun j m q1 q2 q3 q4 => ?_)) (fun v hv => ?_) (fun r hr => ?_) (fun nv2 q1 q2 => ?_)⟩
            · rw [up2_n (by omega), up2_n (by omega), up2_n (by omega)]
            · rw [up2_n (by omega), up2_n (by omega), up2_s]
            · rw [up2_n (by omega), up2_s]
            · rw [up2_n (by omega), up2_n (by omega)]
            · rw [up2_n (by omega), up2_n (by omega)]
            · rw [up2_s, up2_n (by omega)]
            · rw [up2_n (by omega), up2_n (by omega), up2_n (by omega), up2_n (by omega), up2_n (by omega), up2_n (by omega)]
            · rw [up2_n (by omega), up2_n (by omega), up2_s, up2_n (by omega)]
            · rw [up2_n (by omega), up2_s]
            · unfold RPw at hm
              rw [up2_n (by omega), up2_n (by omega), up2_n (by omega), up2_n (by omega), up2_n (by omega), up2_n (by omega)]
            · rw [up2_n (by omega), up2_n (by omega), up2_n (by omega), up2_n (by omega), up2_n (by omega)]; exact q7.1
            · rw [up2_n (by omega), up2_n (by omega), up2_n (by omega)]
            · rw [up2_s]
            · rw [up2_n (by omega), up2_n (by omega), up2_n (by omega), up2_s]
            · rw [up2_n (by omega), up2_n (by omega)]
            · rw [up2_n (by omega), up2_s]
            · rw [up2_n (by omega), up2_n (by omega), up2_n (by omega), up2_n (by omega), up2_n (by omega), up2_s]
            · rw [up2_n (by omega), up2_n (by omega), up2_n (by omega), up2_n (by omega), up2_n (by omega), up2_n (by omega)]
            · by_cases e : v = nv
              · subst e
                rw [up2_n (by omega), up2_n (by omega), up2_n (by omega), up2_n (by omega), up2_s, up2_s]
              · rw [up2_n (by omega), up2_n (by omega), up2_n (by omega), up2_n (by omega), up2_n (by omega), up2_n (by omega), up2_n (by omega), up2_n (by omega)]; exact hK v hv
            · have ea : ∀ m (x y : Int32), up2 (up2 A (58 + 52 * p + 1) nv x) (58 + 52 * p + 2) nv y (58 + 52 * p + 12 + 5 * r + 3) m = A (58 + 52 * p + 12 + 5 * r + 3) m := fun m x y => by rw [up2_n (by omega), up2_n (by omega)]
              have eb : ∀ (a b c : Int32), up2 (up2 (up2 I (58 + 52 * p) 2 a) (58 + 52 * p) 3 b) (58 + 52 * p) 0 c (58 + 52 * p + 12 + 5 * r) 2 = I (58 + 52 * p + 12 + 5 * r) 2 := fun a b c => by rw [up2_n (by omega), up2_n (by omega), up2_n (by omega)]
              unfold nP npc
              simp only [ea, eb]
              exact hC r hr
            · have := (t_eq (by omega) (by omega)).mp (q1.symm.trans hB0)
              exact ⟨by omega, fun m hm => by rw [up2_n (by omega), up2_n (by omega)]⟩
        · rw [if_neg hw, if_neg hw]
          exact ⟨_, _, _, _, _, rfl, rfl, hr⟩
      · rw [if_neg hc3, if_pos rfl, if_pos rfl]
        exact ⟨_, _, _, _, _, rfl, rfl, hr⟩
    · rw [if_neg hc, if_pos rfl, if_pos rfl]
      exact ⟨_, _, _, _, _, rfl, rfl, hr⟩
  · rw [e1, e2]
    exact ⟨_, _, _, _, _, rfl, rfl, hr⟩
theorem TPr_cost {x y : Nat} (h : TPr I A R p (58 + 52 * p) nv nr) (hx : x < 6) (hy : y < 6)
    (hI : ∀ j k, 58 ≤ j → ¬ (j = 58 + 52 * p ∧ (k = 2 ∨ k = 3)) → I' j k = I j k)
    (hA : ∀ j m, ¬ (j = 58 + 52 * p + 4 + x ∧ m = y) → A' j m = A j m) (h3 : R' 323 (36 * p + 6 * x + y) = A' (58 + 52 * p + 4 + x) y) (h4 : -100000 ≤ (A' (58 + 52 * p + 4 + x) y).toInt ∧ (A' (58 + 52 * p + 4 + x) y).toInt ≤ 100000)
    (hR : ∀ j m, 319 ≤ j → j ≤ 328 → ¬ (j = 323 ∧ m = 36 * p + 6 * x + y) → R' j m = R j m) : TPr I' A' R' p (58 + 52 * p) nv nr := by
  obtain ⟨hp, hB, hw, k1, k2, k3, k4, k5⟩ := h
  have en : ∀ r, nP I' (58 + 52 * p + 12 + 5 * r) = nP I (58 + 52 * p + 12 + 5 * r) := fun r => by unfold nP; rw [hI _ _ (by omega) (by omega)]
  refine ⟨hp, hB, ⟨hw.1, hw.2.1, by rw [hI _ _ (by omega) (by omega)]; exact hw.2.2.1, by rw [hI _ _ (by omega) (by omega)]; exact hw.2.2.2.1, fun x hx => by rw [hA _ _ (by omega)]; exact hw.2.2.2.2.1 x hx, fun r hr => ?_⟩, by rw [hR _ _ (by omega) (by omega) (by omega)]; exact k1, by rw [hR _ _ (by omega) (by omega) (by omega)]; exact k2, fun m hm => by rw [hR _ _ (by omega) (by omega) (by omega), hA _ _ (by omega)]; exact k3 m hm, fun x' k hx' hk => ?_, fun r hr => ?_⟩
  · have w := hw.2.2.2.2.2 r hr
    rw [en r]
    exact ⟨w.1, by rw [hI _ _ (by omega) (by omega)]; exact w.2.1, fun i hi => by rw [hA _ _ (by omega)]; exact w.2.2 i hi⟩
  · by_cases e : x' = x ∧ k = y
    · obtain ⟨e1, e2⟩ := e
      subst e1 e2
      exact ⟨h3, h4⟩
    · rw [hR _ _ (by omega) (by omega) (by omega), hA _ _ (by omega)]
      exact k4 x' k hx' hk
  · obtain ⟨⟨a1, a2, a3, a4⟩, b, c, d, k, k7, ek⟩ := k5 r hr
    unfold TRl
    rw [en r]
    refine ⟨⟨by rw [hR _ _ (by omega) (by omega) (by omega), hI _ _ (by omega) (by omega)]; exact a1, by rw [hR _ _ (by omega) (by omega) (by omega), hI _ _ (by omega) (by omega)]; exact a2, by rw [hR _ _ (by omega) (by omega) (by omega), hI _ _ (by omega) (by omega)]; exact a3, fun k hk => by rw [hR _ _ (by omega) (by omega) (by omega), hR _ _ (by omega) (by omega) (by omega), hA _ _ (by omega), hA _ _ (by omega)]; exact a4 k hk⟩, fun k hk => by rw [hA _ _ (by omega)]; exact b k hk, fun i hi => by rw [hA (58 + 52 * p + 12 + 5 * r + 1) _ (by omega), hA _ _ (by omega)]; exact c i hi, fun x hx => ?_, k, k7, by rw [hI _ _ (by omega) (by omega)]; exact ek⟩
    rw [hA _ _ (by omega), hA (58 + 52 * p + 12 + 5 * r + 4) _ (by omega)]
    simp only [fun m => hA (58 + 52 * p + 12 + 5 * r + 1) m (by omega), fun m => hA (58 + 52 * p + 12 + 5 * r + 2) m (by omega)]
    exact d x hx
theorem t_ch16 (a : Int32) : (a.toUInt32 % 65536).toInt32 = a &&& 65535 := by
  apply Int32.toBitVec_inj.mp
  rw [Int32.toBitVec_and]
  apply BitVec.eq_of_toNat_eq
  rw [BitVec.toNat_and]
  show a.toBitVec.toNat % 65536 = a.toBitVec.toNat &&& 65535
  exact (Nat.and_two_pow_sub_one_eq_mod _ 16).symm
theorem t_ch16b (a : Int32) : -100000 ≤ (a &&& 65535).toInt ∧ (a &&& 65535).toInt ≤ 100000 := by
  have h : (a &&& 65535).toBitVec.toNat < 65536 := by
    rw [Int32.toBitVec_and, BitVec.toNat_and]
    show a.toBitVec.toNat &&& 65535 < 65536
    exact Nat.lt_of_le_of_lt Nat.and_le_right (by decide)
  have e : (a &&& 65535).toInt = ((a &&& 65535).toBitVec.toNat : Int) := by
    show (a &&& 65535).toBitVec.toInt = _
    rw [BitVec.toInt_eq_toNat_of_lt (by omega)]
  omega
theorem t_by8 (a : Int32) : -100000 ≤ (a.toInt8.toInt32).toInt ∧ (a.toInt8.toInt32).toInt ≤ 100000 := by
  rw [Int8.toInt_toInt32]
  have h1 := Int8.le_toInt a.toInt8
  have h2 := Int8.toInt_lt a.toInt8
  omega
theorem t_by16 (a : Int32) : -100000 ≤ (a.toInt16.toInt32).toInt ∧ (a.toInt16.toInt32).toInt ≤ 100000 := by
  rw [Int16.toInt_toInt32]
  have h1 := Int16.le_toInt a.toInt16
  have h2 := Int16.toInt_lt a.toInt16
  omega
theorem k_cost (a1 a2 a3 a4 : Int32) (h : Rel n I G A L J R) (hn : n < 1073741000) : ∃ r I' A' J' R', f_X6_cost I A a1 a2 a3 a4 = some (r, I', A') ∧ f_X7_cost J R a1 a2 a3 a4 = some (r, J', R') ∧ Rel (n + 1) I' G A' L J' R' := by
  have hu := Rel_u h
  obtain ⟨np, z, sc, ⟨p1, p2, p3, p4⟩, _⟩ := id h
  have hno : ∀ w : Int32, Rel (n + 1) (up2 I 0 17 w) G A L (up2 (up2 (up2 J 318 0 0) 318 1 0) 318 1 w) R := fun w => Rel_st h (up2_s _ _ _ _) (fun k q => by rw [up2_k (by omega), up2_k (by omega), up2_k (by omega)])
  have e2' : up2 (up2 J 318 0 0) 318 1 0 318 2 = nI np := by rw [up2_k (by decide), up2_k (by decide)]; exact p3
  have e23 : up2 (up2 J 318 0 0) 318 1 0 318 23 = I 0 5 := by rw [up2_k (by decide), up2_k (by decide)]; exact hu.symm
  unfold f_X6_cost f_X7_cost f_X6_refuse f_X6_grant f_X7_no
  simp only [bd, Option.bind_some, (t_wi _ _ _).1, (t_wi _ _ _).2, e23]
  rcases t_isP (a := a1) (I := I) (J := up2 (up2 J 318 0 0) 318 1 0) p2 e2' p1 with ⟨p, hp, rfl, e1, e2⟩ | ⟨e1, e2⟩
  · rw [e1, Option.bind_some, if_neg z10]
    obtain ⟨g0, g1, g2, g3, g10, g11, l1, l2, l3, l10, l11⟩ := pq_all p (by omega)
    obtain ⟨⟨nv, nr, hP⟩, hK, hC⟩ := p4 p (by omega)
    have hnv := hP.2.2.1.1
    simp (disch := omega) only [gd_in, t_cl, gd_t g0]
    rcases t_hasVal (a := a2) (b := a3) hP e2 with ⟨x, y, x1, rfl, y1, y2, rfl, v1, v2⟩ | ⟨v1, v2⟩
    · rw [v1, v2, Option.bind_some, Option.bind_some, if_neg z10, if_neg z10]
      by_cases hc : ¬ a4 < -100000 ∧ ¬ 100000 < a4
      · rw [if_pos hc, if_neg z10, if_neg z10]
        by_cases hw : I 0 5 = -9
        · rw [if_pos hw, if_pos hw]
          obtain ⟨r1, r2⟩ := pq_row p (by omega) x (by omega)
          have hfin : ∀ w : Int32, -100000 ≤ w.toInt ∧ w.toInt ≤ 100000 → Rel (n + 1) (up2 (up2 (up2 I (58 + 52 * p) 2 (I (58 + 52 * p) 2 + 1)) (58 + 52 * p) 3 0) 0 17 0) G (up2 A (58 + 52 * p + 4 + x) y w) L (up2 (up2 (up2 J 318 0 0) 318 1 0) 318 14 (up2 (up2 J 318 0 0) 318 1 0 318 14 + 1)) (up2 (up2 (up2 (up2 R 323 (36 * p + 6 * x + y) w) 329 p (up2 (up2 J 318 0 0) 318 1 0 318 14 + 1)) 351 p 0) 352 p 0) := fun w hb => by
            refine Rel_P (nv' := nv) (nr' := nr) h hn (by omega) hw (fun j k q1 q2 => ?_) ?_ ?_ (fun j m q => ?_) (fun k q => ?_) ?_ (fun j m q => ?_) ?_ ?_ (up2_s _ _ _ _) (fun q j m hq hne hm => ?_) ?_ (TPr_cost hP (x := x) (y := y) (by omega) (by omega) (fun j k q1 q2 => ?_) (fun j m q => up2_n q) ?_ (by rw [up2_s]; exact hb) (fun j m q1 q2 q3 => ?_)) (fun v hv => ?_) (fun r hr => ?_) (fun nv2 q1 q2 => ?_)
            · rw [up2_n q2, up2_n (by omega), up2_n (by omega)]
            · rw [up2_n (by omega), up2_n (by omega), up2_s]
            · rw [up2_n (by omega), up2_s]
            · rw [up2_n (by omega)]
            · rw [up2_n (by omega), up2_n (by omega), up2_n (by omega)]
            · rw [up2_s, up2_n (by omega), up2_n (by omega)]
            · rw [up2_n (by omega), up2_n (by omega), up2_n (by omega), up2_n (by omega)]
            · rw [up2_n (by omega), up2_n (by omega), up2_s, up2_n (by omega), up2_n (by omega)]
            · rw [up2_n (by omega), up2_s]
            · unfold RPw at hm
              rw [up2_n (by omega), up2_n (by omega), up2_n (by omega), up2_n (by omega)]
            · rw [up2_s, up2_n (by omega), up2_s]
            · rw [up2_n (by omega), up2_n (by omega), up2_n (by omega)]
            · rw [up2_n (by omega), up2_n (by omega), up2_n (by omega), up2_s, up2_s]
            · rw [up2_n (by omega), up2_n (by omega), up2_n (by omega), up2_n (by omega)]
            · rw [up2_n (by omega), up2_n (by omega), up2_n (by omega), up2_n (by omega), up2_n (by omega)]; exact hK v hv
            · have ea : ∀ m, up2 A (58 + 52 * p + 4 + x) y w (58 + 52 * p + 12 + 5 * r + 3) m = A (58 + 52 * p + 12 + 5 * r + 3) m := fun m => up2_n (by omega)
              have eb : ∀ (a b c : Int32), up2 (up2 (up2 I (58 + 52 * p) 2 a) (58 + 52 * p) 3 b) 0 17 c (58 + 52 * p + 12 + 5 * r) 2 = I (58 + 52 * p + 12 + 5 * r) 2 := fun a b c => by rw [up2_n (by omega), up2_n (by omega), up2_n (by omega)]
              unfold nP npc
              simp only [ea, eb]
              exact hC r hr
            · have := (t_eq (by omega) (by omega)).mp (q1.symm.trans hP.2.2.1.2.2.1)
              exact ⟨by omega, fun m hm => up2_n (by omega)⟩
          unfold f_X1_setCost
          simp (disch := omega) only [t_cng, t_chg, Option.bind_some, gd_t g0, gd_t g2, gd_t g3, gd_t r1, r2, l2, l3, gd_in, t_cl, bd, m6, m36, hK x, t_ch16]
          by_cases c0 : A (58 + 52 * p + 2) x = 0
          · rw [if_pos c0, if_pos c0]
            exact ⟨_, _, _, _, _, rfl, rfl, hfin _ (t_by8 a4)⟩
          rw [if_neg c0, if_neg c0]
          by_cases c1 : A (58 + 52 * p + 2) x = 1
          · rw [if_pos c1, if_pos c1]
            exact ⟨_, _, _, _, _, rfl, rfl, hfin _ (t_by16 a4)⟩
          rw [if_neg c1, if_neg c1]
          by_cases c2 : A (58 + 52 * p + 2) x = 2
          · rw [if_pos c2, if_pos c2]
            exact ⟨_, _, _, _, _, rfl, rfl, hfin _ (t_ch16b a4)⟩
          rw [if_neg c2, if_neg c2]
          refine ⟨_, _, _, _, _, rfl, rfl, hfin _ ⟨?_, ?_⟩⟩
          · have := mt Int32.lt_iff_toInt_lt.mpr hc.1
            have e : (-100000 : Int32).toInt = -100000 := by decide
            omega
          · have := mt Int32.lt_iff_toInt_lt.mpr hc.2
            have e : (100000 : Int32).toInt = 100000 := by decide
            omega
        · rw [if_neg hw, if_neg hw]
          exact ⟨_, _, _, _, _, rfl, rfl, hno _⟩
      · rw [if_neg hc, if_pos rfl, if_pos rfl]
        exact ⟨_, _, _, _, _, rfl, rfl, hno _⟩
    · rw [v1, v2]
      exact ⟨_, _, _, _, _, rfl, rfl, hno _⟩
  · unfold f_X7_isValue
    rw [e1, e2]
    exact ⟨_, _, _, _, _, rfl, rfl, hno _⟩
end CH
