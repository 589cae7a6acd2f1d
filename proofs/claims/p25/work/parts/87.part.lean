/-! THE TIE: parts -/
section CI
variable {I A : Nat → Nat → Int32} {G : Nat → Nat → Nat} {L : Nat → Nat → Int64} {J R I' A' J' R' : Nat → Nat → Int32} {n p nv nr : Nat}
theorem TPr_part {r0 m x : Nat} {w : Int32} (h : TPr I A R p (58 + 52 * p) nv nr) (hr0 : r0 < 8) (hm : nP I (58 + 52 * p + 12 + 5 * r0) = m) (hm6 : m < 6) (hx : x < nv) (hw1 : -50 ≤ w.toInt) (hw2 : w.toInt ≤ 50) (hz : A (58 + 52 * p + 12 + 5 * r0 + 3) x = 0)
    (hI : ∀ j k, 58 ≤ j → ¬ (j = 58 + 52 * p ∧ (k = 2 ∨ k = 3)) → ¬ (j = 58 + 52 * p + 12 + 5 * r0 ∧ k = 2) → I' j k = I j k) (h1 : I' (58 + 52 * p + 12 + 5 * r0) 2 = nI (m + 1))
    (hA : ∀ j k, ¬ ((j = 58 + 52 * p + 12 + 5 * r0 + 1 ∨ j = 58 + 52 * p + 12 + 5 * r0 + 2) ∧ k = m) → ¬ ((j = 58 + 52 * p + 12 + 5 * r0 + 3 ∨ j = 58 + 52 * p + 12 + 5 * r0 + 4) ∧ k = x) → A' j k = A j k)
    (h2 : A' (58 + 52 * p + 12 + 5 * r0 + 1) m = nI x) (h3 : A' (58 + 52 * p + 12 + 5 * r0 + 2) m = w) (h4 : A' (58 + 52 * p + 12 + 5 * r0 + 3) x = 1) (h5 : A' (58 + 52 * p + 12 + 5 * r0 + 4) x = w)
    (hR : ∀ j k, 319 ≤ j → j ≤ 328 → ¬ ((j = 327 ∨ j = 328) ∧ k = 6 * (8 * p + r0) + m) → ¬ (j = 326 ∧ k = 8 * p + r0) → R' j k = R j k)
    (h6 : R' 327 (6 * (8 * p + r0) + m) = nI x) (h7 : R' 328 (6 * (8 * p + r0) + m) = w) (h8 : R' 326 (8 * p + r0) = nI (m + 1)) : TPr I' A' R' p (58 + 52 * p) nv nr := by
  obtain ⟨hp, hB, hw, k1, k2, k3, k4, k5⟩ := h
  have hnv := hw.1
  have en : ∀ r, r ≠ r0 → nP I' (58 + 52 * p + 12 + 5 * r) = nP I (58 + 52 * p + 12 + 5 * r) := fun r hr => by unfold nP; rw [hI _ _ (by omega) (by omega) (by omega)]
  have en0 : nP I' (58 + 52 * p + 12 + 5 * r0) = m + 1 := by unfold nP; rw [h1, t_cl (by omega)]
  refine ⟨hp, hB, ⟨hw.1, hw.2.1, by rw [hI _ _ (by omega) (by omega) (by omega)]; exact hw.2.2.1, by rw [hI _ _ (by omega) (by omega) (by omega)]; exact hw.2.2.2.1, fun x hx => by rw [hA _ _ (by omega) (by omega)]; exact hw.2.2.2.2.1 x hx, fun r hr => ?_⟩, by rw [hR _ _ (by omega) (by omega) (by omega) (by omega)]; exact k1, by rw [hR _ _ (by omega) (by omega) (by omega) (by omega)]; exact k2, fun m hm => by rw [hR _ _ (by omega) (by omega) (by omega) (by omega), hA _ _ (by omega) (by omega)]; exact k3 m hm, fun x k hx hk => by rw [hR _ _ (by omega) (by omega) (by omega) (by omega), hA _ _ (by omega) (by omega)]; exact k4 x k hx hk, fun r hr => ?_⟩
  · have w := hw.2.2.2.2.2 r hr
    by_cases e : r = r0
    · subst e
      rw [hm] at w
      rw [en0]
      refine ⟨by omega, h1, fun i hi => ?_⟩
      by_cases ei : i = m
      · subst ei
        rw [h2]
        exact nI_in (by omega) (by omega)
      · rw [hA _ _ (by omega) (by omega)]
        exact w.2.2 i (by omega)
    · rw [en r e]
      exact ⟨w.1, by rw [hI _ _ (by omega) (by omega) (by omega)]; exact w.2.1, fun i hi => by rw [hA _ _ (by omega) (by omega)]; exact w.2.2 i hi⟩
  · obtain ⟨⟨a1, a2, a3, a4⟩, b, c, d, k, k7, ek⟩ := k5 r hr
    unfold TRl
    by_cases e : r = r0
    · subst e
      rw [hm] at b c d
      rw [en0]
      refine ⟨⟨by rw [hR _ _ (by omega) (by omega) (by omega) (by omega), hI _ _ (by omega) (by omega) (by omega)]; exact a1, by rw [hR _ _ (by omega) (by omega) (by omega) (by omega), hI _ _ (by omega) (by omega) (by omega)]; exact a2, by rw [h8, h1], fun k hk => ?_⟩, fun k hk => ?_, fun i hi => ?_, fun y hy => ?_, k, k7, by rw [hI _ _ (by omega) (by omega) (by omega)]; exact ek⟩
      · by_cases ek : k = m
        · subst ek
          rw [h6, h7, h2, h3]
          exact ⟨rfl, rfl⟩
        · rw [hR _ _ (by omega) (by omega) (by omega) (by omega), hR _ _ (by omega) (by omega) (by omega) (by omega), hA _ _ (by omega) (by omega), hA _ _ (by omega) (by omega)]
          exact a4 k hk
      · by_cases ek : k = m
        · subst ek
          rw [h3]
          exact ⟨hw1, hw2⟩
        · rw [hA _ _ (by omega) (by omega)]
          exact b k (by omega)
      · by_cases ei : i = m
        · subst ei
          rw [h2, t_cl (by omega), hA _ _ (by omega) (by omega)]
          exact hw.2.2.2.2.1 x hx
        · rw [hA (58 + 52 * p + 12 + 5 * r + 1) _ (by omega) (by omega), hA _ _ (by omega) (by omega)]
          exact c i (by omega)
      · by_cases ey : y = x
        · subst ey
          refine Or.inr ⟨by rw [h4]; decide, ⟨m, by omega, h2⟩, fun k hk hk2 => ?_⟩
          by_cases ek : k = m
          · subst ek
            rw [h3, h5]
          · rw [hA _ _ (by omega) (by omega)] at hk2
            rcases d y hy with ⟨d1, d2⟩ | ⟨d1, _⟩
            · exact absurd hk2 (d2 k (by omega))
            · exact absurd hz d1
        · rw [hA (58 + 52 * p + 12 + 5 * r + 3) _ (by omega) (by omega), hA (58 + 52 * p + 12 + 5 * r + 4) _ (by omega) (by omega)]
          have hne : ¬ A' (58 + 52 * p + 12 + 5 * r + 1) m = nI y := by
            rw [h2]
            exact fun q => ey ((t_eq (by omega) (by omega)).mp q).symm
          have ho : ∀ k, k < m → A' (58 + 52 * p + 12 + 5 * r + 1) k = A (58 + 52 * p + 12 + 5 * r + 1) k := fun k hk => hA _ _ (by omega) (by omega)
          have ho2 : ∀ k, k < m → A' (58 + 52 * p + 12 + 5 * r + 2) k = A (58 + 52 * p + 12 + 5 * r + 2) k := fun k hk => hA _ _ (by omega) (by omega)
          rcases d y hy with ⟨d1, d2⟩ | ⟨d1, ⟨k0, d2, d3⟩, d4⟩
          · refine Or.inl ⟨d1, fun k hk => ?_⟩
            by_cases ek : k = m
            · subst ek
              exact hne
            · rw [ho k (by omega)]
              exact d2 k (by omega)
          · refine Or.inr ⟨d1, ⟨k0, by omega, by rw [ho k0 d2]; exact d3⟩, fun k hk hk2 => ?_⟩
            by_cases ek : k = m
            · subst ek
              exact absurd hk2 hne
            · rw [ho k (by omega)] at hk2
              rw [ho2 k (by omega)]
              exact d4 k (by omega) hk2
    · rw [en r e]
      refine ⟨⟨by rw [hR _ _ (by omega) (by omega) (by omega) (by omega), hI _ _ (by omega) (by omega) (by omega)]; exact a1, by rw [hR _ _ (by omega) (by omega) (by omega) (by omega), hI _ _ (by omega) (by omega) (by omega)]; exact a2, by rw [hR _ _ (by omega) (by omega) (by omega) (by omega), hI _ _ (by omega) (by omega) (by omega)]; exact a3, fun k hk => by rw [hR _ _ (by omega) (by omega) (by omega) (by omega), hR _ _ (by omega) (by omega) (by omega) (by omega), hA _ _ (by omega) (by omega), hA _ _ (by omega) (by omega)]; exact a4 k hk⟩, fun k hk => by rw [hA _ _ (by omega) (by omega)]; exact b k hk, fun i hi => by rw [hA (58 + 52 * p + 12 + 5 * r + 1) _ (by omega) (by omega), hA _ _ (by omega) (by omega)]; exact c i hi, fun x hx => ?_, k, k7, by rw [hI _ _ (by omega) (by omega) (by omega)]; exact ek⟩
      rw [hA _ _ (by omega) (by omega), hA (58 + 52 * p + 12 + 5 * r + 4) _ (by omega) (by omega)]
      simp only [fun m => hA (58 + 52 * p + 12 + 5 * r + 1) m (by omega) (by omega), fun m => hA (58 + 52 * p + 12 + 5 * r + 2) m (by omega) (by omega)]
      exact d x hx
theorem npc_le {Q x : Nat} (hx : x < 6) (h : A (Q + 3) x = 0) : npc A Q ≤ 5 := by
  have hx6 : x = 0 ∨ x = 1 ∨ x = 2 ∨ x = 3 ∨ x = 4 ∨ x = 5 := by omega
  unfold npc
  rcases hx6 with rfl | rfl | rfl | rfl | rfl | rfl <;> rw [if_pos h] <;> (repeat' split) <;> omega
theorem npc_up {Q x : Nat} (hx : x < 6) (h : A (Q + 3) x = 0) (h1 : A' (Q + 3) x = 1) (ho : ∀ m, m ≠ x → A' (Q + 3) m = A (Q + 3) m) : npc A' Q = npc A Q + 1 := by
  have hx6 : x = 0 ∨ x = 1 ∨ x = 2 ∨ x = 3 ∨ x = 4 ∨ x = 5 := by omega
  have hn : ¬ A' (Q + 3) x = 0 := by rw [h1]; decide
  unfold npc
  rcases hx6 with rfl | rfl | rfl | rfl | rfl | rfl
  · rw [if_pos h, if_neg hn, ho 1 (by omega), ho 2 (by omega), ho 3 (by omega), ho 4 (by omega), ho 5 (by omega)]
    omega
  · rw [if_pos h, if_neg hn, ho 0 (by omega), ho 2 (by omega), ho 3 (by omega), ho 4 (by omega), ho 5 (by omega)]
    omega
  · rw [if_pos h, if_neg hn, ho 0 (by omega), ho 1 (by omega), ho 3 (by omega), ho 4 (by omega), ho 5 (by omega)]
    omega
  · rw [if_pos h, if_neg hn, ho 0 (by omega), ho 1 (by omega), ho 2 (by omega), ho 4 (by omega), ho 5 (by omega)]
    omega
  · rw [if_pos h, if_neg hn, ho 0 (by omega), ho 1 (by omega), ho 2 (by omega), ho 3 (by omega), ho 5 (by omega)]
    omega
  · rw [if_pos h, if_neg hn, ho 0 (by omega), ho 1 (by omega), ho 2 (by omega), ho 3 (by omega), ho 4 (by omega)]
theorem k_part (a1 a2 a3 a4 : Int32) (h : Rel n I G A L J R) (hn : n < 1073741000) : ∃ r I' A' J' R', f_X6_part I A a1 a2 a3 a4 = some (r, I', A') ∧ f_X7_part J R a1 a2 a3 a4 = some (r, J', R') ∧ Rel (n + 1) I' G A' L J' R' := by
  have hr := Rel_J0 h
  have hu := Rel_u h
  obtain ⟨np, z, sc, ⟨p1, p2, p3, p4⟩, q2, q3, q4, q5c, q5, q6, q7, _⟩ := id h
  have e2' : up2 J 318 0 0 318 2 = nI np := by rw [up2_k (by decide)]; exact p3
  have e23 : up2 J 318 0 0 318 23 = I 0 5 := by rw [up2_k (by decide)]; exact hu.symm
  unfold f_X6_part f_X7_part
  simp only [bd, Option.bind_some, (t_wi a4 (-50) 50).1, (t_wi a4 (-50) 50).2, e23]
  rcases t_isP (a := a1) (I := I) (J := up2 J 318 0 0) p2 e2' p1 with ⟨p, hp, rfl, e1, e2⟩ | ⟨e1, e2⟩
  · rw [e1, Option.bind_some, if_neg z10]
    obtain ⟨g0, g1, g2, g3, g10, g11, l1, l2, l3, l10, l11⟩ := pq_all p (by omega)
    obtain ⟨⟨nv, nr, hP⟩, hK, hC⟩ := p4 p (by omega)
    have hnv := hP.2.2.1.1
    have hnr := hP.2.2.1.2.1
    have hB0 := hP.2.2.1.2.2.1
    simp (disch := omega) only [gd_in, t_cl, gd_t g0, hP.2.2.2.1]
    rcases t_isRu (a := a2) hP e2 with ⟨r, r1, rfl, v1, v2⟩ | ⟨v1, v2⟩
    · rw [v1, v2, Option.bind_some, Option.bind_some, if_neg z10, if_neg z10]
      rcases t_hasV (a := a3) (by omega) hB0 hnv with ⟨x, x1, rfl, v3, v4⟩ | ⟨v3, v4⟩
      · rw [v3, v4, Option.bind_some, Option.bind_some, if_neg z10, if_neg z10]
        by_cases hc : ¬ a4 < -50 ∧ ¬ 50 < a4
        · rw [if_pos hc, if_neg z10, if_neg z10]
          by_cases hw : I 0 5 = -9
          · rw [if_pos hw, if_pos hw]
            obtain ⟨s0, s1, s2, s3, s4, t1, t2, t3, t4⟩ := pq_ru p (by omega) r (by omega)
            obtain ⟨hu, b, c, d, ku⟩ := hP.2.2.2.2.2.2.2 r (by omega)
            have hru := hP.2.2.1.2.2.2.2.2 r (by omega)
            have hpa := TPa_of (show 8 * p + r < 40 by omega) hu hru
            obtain ⟨m, em⟩ : ∃ m, m = nP I (58 + 52 * p + 12 + 5 * r) := ⟨_, rfl⟩
            rw [← em] at b c d hru hpa
            have hm6 := hru.1
            simp (disch := omega) only [gd_t g10, l10, gd_t s0, gd_t s3, t3, gd_in, t_cl]
            rw [r_partAt (x := x) (by omega) hpa, Option.bind_some]
            by_cases hz : A (58 + 52 * p + 12 + 5 * r + 3) x = 0
            · have hm5 : m < 6 := by
                have := npc_le (show x < 6 by omega) hz
                have := hC r (by omega)
                omega
              have hf : fst1 (ppt R (8 * p + r) x) m 0 = -9 := (fst1_n m 0 (by omega)).mpr (fun j _ hj => by
                rcases d x (by omega) with ⟨d1, d2⟩ | ⟨d1, _⟩
                · unfold ppt
                  rw [decide_eq_false_iff_not, (hu.2.2.2 j (by omega)).1]
                  exact d2 j (by omega)
                · exact absurd hz d1)
              rw [if_pos hz, if_pos hf]
              have eR : ∀ (q k : Nat) (a : Int32), q ≠ 326 → up2 R q k a 326 (8 * p + r) = nI m := fun q k a hq => by rw [up2_j (by omega)]; exact hu.2.2.1.trans hru.2.1
              have eR2 : ∀ (k k2 : Nat) (a b : Int32), up2 (up2 R 327 k a) 328 k2 b 326 (8 * p + r) = nI m := fun k k2 a b => by rw [up2_j (by omega), up2_j (by omega)]; exact hu.2.2.1.trans hru.2.1
              have eR0 : R 326 (8 * p + r) = nI m := hu.2.2.1.trans hru.2.1
              have eI1 : ∀ (a b : Int32), up2 (up2 I (58 + 52 * p) 2 a) (58 + 52 * p) 3 b (58 + 52 * p + 12 + 5 * r) 2 = nI m := fun a b => by rw [up2_j (by omega), up2_j (by omega)]; exact hru.2.1
              have eR3 : ∀ (F : Nat → Nat → Int32) (k1 k2 k3 : Nat) (a b c : Int32), up2 (up2 (up2 F 329 k1 a) 351 k2 b) 352 k3 c 326 (8 * p + r) = F 326 (8 * p + r) := fun F k1 k2 k3 a b c => by rw [up2_j (by omega), up2_j (by omega), up2_j (by omega)]
              unfold f_X1_addPart f_X2_add
              simp (disch := omega) only [t_cng, t_chg, Option.bind_some, gd_t g0, gd_t g10, gd_t s0, gd_t s1, gd_t s2, gd_t s3, gd_t s4, t1, t2, t3, t4, l10, gd_in, t_cl, bd, m8, m6, eR0, eR 327, eR2, eR3, eI1, nI_1, up2_s]
              have hv1 : vp_nar .boolean 1 = 1 := rfl
              rw [hv1]
              have w1 : -50 ≤ a4.toInt := by
                have := mt Int32.lt_iff_toInt_lt.mpr hc.1
                have e : (-50 : Int32).toInt = -50 := by decide
                omega
              have w2 : a4.toInt ≤ 50 := by
                have := mt Int32.lt_iff_toInt_lt.mpr hc.2
                have e : (50 : Int32).toInt = 50 := by decide
                omega
              refine ⟨_, _, _, _, _, rfl, rfl, Rel_P (nv' := nv) (nr' := nr) h hn (by omega) hw (fun j k q1 q2 => ?_) ?_ ?_ (fun j m q => ?_) (fun k q => ?_) ?_ (fun j m q => ?_) ?_ ?_ (up2_s _ _ _ _) (fun q j m hq hne hm => ?_) ?_ (TPr_part hP (r0 := r) (m := m) (x := x) (w := a4) (by omega) em.symm hm5 x1 w1 w2 hz (fun j k q1 q2 q3 => ?_) ?_ (fun j k q1 q2 => ?_) ?_ ?_ ?_ ?_ (fun j k q1 q2 q3 q4 => ?_) ?_ ?_ ?_) (fun v hv => ?_) (fun r' hr' => ?_) (fun nv2 q1 q2 => ?_)⟩
              · rw [up2_n (by omega), up2_n (by omega), up2_n (by omega)]
              · rw [up2_n (by omega), up2_n (by omega), up2_s]
              · rw [up2_n (by omega), up2_s]
              · rw [up2_n (by omega), up2_n (by omega), up2_n (by omega), up2_n (by omega)]
              · rw [up2_n (by omega), up2_n (by omega)]
              · rw [up2_s, up2_n (by omega)]
              · rw [up2_n (by omega), up2_n (by omega), up2_n (by omega), up2_n (by omega), up2_n (by omega), up2_n (by omega)]
              · rw [up2_n (by omega), up2_n (by omega), up2_s, up2_n (by omega)]
              · rw [up2_n (by omega), up2_s]
              · unfold RPw at hm
                rw [up2_n (by omega), up2_n (by omega), up2_n (by omega), up2_n (by omega), up2_n (by omega), up2_n (by omega)]
              · rw [up2_n (by omega), up2_n (by omega), up2_n (by omega), up2_n (by omega), up2_n (by omega)]; exact q7.1
              · rw [up2_n (by omega), up2_n (by omega), up2_n (by omega)]
              · rw [up2_s]
              · rw [up2_n (by omega), up2_n (by omega), up2_n (by omega), up2_n (by omega)]
              · rw [up2_n (by omega), up2_n (by omega), up2_n (by omega), up2_s]
              · rw [up2_n (by omega), up2_n (by omega), up2_s]
              · rw [up2_n (by omega), up2_s]
              · rw [up2_s]
              · rw [up2_n (by omega), up2_n (by omega), up2_n (by omega), up2_n (by omega), up2_n (by omega), up2_n (by omega)]
              · rw [up2_n (by omega), up2_n (by omega), up2_n (by omega), up2_n (by omega), up2_n (by omega), up2_s]
              · rw [up2_n (by omega), up2_n (by omega), up2_n (by omega), up2_n (by omega), up2_s]
              · rw [up2_n (by omega), up2_n (by omega), up2_n (by omega), up2_s]
              · rw [up2_n (by omega), up2_n (by omega), up2_n (by omega), up2_n (by omega), up2_n (by omega), up2_n (by omega), up2_n (by omega), up2_n (by omega), up2_n (by omega), up2_n (by omega)]; exact hK v hv
              · by_cases e : r' = r
                · subst e
                  have en : ∀ (a b : Int32), nP (up2 (up2 (up2 I (58 + 52 * p) 2 a) (58 + 52 * p) 3 b) (58 + 52 * p + 12 + 5 * r') 2 (nI (m + 1))) (58 + 52 * p + 12 + 5 * r') = m + 1 := fun a b => by unfold nP; rw [up2_s, t_cl (by omega)]
                  rw [en, npc_up (A := A) (x := x) (by omega) hz (by rw [up2_n (by omega), up2_s]) (fun k hk => by rw [up2_n (by omega), up2_n (by omega), up2_n (by omega), up2_n (by omega)])]
                  have := hC r' (by omega)
                  omega
                · have ea : ∀ k (a b c d : Int32), up2 (up2 (up2 (up2 A (58 + 52 * p + 12 + 5 * r + 1) m a) (58 + 52 * p + 12 + 5 * r + 2) m b) (58 + 52 * p + 12 + 5 * r + 3) x c) (58 + 52 * p + 12 + 5 * r + 4) x d (58 + 52 * p + 12 + 5 * r' + 3) k = A (58 + 52 * p + 12 + 5 * r' + 3) k := fun k a b c d => by rw [up2_n (by omega), up2_n (by omega), up2_n (by omega), up2_n (by omega)]
                  have eb : ∀ (a b c : Int32), up2 (up2 (up2 I (58 + 52 * p) 2 a) (58 + 52 * p) 3 b) (58 + 52 * p + 12 + 5 * r) 2 c (58 + 52 * p + 12 + 5 * r') 2 = I (58 + 52 * p + 12 + 5 * r') 2 := fun a b c => by rw [up2_n (by omega), up2_n (by omega), up2_n (by omega)]
                  unfold nP npc
                  simp only [ea, eb]
                  exact hC r' hr'
              · have := (t_eq (by omega) (by omega)).mp (q1.symm.trans hB0)
                exact ⟨by omega, fun k hk => by rw [up2_n (by omega), up2_n (by omega), up2_n (by omega), up2_n (by omega)]⟩
            · have hf : ¬ fst1 (ppt R (8 * p + r) x) m 0 = -9 := fun q => by
                rcases d x (by omega) with ⟨d1, d2⟩ | ⟨d1, ⟨k, k1, k2⟩, _⟩
                · exact hz d1
                · have := (fst1_n m 0 (by omega)).mp q k (by omega) (by omega)
                  unfold ppt at this
                  rw [decide_eq_false_iff_not, (hu.2.2.2 k (by omega)).1] at this
                  exact this k2
              rw [if_neg hz, if_neg hf]
              exact ⟨_, _, _, _, _, rfl, rfl, hr⟩
          · rw [if_neg hw, if_neg hw]
            exact ⟨_, _, _, _, _, rfl, rfl, hr⟩
        · rw [if_neg hc, if_pos rfl, if_pos rfl]
          exact ⟨_, _, _, _, _, rfl, rfl, hr⟩
      · rw [v3, v4]
        by_cases hc : ¬ a4 < -50 ∧ ¬ 50 < a4
        · rw [if_pos hc, if_neg z10]
          exact ⟨_, _, _, _, _, rfl, rfl, hr⟩
        · rw [if_neg hc, if_pos rfl]
          exact ⟨_, _, _, _, _, rfl, rfl, hr⟩
    · rw [v1, v2]
      by_cases hc : ¬ a4 < -50 ∧ ¬ 50 < a4
      · rw [if_pos hc, if_neg z10]
        exact ⟨_, _, _, _, _, rfl, rfl, hr⟩
      · rw [if_neg hc, if_pos rfl]
        exact ⟨_, _, _, _, _, rfl, rfl, hr⟩
  · unfold f_X7_isRule
    rw [e1, e2]
    exact ⟨_, _, _, _, _, rfl, rfl, hr⟩
end CI
