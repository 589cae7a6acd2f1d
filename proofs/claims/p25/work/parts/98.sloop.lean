/-! THE TIE: second: the search -/
section SL
variable {G : Nat → Nat → Nat} {p nv nr s : Nat} {k21 : (Nat → Nat → Int32) → (Nat → Nat → Int32) → (Nat → Nat → Int64) → Option (Int32 × (Nat → Nat → Int32) × (Nat → Nat → Nat) × (Nat → Nat → Int32) × (Nat → Nat → Int64))} {k25 : Int32 → (Nat → Nat → Int32) → (Nat → Nat → Int32) → (Nat → Nat → Int64) → Option (Int32 × (Nat → Nat → Int32) × (Nat → Nat → Nat) × (Nat → Nat → Int32) × (Nat → Nat → Int64))} {k34 : (Nat → Nat → Int32) → (Nat → Nat → Int32) → (Nat → Nat → Int64) → Option (Int32 × (Nat → Nat → Int32) × (Nat → Nat → Nat) × (Nat → Nat → Int32) × (Nat → Nat → Int64))} {k22 : Int32 → Int32 → (Nat → Nat → Int32) → (Nat → Nat → Int32) → Option (Int32 × (Nat → Nat → Int32) × (Nat → Nat → Int32))}
theorem r_found {a1 a2 v x c : Int32} {fu : Nat} {J R : Nat → Nat → Int32} (hf : 0 < fu) (hv : ¬ v = -9) : f_X7_second_L49 a1 a2 k22 fu x v c J R = k22 v x J R := by
  obtain ⟨fu, rfl⟩ : ∃ z, fu = z + 1 := ⟨fu - 1, by omega⟩
  rw [f_X7_second_L49, if_neg hv]
  split
  · rfl
  · split <;> rfl
theorem t_sec_L (hs : s ≤ 60) : ∀ (k t fu fu' seen kn nn : Nat) (fb : Nat → Option (Nat × Nat)) (I A : Nat → Nat → Int32) (L : Nat → Nat → Int64) (J R : Nat → Nat → Int32), t + k = 250 → k < fu → k + 1 < fu' → seen ≤ s → SX I G A L J R p nv nr kn nn t fb → ∃ I' A' L' J' R' kn' nn' t' fb', SX I' G A' L' J' R' p nv nr kn' nn' t' fb' ∧ XS I A L J R I' A' L' J' R' ∧ ((f_X6_second_L50 G k21 k25 k34 fu (nI t) (nI (s - seen)) I A L = k21 I' A' L' ∧ f_X7_second_L49 (nI p) (nI s) k22 fu' (enc (-9) (nxw R nn)) (-9) (nI seen) J R = k22 (-9) (-9) J' R') ∨ (∃ n0 x, n0 < nn' ∧ dn R' n0 = nv ∧ f_X6_second_L50 G k21 k25 k34 fu (nI t) (nI (s - seen)) I A L = k25 (nI (fi A' 46 kn' n0)) I' A' L' ∧ f_X7_second_L49 (nI p) (nI s) k22 fu' (enc (-9) (nxw R nn)) (-9) (nI seen) J R = k22 (nI n0) x J' R') ∨ (f_X6_second_L50 G k21 k25 k34 fu (nI t) (nI (s - seen)) I A L = k34 I' A' L' ∧ f_X7_second_L49 (nI p) (nI s) k22 fu' (enc (-9) (nxw R nn)) (-9) (nI seen) J R = k22 (-9) (enc (-9) (nxw R' nn')) J' R')) := by
  have hT : TrAt 46 := Or.inr (Or.inr rfl)
  have hl : lT 46 = 1501 := rfl
  intro k
  induction k with
  | zero =>
    intro t fu fu' seen kn nn fb I A L J R hk hf hf' hse h
    obtain ⟨fu, rfl⟩ : ∃ z, fu = z + 1 := ⟨fu - 1, by omega⟩
    obtain ⟨fu', rfl⟩ : ∃ z, fu' = z + 1 := ⟨fu' - 1, by omega⟩
    obtain rfl : t = 250 := by omega
    refine ⟨I, A, L, J, R, kn, nn, 250, fb, h, XS_rf, Or.inr (Or.inr ⟨?_, ?_⟩)⟩
    · rw [f_X6_second_L50, if_neg (by decide)]
    · have h31 := h.2.2.2.2.2.2.2.2.1
      rw [f_X7_second_L49, h31, if_neg (show ¬ nI 250 < 250 by decide)]
      split
      · rename_i e
        rw [e]
      · rfl
  | succ k ih =>
    intro t fu fu' seen kn nn fb I A L J R hk hf hf' hse h
    obtain ⟨fu, rfl⟩ : ∃ z, fu = z + 1 := ⟨fu - 1, by omega⟩
    obtain ⟨fu', rfl⟩ : ∃ z, fu' = z + 1 := ⟨fu' - 1, by omega⟩
    have hX := h.2.2.2.1
    have h31 := h.2.2.2.2.2.2.2.2.1
    have hp5 := h.2.1.1
    have hnn := (tt_nn hT hX).2
    rw [f_X6_second_L50, if_pos (show nI t < 250 from nI_lt (b := 250) (by omega) (by omega)), (t_nxw hX hT).1, Option.bind_some, f_X7_second_L49, h31, if_pos (show nI t < 250 from nI_lt (b := 250) (by omega) (by omega))]
    cases hx : nxw R nn with
    | none =>
      refine ⟨I, A, L, J, R, kn, nn, t, fb, h, XS_rf, Or.inl ⟨?_, ?_⟩⟩
      · rw [if_pos (show enc (-1) (Option.map (fi A 46 kn) none) = -1 from rfl)]
      · rw [if_pos (show enc (-9) none = -9 from rfl)]
        rfl
    | some n0 =>
      obtain ⟨n1, _⟩ := nxw_o hx
      obtain ⟨I1, A1, L1, I2, A2, J1, R1, J2, R2, kn', nn', fb', c1, c2, c3, c4, h', c5, c6, hXS⟩ := t_sstep h (by omega) hx
      have hX' := h'.2.2.2.1
      have hnn' := (tt_nn hT hX').2
      have hPr' := h'.2.1
      have hnv := hPr'.2.2.1.1
      obtain ⟨hns, _⟩ := hX'.2.2.2.2.2 n0 c5
      have hfl := fi_mem (A := A2) (T := 46) (kn := kn') (n := n0) (by have := hX'.1; omega)
      have hkl := hX'.2.2.2.1
      have hfull := t_full (I := I2) (A := A2) (G := G) (c := fi A2 46 kn' n0) (d := dn R2 n0) (nv := nv) hT h'.1 (tp_at hPr') (by omega) hns.2.2.1 hPr'.2.2.1.2.2.1 (by have := hns.1; omega) hnv
      rw [c6] at hfull hfl
      have e1 : enc (-1) (Option.map (fi A 46 kn) (some n0)) = nI (fi A 46 kn n0) := rfl
      have e9 : enc (-9) (some n0) = nI n0 := rfl
      have m1 : ¬ nI (fi A 46 kn n0) = -1 := t_m1 (by omega)
      have m9 : ¬ nI n0 = -9 := t_m9 (by omega)
      have h338 := hns.2.1
      have h319 := hPr'.2.2.2.1
      simp (disch := omega) only [e1, e9, if_neg m1, if_neg m9, c1, c2, c3, c4, hfull, Option.bind_some, if_true, gd_in, t_cl, (t_nxw hX' hT).2, nI_1, h338, h319]
      by_cases hd : dn R2 n0 < nv
      · simp only [if_pos hd, if_true, if_neg (show ¬ nI (dn R2 n0) = nI nv from fun q => by
          have := (t_eq (by omega) (by omega)).mp q
          omega)]
        obtain ⟨I', A', L', J', R', kn2, nn2, t2, fb2, y1, y2, y3⟩ := ih (t + 1) fu fu' seen kn' nn' fb' I2 A2 L1 J2 R2 (by omega) (by omega) (by omega) hse h'
        exact ⟨I', A', L', J', R', kn2, nn2, t2, fb2, y1, XS_tr hXS y2, y3⟩
      · have hd2 : dn R2 n0 = nv := by have := hns.1; omega
        simp only [if_neg hd, if_neg z10, if_pos (show nI (dn R2 n0) = nI nv by rw [hd2])]
        by_cases hse2 : seen = s
        · subst hse2
          have z0 : nI (seen - seen) = 0 := by rw [Nat.sub_self]; rfl
          simp only [if_pos z0, if_true]
          refine ⟨I2, A2, L1, J2, R2, kn', nn', t + 1, fb', h', hXS, Or.inr (Or.inl ⟨n0, _, c5, hd2, by rw [c6], r_found (by omega) m9⟩)⟩
        · have z0 : ¬ nI (s - seen) = 0 := fun q => by
            have := (t_eq (b := 0) (by omega) (by omega)).mp q
            omega
          have z1 : ¬ nI seen = nI s := fun q => by
            have := (t_eq (by omega) (by omega)).mp q
            omega
          have z2 : nI (s - seen) + (-1) = nI (s - (seen + 1)) := by
            have q := nI_s1 (show 0 < s - seen by omega)
            rw [Int32.sub_eq_add_neg] at q
            rw [q]
            congr 1
          simp only [if_neg z0, if_neg z1, z2]
          obtain ⟨I', A', L', J', R', kn2, nn2, t2, fb2, y1, y2, y3⟩ := ih (t + 1) fu fu' (seen + 1) kn' nn' fb' I2 A2 L1 J2 R2 (by omega) (by omega) (by omega) (by omega) h'
          exact ⟨I', A', L', J', R', kn2, nn2, t2, fb2, y1, XS_tr hXS y2, y3⟩
end SL
