/-! THE TIE: second, the call -/
section SO
variable {I A : Nat → Nat → Int32} {G : Nat → Nat → Nat} {L : Nat → Nat → Int64} {J R : Nat → Nat → Int32} {n : Nat}
theorem k_second0 (a1 a2 : Int32) (h : Rel n I G A L J R) : ∃ r I' G' A' L' J' R', f_X6_second I G A L a1 a2 = some (r, I', G', A', L') ∧ f_X7_second J R a1 a2 = some (r, J', R') ∧ (Q9 R' → Fo R R' → Rel (n + 1) I' G' A' L' J' R') := by
  have hr := Rel_J0 h
  have h9 := Rel_9 h
  obtain ⟨np, z, sc, ⟨p1, p2, p3, p4⟩, _⟩ := id h
  have e : ∀ k, k ≠ 0 → up2 J 318 0 0 318 k = J 318 k := fun k q => up0 q
  unfold f_X6_second f_X7_second
  simp only [bd, (t_wi a2 0 60).1, (t_wi a2 0 60).2, Option.bind_some]
  rcases t_isP (a := a1) (I := I) (J := up2 J 318 0 0) p2 ((e 2 (by decide)).trans p3) p1 with ⟨p, hp, rfl, e1, e2⟩ | ⟨e1, e2⟩
  · rw [e1, e2, Option.bind_some, Option.bind_some, if_neg z10, if_neg z10]
    rcases t_rng (a := a2) (hi := 60) (by omega) with ⟨s, hs, rfl⟩ | hc
    · rw [if_pos (show ¬ nI s < 0 ∧ ¬ 60 < nI s from t_rng1 (hi := 60) (by omega) hs), if_neg z10, if_neg z10]
      have hp5 : p < 5 := by omega
      obtain ⟨⟨nv, nr, hP⟩, _⟩ := p4 p hp5
      have hnv := hP.2.2.1.1
      have hT : TrAt 46 := Or.inr (Or.inr rfl)
      have i19 : IA 19 6 := ⟨by decide, by decide +kernel, by decide +kernel⟩
      obtain ⟨A7, eA7⟩ : ∃ z, z = fil A 19 6 (-9) := ⟨_, rfl⟩
      have oA7 : ∀ j m, j ≠ 19 → A7 j m = A j m := fun j m q => by rw [eA7, fil_j q]
      obtain ⟨R9, b0, b1, b2, b3, b4, b5⟩ := t_aside (J := up2 J 318 0 0) h9
      obtain ⟨J8, eJ8⟩ : ∃ z, z = up2 (up2 (up2 (up2 J 318 0 0) 318 29 (R 365 0)) 318 30 (R 365 1)) 318 31 (R 365 2) := ⟨_, rfl⟩
      rw [← eJ8] at b0
      have oJ8 : ∀ k, ¬ (k = 0 ∨ k = 29 ∨ k = 30 ∨ k = 31) → J8 318 k = J 318 k := fun k q => by rw [eJ8, up2_n (by omega), up2_n (by omega), up2_n (by omega), up2_n (by omega)]
      have h99 : Q9 R9 := (qb_X7_aside _ _ _ _ b0).2 h9
      have hP9 : TPr I A7 R9 p (58 + 52 * p) nv nr := TPr_of hP (fun _ _ _ _ => rfl) (fun j k _ _ => oA7 j k (by omega)) (fun j k _ _ => b5 j k (by omega) (Or.inl (by omega)))
      obtain ⟨I1, A1, L1, J1, R1, nn, c1, c2, c3, c4, c5, c6, c7, c8, c9, c10, c11, c12, ⟨x1, x2, x3, x4, x5⟩⟩ := t_plant (G := G) (L := L) (J := J8) (sv := False) hT hP9 (Or.inl rfl)
      have hSX : SX I1 (up2 G 46 14 (58 + 52 * p)) A1 L1 J1 R1 p nv nr 1 nn 0 (fun _ => none) := ⟨up2_s _ _ _ _, c12, c11, c3, c5, c7, c8, c9, c10, by omega, fun m hm _ => (c6 m hm).1⟩
      have h91 : Q9 R1 := (qb_X7_begins _ _ _ _ _ _ c2).2 h99
      obtain ⟨I2, A2, L2, J2, R2, kn, nn2, t2, fb, hS2, ⟨y1, y2, y3, y4, y5, y6⟩, hcase⟩ := t_sec_L (G := up2 G 46 14 (58 + 52 * p)) (k21 := kA (up2 G 46 14 (58 + 52 * p))) (k25 := kB (up2 G 46 14 (58 + 52 * p))) (k34 := kC (up2 G 46 14 (58 + 52 * p))) (k22 := kD (nI p)) hs 250 0 FU FU 0 1 nn _ I1 A1 L1 J1 R1 (by omega) (t_fu _ (by omega)) (t_fu _ (by omega)) (by omega) hSX
      have h92 : Q9 R2 := y6 h91
      have hI2 : ∀ j k, j ≠ 46 → j ≠ 57 → I2 j k = I j k := fun j k q1 q2 => by rw [y1 j k q1 q2, x1 j k q1 q2]
      have hA2 : ∀ j m, j ≠ 19 → (j < 48 ∨ 56 < j) → A2 j m = A j m := fun j m q1 q2 => by rw [y2 j m q2, x2 j m (by omega) (by omega), oA7 j m q1]
      have hA19 : ∀ m, m < 6 → A2 19 m = -9 := fun m hm => by
        rw [y2 _ _ (by omega), x2 _ _ (by omega) (by omega), eA7]
        unfold fil
        rw [if_pos ⟨rfl, hm⟩]
      have hL2 : ∀ j m, j ≠ 47 → L2 j m = L j m := fun j m q => by rw [y3 j m q, x3 j m q]
      have hG2 : ∀ j k, j ≠ 46 → up2 G 46 14 (58 + 52 * p) j k = G j k := fun j k q => up2_j q
      have hJ2 : ∀ k, ¬ (k = 0 ∨ k = 29 ∨ k = 30 ∨ k = 31 ∨ k = 64 ∨ k = 65) → J2 318 k = J 318 k := fun k q => by rw [y4 _ _ (by omega), x4 _ _ (by omega), oJ8 k (by omega)]
      have hR2 : ∀ j m, (j < 338 ∨ 349 < j) → j ≠ 364 → R2 j m = R9 j m := fun j m q1 q2 => by rw [y5 j m q1 q2, x5 j m (by omega) q2]
      have hcls : ∀ w, f_X6_second_L50 (up2 G 46 14 (58 + 52 * p)) (kA (up2 G 46 14 (58 + 52 * p))) (kB (up2 G 46 14 (58 + 52 * p))) (kC (up2 G 46 14 (58 + 52 * p))) FU 0 (nI s) I1 A1 L1 = w → (Option.bind (f_J7_fill_53178 A 19 (-9)) fun A7 => gd (inr (nI p) 5) <| Option.bind (f_X5_plant I G A7 L 46 (58 + 52 * (nI p).toNatClampNeg) 0) fun (I10, G11, A12, L13) => f_X6_second_L50 G11 (kA G11) (kB G11) (kC G11) FU 0 (nI s) I10 A12 L13) = w := fun w hw => by
        rw [t_fill i19 (by decide) (by decide), Option.bind_some, ← eA7, gd_in hp5 (by decide), t_cl (show p < 2147483648 by omega), c1]
        exact hw
      have href : ∀ w, f_X7_second_L49 (nI p) (nI s) (kD (nI p)) FU (enc (-9) (nxw R1 nn)) (-9) 0 J1 R1 = w → (Option.bind (f_X7_aside (up2 J 318 0 0) R) fun (I8, A9) => Option.bind (f_X7_begins I8 A9 (nI p) 0) fun (I11, A12) => Option.bind (f_X7_nextOf I11 A12) fun r14 => f_X7_second_L49 (nI p) (nI s) (kD (nI p)) FU r14 (-9) 0 I11 A12) = w := fun w hw => by
        rw [b0]
        simp only [Option.bind_some]
        rw [c2]
        simp only [Option.bind_some]
        rw [(t_nxw c3 hT).2]
        exact hw
      -- what stands behind it
      have hfin : ∀ (A3 R3 : Nat → Nat → Int32) (w : Int32), (∀ j m, j ≠ 19 → A3 j m = A2 j m) → (∀ q m, q < 12 → m < ln (338 + q) → R3 (338 + q) m = R2 (366 + q) m) → (∀ j m, j ≠ 365 → j ≠ 363 → (¬ (338 ≤ j ∧ j < 350) ∧ ¬ (366 ≤ j ∧ j < 378)) ∨ ln j ≤ m → R3 j m = R2 j m) → Q6 A3 (up2 (up2 (up2 (up2 J2 318 61 w) 318 29 (R2 365 0)) 318 30 (R2 365 1)) 318 31 (R2 365 2)) R3 → Q9 R3 → Fo R R3 → Rel (n + 1) I2 (up2 G 46 14 (58 + 52 * p)) A3 L2 (up2 (up2 (up2 (up2 J2 318 61 w) 318 29 (R2 365 0)) 318 30 (R2 365 1)) 318 31 (R2 365 2)) R3 := fun A3 R3 w hA3 hq hj h6 h93 hfo => by
        refine Rel_S h hI2 hG2 (fun j m q1 q2 => by rw [hA3 j m q1]; exact hA2 j m q1 q2) hL2 (fun k q => ?_) (fun j m q1 q2 => ?_) h6 h93
        · by_cases k29 : k = 29
          · subst k29
            rw [up2_n (by omega), up2_n (by omega), up2_s, hR2 _ _ (by omega) (by omega), b1]; exact e 29 (by decide)
          · by_cases k30 : k = 30
            · subst k30
              rw [up2_n (by omega), up2_s, hR2 _ _ (by omega) (by omega), b2]; exact e 30 (by decide)
            · by_cases k31 : k = 31
              · subst k31
                rw [up2_s, hR2 _ _ (by omega) (by omega), b3]; exact e 31 (by decide)
              · rw [up2_n (by omega), up2_n (by omega), up2_n (by omega), up2_n (by omega)]
                exact hJ2 k (by omega)
        · rcases Nat.lt_or_ge m (ln j) with hm | hm
          · by_cases hj2 : 338 ≤ j ∧ j < 350
            · obtain ⟨q, rfl⟩ : ∃ q, j = 338 + q := ⟨j - 338, by omega⟩
              rw [hq q m (by omega) hm, hR2 _ _ (by omega) (by omega)]
              exact (b4 q m (by omega) hm).2
            · rw [hj j m (by omega) (by omega) (Or.inl (by omega)), hR2 _ _ (by omega) (by omega)]
              exact b5 j m (by omega) (Or.inl (by omega))
          · exact hfo j m q1 hm
      have z0 : nI (s - 0) = nI s := rfl
      rcases hcase with ⟨f1, f2⟩ | ⟨n0, x, f0, fd, f1, f2⟩ | ⟨f1, f2⟩
      · obtain ⟨R3, g1, g2, g3⟩ := kD_n (a1 := nI p) (x := -9) (J := J2) h92
        refine ⟨-1000000, I2, _, A2, L2, _, R3, hcls _ f1, href _ (f2.trans g1), fun k1 k2 => hfin A2 R3 (-9) (fun _ _ _ => rfl) g2 (fun j m q1 _ q3 => g3 j m q1 q3) (Or.inl ⟨?_, hA19⟩) k1 k2⟩
        rw [up2_n (by omega), up2_n (by omega), up2_n (by omega), up2_s]
      · have hX2 := hS2.2.2.2.1
        have hnn := (tt_nn hT hX2).2
        have hl : lT 46 = 1501 := rfl
        have hl19 : ln 19 = 6 := i19.2.2
        obtain ⟨hns, _⟩ := hX2.2.2.2.2.2 n0 f0
        have hfl := fi_mem (A := A2) (T := 46) (kn := kn) (n := n0) (by have := hX2.1; omega)
        have hkl := hX2.2.2.2.1
        obtain ⟨c, ec⟩ : ∃ c, c = fi A2 46 kn n0 := ⟨_, rfl⟩
        rw [← ec] at hns hfl f1
        have hcl : c < lT 46 := by omega
        have h48 : A2 (46 + 2) c = nI nv := by rw [hns.2.2.1, fd]
        have ecl : (nI c).toNatClampNeg = c := t_cl (by omega)
        have zcl : (0 : Int32).toNatClampNeg = 0 := rfl
        have env : (nI nv).toNatClampNeg = nv := t_cl (by omega)
        obtain ⟨R3, g1, g0, g2, g3⟩ := kD_f (x := x) (J := J2) (p := p) (n0 := n0) h92 hp5 (by omega)
        have hpre : pre_X5_copyValues A2 L2 46 (nI c) 19 0 := by
          unfold pre_X5_copyValues
          rw [ecl, h48, env, zcl, hl19]
          exact ⟨hT, hcl, rfl, i19, by omega, by omega, by decide, by decide, rfl, rfl⟩
        have hcv : f_X5_copyValues A2 L2 46 (nI c) 19 0 = some (cpy A2 19 0 nv (L2 47 c)) := by
          unfold f_X5_copyValues gd
          rw [if_pos hpre, ecl, h48, env, zcl]
        have hk : kB (up2 G 46 14 (58 + 52 * p)) (nI c) I2 A2 L2 = some (R2 341 n0, I2, up2 G 46 14 (58 + 52 * p), cpy A2 19 0 nv (L2 47 c), L2) := by
          unfold kB
          rw [hcv, Option.bind_some, t_bound hT hcl hns, Option.bind_some]
        refine ⟨_, I2, _, _, L2, _, R3, hcls _ (f1.trans hk), href _ (f2.trans g1), fun k1 k2 => hfin _ R3 (R2 319 p) (fun j m q => ?_) g2 g3 (Or.inr ⟨nv, hnv, ?_, fun i hi => ?_, fun i h1 h2 => ?_⟩) k1 k2⟩
        · unfold cpy
          rw [if_neg (fun r => q r.1)]
        · rw [up2_n (by omega), up2_n (by omega), up2_n (by omega), up2_s]
          exact hS2.2.1.2.2.2.1
        · rw [g0 i (by omega)]
          unfold cpy
          rw [if_pos ⟨rfl, by omega, by omega⟩, Nat.sub_zero]
          have hlc : L2 47 c = plc (R2 341 n0) (lN (e8 (wn R2 n0) (dn R2 n0))) := hns.2.2.2.2.2.1
          rw [hlc, vlo_e8 _ (ns_6 hns) (by omega) (by omega), (hns.2.2.2.1 i (by omega)).1]
        · unfold cpy
          rw [if_neg (fun r => by omega)]
          exact hA19 i h2
      · obtain ⟨R3, g1, g2, g3⟩ := kD_n (a1 := nI p) (x := enc (-9) (nxw R2 nn2)) (J := J2) h92
        have hk : kC (up2 G 46 14 (58 + 52 * p)) I2 A2 L2 = some ((if enc (-9) (nxw R2 nn2) = -9 then -1000000 else -1000001), I2, up2 G 46 14 (58 + 52 * p), A2, L2) := by
          unfold kC
          rw [(t_nxw hS2.2.2.2.1 hT).1, Option.bind_some]
          cases hx : nxw R2 nn2 with
          | none =>
            rw [if_pos (show enc (-1) (Option.map (fi A2 46 kn) none) = -1 from rfl), if_pos (show enc (-9) none = -9 from rfl)]
          | some m =>
            have hm := (nxw_o hx).1
            have hnn := tt_nn hT hS2.2.2.2.1
            have hfl := fi_mem (A := A2) (T := 46) (kn := kn) (n := m) (by have := hS2.2.2.2.1.1; omega)
            have hkl := hS2.2.2.2.1.2.2.2.1
            have hl : lT 46 = 1501 := rfl
            rw [if_neg (show ¬ enc (-1) (Option.map (fi A2 46 kn) (some m)) = -1 from t_m1 (n := fi A2 46 kn m) (by omega)), if_neg (show ¬ enc (-9) (some m) = -9 from t_m9 (n := m) (by omega))]
        refine ⟨_, I2, _, A2, L2, _, R3, hcls _ (f1.trans hk), href _ (f2.trans g1), fun k1 k2 => hfin A2 R3 (-9) (fun _ _ _ => rfl) g2 (fun j m q1 _ q3 => g3 j m q1 q3) (Or.inl ⟨?_, hA19⟩) k1 k2⟩
        rw [up2_n (by omega), up2_n (by omega), up2_n (by omega), up2_s]
    · rw [if_neg (show ¬ (¬ a2 < 0 ∧ ¬ 60 < a2) from hc), if_pos rfl, if_pos rfl]
      exact ⟨_, _, _, _, _, _, _, rfl, rfl, fun _ _ => hr⟩
  · rw [e1, e2]
    exact ⟨_, _, _, _, _, _, _, rfl, rfl, fun _ _ => hr⟩
theorem k_second (a1 a2 : Int32) (h : Rel n I G A L J R) : ∃ r I' G' A' L' J' R', f_X6_second I G A L a1 a2 = some (r, I', G', A', L') ∧ f_X7_second J R a1 a2 = some (r, J', R') ∧ Rel (n + 1) I' G' A' L' J' R' := by
  obtain ⟨r, I', G', A', L', J', R', e1, e2, e3⟩ := k_second0 a1 a2 h
  exact ⟨r, I', G', A', L', J', R', e1, e2, e3 ((qb_X7_second J R a1 a2 r J' R' e2).2 (Rel_9 h)) (qo_X7_second J R a1 a2 r J' R' e2).2⟩
end SO
