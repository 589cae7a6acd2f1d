/-! THE TIE: same (laid by gen9d.py) -/
section SQ
variable {I A : Nat → Nat → Int32} {G : Nat → Nat → Nat} {L : Nat → Nat → Int64} {J R I' A' J' R' : Nat → Nat → Int32} {G' : Nat → Nat → Nat} {L' : Nat → Nat → Int64} {n p nv nr T z : Nat}
/-- what same() may change -/
def XL (T : Nat) (I : Nat → Nat → Int32) (G : Nat → Nat → Nat) (A : Nat → Nat → Int32) (L : Nat → Nat → Int64) (I' : Nat → Nat → Int32) (G' : Nat → Nat → Nat) (A' : Nat → Nat → Int32) (L' : Nat → Nat → Int64) : Prop := (∀ j k, ¬ (j = T ∨ j = T + 11 ∨ j = 14 ∨ (j = 8 ∧ k = 0)) → I' j k = I j k) ∧ (∀ j k, ¬ (j = T ∨ j = 14) → G' j k = G j k) ∧ G' 14 0 = T ∧ (∀ j m, ¬ ((9 ≤ j ∧ j ≤ 13) ∨ j = 15 ∨ j = 16 ∨ j = 20 ∨ j = 21 ∨ (T + 2 ≤ j ∧ j ≤ T + 10)) → A' j m = A j m) ∧ (∀ j m, j ≠ T + 1 → L' j m = L j m)
theorem XL_tr {I1 A1 I2 A2 : Nat → Nat → Int32} {G1 G2 : Nat → Nat → Nat} {L1 L2 : Nat → Nat → Int64} (a : XL T I G A L I1 G1 A1 L1) (b : XL T I1 G1 A1 L1 I2 G2 A2 L2) : XL T I G A L I2 G2 A2 L2 := ⟨fun j k q => (b.1 j k q).trans (a.1 j k q), fun j k q => (b.2.1 j k q).trans (a.2.1 j k q), b.2.2.1, fun j k q => (b.2.2.2.1 j k q).trans (a.2.2.2.1 j k q), fun j k q => (b.2.2.2.2 j k q).trans (a.2.2.2.2 j k q)⟩
theorem Rel_XL (h : Rel n I G A L J R) (hw : I 0 5 = -9) (hGT : G 14 0 = T) (x : XL T I G A L I' G' A' L') : Rel (n + 1) I' G' A' L' (up2 J 318 0 0) R := by
  have hw2 : J 318 23 = -9 := (Rel_u h).symm.trans hw
  have hJ : ∀ k, ¬ (k = 0) → up2 J 318 0 0 318 k = J 318 k := fun k q => up0 q
  have hR : ∀ (j m : Nat), ¬ (j = 0 ∧ False) → R j m = R j m := fun _ _ _ => rfl
  obtain ⟨hI, hG, g14, hA, hL⟩ := x
  obtain ⟨np, z, sc, q1, q2, q3, q4, q5c, q5, q6, q7, ⟨b1, T1, b2, b3, b4⟩, q9⟩ := h
  obtain rfl : T1 = T := b2.symm.trans hGT
  exact ⟨np, z, sc, Q1_of q1 (hI _ _ (by omega)) (hJ _ (by omega)) (fun j k h1 h2 h3 => hI j k (by omega)) (fun j k h1 h2 h3 => hA j k (by omega)) (fun j k h1 h2 => hR j k (by omega)), Q2_of q2 (fun k => hI _ _ (by omega)) (hJ _ (by omega)) (hJ _ (by omega)) (fun j m h1 h2 => hA j m (by omega)) (fun j m h1 h2 => hR j m (by omega)), Q3_of q3 (fun p hp => hI _ _ (by omega)) (fun p m hp => hA _ _ (by omega)) (fun j m h1 h2 => hR j m (by omega)), Q4_of q4 (hG _ _ (by omega)) (fun T2 h => hG _ _ (by omega)) (fun T2 h => hI _ _ (by omega)) (hJ _ (by omega)) (fun T2 j m h1 h2 h3 => hA j m (by omega)) (fun T2 m h => hL _ _ (by omega)) (fun j m h1 h2 => hR j m (by omega)) (fun B nv hB e1 e2 => ⟨nv, Nat.le_refl _, e2, by rw [hI _ _ (by have := pr_ge hB; omega)]; exact e1, fun m _ => hA _ _ (by have := pr_ge hB; omega)⟩), Q5c_of q5c (by omega) (hJ _ (by omega)) (fun p hp => hI _ _ (by omega)) (fun m => hR _ _ (by omega)), Q5_of q5 (fun k _ _ => hI _ _ (by omega)) (fun k _ _ => hJ k (by omega)) (fun p k hp _ _ => hI _ _ (by omega)) (fun m => hA _ _ (by omega)) (fun p m hp => hA _ _ (by omega)) (fun m => hR _ _ (by omega)) (fun m => hR _ _ (by omega)) (Qn_of (hJ _ (by omega))), Q6_of q6 (hJ _ (by omega)) (fun m => hA _ _ (by omega)) (fun m => hR _ _ (by omega)), ⟨by rw [hI _ _ (by omega), hJ _ (by omega)]; exact q7.1, by rw [hI _ _ (by omega)]; exact q7.2⟩, ⟨by rw [hI _ _ (by omega), hJ _ (by omega)]; exact b1, T1, g14, by rw [hG _ _ (by omega)]; exact b3, Or.inl ⟨by rw [hI _ _ (by omega)]; exact hw, by rw [hJ _ (by omega)]; exact hw2⟩⟩, (fun j x h => by rw [hR j x (by omega)]; exact q9 j x h)⟩
theorem t_become {A27 : Nat → Nat → Int32} (e : fil A 9 5 0 = A27) : f_X4_become I A 8 (nI z) = some (up2 I 8 0 (nI z), A27) := by
  unfold f_X4_become
  rw [gd_t (show 8 < 318 ∧ kd 8 = 4 by decide)]
  simp only [bd]
  rw [t_fill (j := 8 + 1) (n := 5) ⟨by decide, by decide, by decide⟩ (by omega) (by omega), Option.bind_some, e]
theorem xl_ne {j T : Nat} (q : ¬ ((9 ≤ j ∧ j ≤ 13) ∨ j = 15 ∨ j = 16 ∨ j = 20 ∨ j = 21 ∨ (T + 2 ≤ j ∧ j ≤ T + 10))) : j ≠ 9 ∧ j ≠ 8 + 3 ∧ j ≠ 8 + 4 ∧ j ≠ 8 + 5 ∧ j ≠ 15 ∧ j ≠ 16 ∧ j ≠ 20 ∧ j ≠ 21 ∧ (j < T + 2 ∨ T + 10 < j) := by omega
theorem t_same_1 {v9 a1 a2 : Int32} (hTT : T = 22 ∨ T = 34) (hGT : G 14 0 = T) (hP : TPr I A R p (58 + 52 * p) nv nr) (h8 : I 8 1 = 0) (hz1 : 1 ≤ z) (hz5 : z ≤ 5) : ∃ A27 r30 I31 G32 A33 L34, f_X4_become I A 8 (nI z) = some (up2 I 8 0 (nI z), A27) ∧ f_X3_begin (up2 I 8 0 (nI z)) G A27 L (58 + 52 * p) 8 (up2 I 8 0 (nI z) 0 3) = some (r30, I31, G32, A33, L34) ∧ ∀ k42, ∃ v43 I44 A45 L46, f_X6_same_L80 v9 a1 a2 G32 k42 FU 0 r30 I31 A33 L34 = k42 v43 I44 A45 L46 ∧ ∀ s, s = 20 ∨ s = 21 → ∃ A50, f_X3_sumUp I44 G32 A45 L46 v43 s = some A50 ∧ XL T I G A L I44 G32 A50 L46 := by
  have hp := hP.1
  obtain ⟨A27, eA⟩ : ∃ w, fil A 9 5 0 = w := ⟨_, rfl⟩
  have o27 : ∀ j m, j ≠ 9 → A27 j m = A j m := fun j m q => by rw [← eA, fil_j q]
  have z27 : ∀ m, m < 5 → A27 9 m = 0 := fun m hm => by rw [← eA]; unfold fil; rw [if_pos ⟨rfl, hm⟩]
  have oI : ∀ j k, ¬ (j = 8 ∧ k = 0) → up2 I 8 0 (nI z) j k = I j k := fun j k q => by unfold up2; rw [if_neg q]
  obtain ⟨J0, eJ⟩ : ∃ w : Nat → Nat → Int32, w = fun _ k => if k = 15 then nI z else if k = 24 then I 0 3 else 0 := ⟨_, rfl⟩
  obtain ⟨R0, eR⟩ : ∃ w : Nat → Nat → Int32, w = fun j m => if j = 332 then A27 12 m else if j = 333 then A27 13 m else if j = 337 then -9 else if 330 ≤ j ∧ j ≤ 336 then 0 else R j m := ⟨_, rfl⟩
  have hP0 : TPr (up2 I 8 0 (nI z)) A27 R0 p (58 + 52 * p) nv nr := TPr_of2 hP (fun j k _ _ _ => oI j k (by omega)) (fun j k _ _ _ => o27 j k (by omega)) (fun j k q1 q2 => by rw [eR]; show (if j = 332 then _ else _) = _; rw [if_neg (by omega), if_neg (by omega), if_neg (by omega), if_neg (by omega)])
  have hTe : TTe (up2 I 8 0 (nI z)) A27 J0 R0 8 z 0 := ⟨up2_s _ _ _ _, by rw [eJ]; rfl, hz1, hz5, by rw [oI _ _ (by omega)]; exact h8, by rw [eJ]; rfl, by omega, fun i hi => absurd hi (by omega)⟩
  obtain ⟨r, I1, G1, A1, L1, J1, R1, nn, fb, b1, b2, b3, b4, b5, b6, b7, b8, b9, b10, b11⟩ := t_begin (L := L) (w := up2 I 8 0 (nI z) 0 3) hTT hGT (Or.inr rfl) hP0 hTe (fun h hh => ⟨⟨0, by omega, z27 h hh, by rw [eR]; rfl⟩, by rw [eR]; rfl, by rw [eR]; rfl, by rw [eR]; rfl, by rw [eR]; rfl, by rw [eR]; rfl⟩) (by rw [eJ, oI _ _ (by omega)]; rfl) (by rw [eJ]; rfl)
  refine ⟨A27, r, I1, G1, A1, L1, t_become eA, b1, fun k42 => ?_⟩
  have hL : ∃ v43 I44 A45 L46 J' R' kn' nn' dd' tk' tn' hb' fb', f_X6_same_L80 v9 a1 a2 G1 k42 FU 0 r I1 A1 L1 = k42 v43 I44 A45 L46 ∧ TSv I44 G1 A45 L46 J' R' T 8 p (58 + 52 * p) nv nr kn' nn' dd' tk' tn' hb' z 0 fb' ∧ XT T 8 I1 A1 L1 J1 R1 I44 A45 L46 J' R' ∧ tk' ≤ 250 := by
    rcases b4 with ⟨_, rfl⟩ | ⟨_, rfl⟩
    · refine ⟨2, I1, A1, L1, J1, R1, _, _, _, _, _, _, _, ?_, b3, XT_rf, by omega⟩
      obtain ⟨fu, hfu⟩ : ∃ y, FU = y + 1 := ⟨FU - 1, by have := FU_le; omega⟩
      rw [hfu, f_X6_same_L80, if_pos (show (0 : Int32) < 1000000 by decide), if_neg (by decide)]
    · exact t_same_L 1000000 0 FU 0 0 1 nn 0 0 fb I1 A1 L1 J1 R1 (by omega) (by have := FU_le; omega) (by omega) (by omega) (by omega) b3
  obtain ⟨v, I2, A2, L2, J2, R2, kn, nn2, dd, tk, tn, hb, fb2, c1, c2, ⟨x1, x2, x3, x4, x5, x6⟩, c4⟩ := hL
  refine ⟨v, I2, A2, L2, c1, fun s hs => ?_⟩
  obtain ⟨A3, d1, d2, _⟩ := t_sumUp (r := v) (s2 := s) c2.1 c2.2.2.1 (by rcases hs with rfl | rfl <;> exact ⟨by decide, by decide +kernel, by decide +kernel⟩) (by omega) (by omega) c4
  refine ⟨A3, d1, fun j k q => ?_, fun j k q => b6 j k (by omega) (by omega), c2.2.2.1, fun j m q => ?_, fun j m q => ?_⟩
  · rw [x1 j k (by omega) (by omega) (by omega), b7 j k (by omega) (by omega) (by omega), oI j k (by omega)]
  · obtain ⟨w1, w2, w3, w4, w5, w6, w7, w8, w9⟩ := xl_ne q
    rw [d2 j m (by rcases hs with rfl | rfl; exact w7; exact w8), x3 j m w5 w6 w2 w3 w4 w9, b8 j m w5 w6 w2 w9, o27 j m w1]
  · rw [x4 j m q, b9 j m q]
theorem t_iso : ∀ (k i fu : Nat) (v : Int32), i + k = 12 → k < fu → (v = 0 ∨ v = 1) → ∃ r, f_X6_isSameOutcome_L4 A (fun v5 => gd (v5 = 0 ∨ v5 = 1) <| some v5) fu (nI i) v = some r := by
  intro k
  induction k with
  | zero =>
    intro i fu v hi hf hv
    obtain ⟨fu, rfl⟩ : ∃ z, fu = z + 1 := ⟨fu - 1, by omega⟩
    refine ⟨v, ?_⟩
    rw [f_X6_isSameOutcome_L4, if_neg (show ¬ nI i < 12 from nI_nlt (b := 12) (by omega) (by omega)), gd_t hv]
  | succ k ih =>
    intro i fu v hi hf hv
    obtain ⟨fu, rfl⟩ : ∃ z, fu = z + 1 := ⟨fu - 1, by omega⟩
    have go : ∀ w, (w = 0 ∨ w = 1) → ∃ r, f_X6_isSameOutcome_L4 A (fun v5 => gd (v5 = 0 ∨ v5 = 1) <| some v5) fu (nI i + 1) w = some r := fun w hw => by rw [nI_1]; exact ih (i + 1) fu w (by omega) (by omega) hw
    have st : ∀ z9 : Int32, ∃ r, (if v = 0 then (f_X6_isSameOutcome_L4 A (fun v5 => gd (v5 = 0 ∨ v5 = 1) <| some v5) fu (nI i + 1) 0) else (if z9 = 0 then (gd (inr (nI i) 12) <| if (A 20 (nI i).toNatClampNeg) = (A 21 (nI i).toNatClampNeg) then (f_X6_isSameOutcome_L4 A (fun v5 => gd (v5 = 0 ∨ v5 = 1) <| some v5) fu (nI i + 1) 1) else (f_X6_isSameOutcome_L4 A (fun v5 => gd (v5 = 0 ∨ v5 = 1) <| some v5) fu (nI i + 1) 0)) else (f_X6_isSameOutcome_L4 A (fun v5 => gd (v5 = 0 ∨ v5 = 1) <| some v5) fu (nI i + 1) 1))) = some r := fun z9 => by
      rw [gd_in (show i < 12 by omega) (by omega)]
      split
      · exact go 0 (Or.inl rfl)
      · split
        · split
          · exact go 1 (Or.inr rfl)
          · exact go 0 (Or.inl rfl)
        · exact go 1 (Or.inr rfl)
    rw [f_X6_isSameOutcome_L4, if_pos (show nI i < 12 from nI_lt (b := 12) (by omega) (by omega))]
    simp only [bd]
    split
    · exact st 1
    · split
      · exact st 1
      · exact st 0
/-- the end of same() -/
noncomputable def kZ : (Nat → Nat → Int32) → (Nat → Nat → Nat) → (Nat → Nat → Int32) → (Nat → Nat → Int64) → Option (Int32 × (Nat → Nat → Int32) × (Nat → Nat → Nat) × (Nat → Nat → Int32) × (Nat → Nat → Int64)) := fun I15 G16 A17 L18 => Option.bind (f_X6_isSameOutcome A17) fun r19 => Option.bind (f_X6_asNumber r19) fun r21 => some (r21, I15, G16, A17, L18)
theorem kZ_s : ∃ r, kZ I G A L = some (r, I, G, A, L) := by
  obtain ⟨r, e⟩ := t_iso (A := A) 12 0 FU 1 (by omega) (by have := FU_le; omega) (Or.inr rfl)
  have e1 : f_X6_isSameOutcome A = some r := e
  refine ⟨if r = 0 then 0 else 1, ?_⟩
  unfold kZ f_X6_asNumber
  rw [e1, Option.bind_some]
  split <;> rfl
theorem t_same_L33 {a2 : Int32} (hTT : T = 22 ∨ T = 34) (hGT : G 14 0 = T) (hP : TPr I A R p (58 + 52 * p) nv nr) (h8 : I 8 1 = 0) (hz1 : 1 ≤ z) (hz5 : z ≤ 5) (ha : a2 = nI z) : ∃ I' G' A' L', f_X6_same_L33 (nI p) a2 kZ FU 0 I G A L = kZ I' G' A' L' ∧ XL T I G A L I' G' A' L' := by
  have hp := hP.1
  obtain ⟨fu, hfu⟩ : ∃ y, FU = y + 1 + 1 + 1 := ⟨FU - 3, by have := FU_le; omega⟩
  obtain ⟨A27, r30, I31, G32, A33, L34, e1, e2, e3⟩ := t_same_1 (L := L) (z := 1) (v9 := 0) (a1 := nI p) (a2 := a2) hTT hGT hP h8 (by omega) (by omega)
  obtain ⟨v43, I44, A45, L46, e4, e5⟩ := e3 (fun v43 I44 A45 L46 => Option.bind (f_X3_sumUp I44 G32 A45 L46 v43 20) fun A50 => f_X6_same_L33 (nI p) a2 kZ (fu + 1 + 1) (0 + 1) I44 G32 A50 L46)
  obtain ⟨A50, e6, x⟩ := e5 20 (Or.inl rfl)
  have hP2 : TPr I44 A50 R p (58 + 52 * p) nv nr := TPr_of2 hP (fun j k _ _ _ => x.1 j k (by omega)) (fun j k _ _ _ => x.2.2.2.1 j k (by omega)) (fun _ _ _ _ => rfl)
  obtain ⟨B27, r31, I32, G33, A34, L35, f1, f2, f3⟩ := t_same_1 (L := L46) (z := z) (v9 := 1) (a1 := nI p) (a2 := a2) hTT x.2.2.1 hP2 ((x.1 8 1 (by omega)).trans h8) hz1 hz5
  obtain ⟨v44, I45, A46, L47, f4, f5⟩ := f3 (fun v43 I44 A45 L46 => Option.bind (f_X3_sumUp I44 G33 A45 L46 v43 21) fun A48 => f_X6_same_L33 (nI p) a2 kZ (fu + 1) (1 + 1) I44 G33 A48 L46)
  obtain ⟨A51, f6, y⟩ := f5 21 (Or.inr rfl)
  refine ⟨I45, G33, A51, L47, ?_, XL_tr x y⟩
  rw [← ha] at f1 f2
  have g1 : f_X6_same_L33 (nI p) a2 kZ (fu + 1 + 1 + 1) 0 I G A L = f_X6_same_L33 (nI p) a2 kZ (fu + 1 + 1) (0 + 1) I44 G32 A50 L46 := by
    rw [f_X6_same_L33, if_pos (show (0 : Int32) < 2 by decide)]
    simp only [bd, if_true]
    rw [show f_X4_become I A 8 1 = _ from e1, Option.bind_some]
    show (gd (inr (nI p) 5) <| _) = _
    rw [gd_in (show p < 5 by omega) (by omega), t_cl (show p < 2147483648 by omega), e2, Option.bind_some]
    refine e4.trans ?_
    show Option.bind (f_X3_sumUp I44 G32 A45 L46 v43 20) _ = _
    rw [e6, Option.bind_some]
  have g2 : f_X6_same_L33 (nI p) a2 kZ (fu + 1 + 1) (0 + 1) I44 G32 A50 L46 = f_X6_same_L33 (nI p) a2 kZ (fu + 1) (1 + 1) I45 G33 A51 L47 := by
    rw [show (0 + 1 : Int32) = 1 by decide, f_X6_same_L33, if_pos (show (1 : Int32) < 2 by decide)]
    simp only [bd, show ¬ (1 : Int32) = 0 by decide, if_false]
    rw [f1, Option.bind_some]
    show (gd (inr (nI p) 5) <| _) = _
    rw [gd_in (show p < 5 by omega) (by omega), t_cl (show p < 2147483648 by omega), f2, Option.bind_some]
    refine f4.trans ?_
    show Option.bind (f_X3_sumUp I45 G33 A46 L47 v44 21) _ = _
    rw [f6, Option.bind_some]
  rw [hfu, g1, g2, f_X6_same_L33, if_neg (by decide)]
theorem k_same0 (a1 a2 : Int32) (h : Rel n I G A L J R) : ∃ r r' I' G' A' L' J', f_X6_same I G A L a1 a2 = some (r, I', G', A', L') ∧ f_X7_same J a1 a2 = some (r', J') ∧ (a1 = a1) ∧ Rel (n + 1) I' G' A' L' J' R := by
  have hr := Rel_J0 h
  have hu := Rel_u h
  obtain ⟨np, z, sc, ⟨p1, p2, p3, p4⟩, q2, q3, q4, q5c, q5, q6, q7, ⟨b1, T, b2, b3, b4⟩, q9⟩ := id h
  have e : ∀ k, k ≠ 0 → up2 J 318 0 0 318 k = J 318 k := fun k q => up0 q
  unfold f_X6_same f_X7_same
  simp only [bd, (t_wi a2 1 5).1, (t_wi a2 1 5).2, Option.bind_some]
  rw [e 23 (by decide), ← hu]
  rcases t_isP (a := a1) (I := I) (J := up2 J 318 0 0) p2 ((e 2 (by decide)).trans p3) p1 with ⟨p, hp, rfl, e1, e2⟩ | ⟨e1, e2⟩
  · rw [e1, e2, Option.bind_some, Option.bind_some, if_neg z10, if_neg z10]
    by_cases hc : ¬ a2 < 1 ∧ ¬ 5 < a2
    · rw [if_pos hc, if_neg z10, if_neg z10]
      by_cases hw : I 0 5 = -9
      · rw [if_pos hw, if_pos hw]
        have hx : ∃ x, 1 ≤ x ∧ x ≤ 5 ∧ a2 = nI x := by
          obtain ⟨x, h1, h2⟩ := nI_of2 (M := 5) (n := 5) (by decide) (fun q => hc.1 (Int32.lt_trans q (by decide))) (Int32.not_lt.mp hc.2)
          refine ⟨x, ?_, h1, h2⟩
          rcases Nat.eq_zero_or_pos x with r | r
          · exfalso; rw [h2, r] at hc; exact hc.1 (by decide)
          · exact r
        obtain ⟨x, x1, x5, hx⟩ := hx
        obtain ⟨⟨nv, nr, hP⟩, _⟩ := p4 p (by omega)
        obtain ⟨I', G', A', L', d1, d2⟩ := t_same_L33 (L := L) (T := T) (by omega) b2 hP q7.2 x1 x5 hx
        obtain ⟨r, d3⟩ := kZ_s (I := I') (G := G') (A := A') (L := L')
        exact ⟨r, 1, I', G', A', L', _, d1.trans d3, rfl, trivial, Rel_XL h hw b2 d2⟩
      · rw [if_neg hw, if_neg hw]
        exact ⟨-2, -2, I, G, A, L, _, rfl, rfl, trivial, hr⟩
    · rw [if_neg hc, if_pos rfl, if_pos rfl]
      exact ⟨-1, -1, I, G, A, L, _, rfl, rfl, trivial, hr⟩
  · rw [e1, e2, Option.bind_some, Option.bind_some, if_pos rfl, if_pos rfl]
    exact ⟨-1, -1, I, G, A, L, _, rfl, rfl, trivial, hr⟩
end SQ
