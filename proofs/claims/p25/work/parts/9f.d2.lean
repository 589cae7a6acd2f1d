/-! p25: what both runs tell, and same's answer -/
section SD
variable {I A J R : Nat → Nat → Int32} {G : Nat → Nat → Nat} {L : Nat → Nat → Int64} {p nv nr T z n : Nat} {I0 A0 X Y : Nat → Nat → Int32} {B v s t : Nat} {lim : Int32}
/-- what a run tells -/
def OU (X : Nat → Nat → Int32) (s : Nat) (r : Int32) (tk nn : Nat) (R : Nat → Nat → Int32) : Prop := X s 0 = r ∧ X s 1 = nI tk ∧ ((r = 1 ∧ 0 < tk ∧ ∃ m, m < nn ∧ R 346 (tk - 1) = nI m ∧ X s 4 = R 341 m ∧ X s 5 = R 341 m ∧ ∀ v, v < 6 → X s (6 + v) = R 339 (6 * m + v)) ∨ (¬ (r = 1 ∧ 0 < tk) ∧ X s 4 = -1000000 ∧ X s 5 = bno R (nxw R nn) ∧ ∀ v, v < 6 → X s (6 + v) = -9))
/-- told of an ended run of the problem -/
def RE (I A : Nat → Nat → Int32) (p B v nv nr : Nat) (lim : Int32) (X : Nat → Nat → Int32) (s : Nat) : Prop := (¬ (lkw I A B v nv nr (fun _ => 0) 0).1 = 0 ∧ ∃ R, OU X s 2 0 0 R) ∨ ((lkw I A B v nv nr (fun _ => 0) 0).1 = 0 ∧ ∃ J R nn dd tk tn z r, MV I A J R p B v nv nr nn dd tk tn z ∧ Fin9 R nv nn tk lim r ∧ ¬ r = 0 ∧ 0 < nn ∧ OU X s r tk nn R)
theorem RE_eq (a : RE I A p B v nv nr lim X s) (b : RE I A p B v nv nr lim Y t) : X s 0 = Y t 0 ∧ X s 1 = Y t 1 ∧ X s 4 = Y t 4 ∧ X s 5 = Y t 5 ∧ ∀ i, i < 6 → X s (6 + i) = Y t (6 + i) := by
  rcases a with ⟨a0, R1, a1, a2, a3⟩ | ⟨a0, J1, R1, nn1, dd1, tk1, tn1, z1, r1, aM, aF, ar, an, a1, a2, a3⟩
  · rcases b with ⟨b0, R2, b1, b2, b3⟩ | ⟨b0, _⟩
    · have a3' := a3.resolve_left (fun q => absurd q.1 (by decide))
      have b3' := b3.resolve_left (fun q => absurd q.1 (by decide))
      refine ⟨a1.trans b1.symm, a2.trans b2.symm, a3'.2.1.trans b3'.2.1.symm, ?_, fun i hi => (a3'.2.2.2 i hi).trans (b3'.2.2.2 i hi).symm⟩
      rw [a3'.2.2.1, b3'.2.2.1]
      have e0 : ∀ F : Nat → Nat → Int32, nxw F 0 = none := fun _ => rfl
      have e9 : ∀ F : Nat → Nat → Int32, bno F none = -1000000 := fun _ => by unfold bno; exact Eq.refl _
      rw [e0, e0, e9, e9]
    · exact absurd b0 a0
  · rcases b with ⟨b0, _⟩ | ⟨b0, J2, R2, nn2, dd2, tk2, tn2, z2, r2, bM, bF, br, bn, b1, b2, b3⟩
    · exact absurd a0 b0
    · obtain ⟨e1, e2, e3, e4⟩ := end_eq aM bM an bn aF bF ar br
      refine ⟨by rw [a1, b1, e2], by rw [a2, b2, e1], ?_⟩
      rcases a3 with ⟨c1, c2, m1, c3, c4, c5, c6, c7⟩ | ⟨c1, c2, c3, c4⟩
      · rcases b3 with ⟨d1, d2, m2, d3, d4, d5, d6, d7⟩ | ⟨d1, _⟩
        · obtain ⟨f1, f2⟩ := e4 m1 m2 c2 c3 d3 c4 d4
          exact ⟨by rw [c5, d5, f1], by rw [c6, d6, f1], fun i hi => by rw [c7 i hi, d7 i hi, f2 i hi]⟩
        · exact absurd ⟨by rw [← e2]; exact c1, by omega⟩ d1
      · rcases b3 with ⟨d1, d2, _⟩ | ⟨d1, d2, d3, d4⟩
        · exact absurd ⟨by rw [e2]; exact d1, by omega⟩ c1
        · exact ⟨by rw [c2, d2], by rw [c3, d3, e3], fun i hi => by rw [c4 i hi, d4 i hi]⟩
theorem t_same_2 {v9 a1 a2 : Int32} (hTT : T = 22 ∨ T = 34) (hGT : G 14 0 = T) (hP : TPr I A R p (58 + 52 * p) nv nr) (hP0 : TPr I0 A0 R p (58 + 52 * p) nv nr) (h8 : I 8 1 = 0) (hz1 : 1 ≤ z) (hz5 : z ≤ 5) : ∃ A27 r30 I31 G32 A33 L34, f_X4_become I A 8 (nI z) = some (up2 I 8 0 (nI z), A27) ∧ f_X3_begin (up2 I 8 0 (nI z)) G A27 L (58 + 52 * p) 8 (up2 I 8 0 (nI z) 0 3) = some (r30, I31, G32, A33, L34) ∧ ∀ k42, ∃ v43 I44 A45 L46, f_X6_same_L80 v9 a1 a2 G32 k42 FU 0 r30 I31 A33 L34 = k42 v43 I44 A45 L46 ∧ ∀ s, s = 20 ∨ s = 21 → ∃ A50, f_X3_sumUp I44 G32 A45 L46 v43 s = some A50 ∧ XL T I G A L I44 G32 A50 L46 ∧ (∀ m, ¬ s = 20 → A50 20 m = A 20 m) ∧ RE I0 A0 p (58 + 52 * p) 56 nv nr (I 0 3) A50 s := by
  have hp := hP.1
  obtain ⟨A27, eA⟩ : ∃ w, fil A 9 5 0 = w := ⟨_, rfl⟩
  have o27 : ∀ j m, j ≠ 9 → A27 j m = A j m := fun j m q => by rw [← eA, fil_j q]
  have z27 : ∀ m, m < 5 → A27 9 m = 0 := fun m hm => by rw [← eA]; unfold fil; rw [if_pos ⟨rfl, hm⟩]
  have oI : ∀ j k, ¬ (j = 8 ∧ k = 0) → up2 I 8 0 (nI z) j k = I j k := fun j k q => by unfold up2; rw [if_neg q]
  obtain ⟨J0, eJ⟩ : ∃ w : Nat → Nat → Int32, w = fun _ k => if k = 15 then nI z else if k = 24 then I 0 3 else 0 := ⟨_, rfl⟩
  obtain ⟨R0, eR⟩ : ∃ w : Nat → Nat → Int32, w = fun j m => if j = 332 then A27 12 m else if j = 333 then A27 13 m else if j = 337 then -9 else if 330 ≤ j ∧ j ≤ 336 then 0 else R j m := ⟨_, rfl⟩
  have hR0 : ∀ j k, 319 ≤ j → j ≤ 328 → R0 j k = R j k := fun j k q1 q2 => by rw [eR]; show (if j = 332 then _ else _) = _; rw [if_neg (by omega), if_neg (by omega), if_neg (by omega), if_neg (by omega)]
  have hPa : TPr (up2 I 8 0 (nI z)) A27 R0 p (58 + 52 * p) nv nr := TPr_of2 hP (fun j k _ _ _ => oI j k (by omega)) (fun j k _ _ _ => o27 j k (by omega)) hR0
  have hPb : TPr I0 A0 R0 p (58 + 52 * p) nv nr := TPr_of2 hP0 (fun _ _ _ _ _ => rfl) (fun _ _ _ _ _ => rfl) hR0
  have hTe : TTe (up2 I 8 0 (nI z)) A27 J0 R0 8 z 0 := ⟨up2_s _ _ _ _, by rw [eJ]; rfl, hz1, hz5, by rw [oI _ _ (by omega)]; exact h8, by rw [eJ]; rfl, by omega, fun i hi => absurd hi (by omega)⟩
  obtain ⟨r, I1, G1, A1, L1, J1, R1, nn, fb, b1, b2, b3, b4, b5, b6, b7, b8, b9, b10, b11⟩ := t_begin (L := L) (w := up2 I 8 0 (nI z) 0 3) hTT hGT (Or.inr rfl) hPa hTe (fun h hh => ⟨⟨0, by omega, z27 h hh, by rw [eR]; rfl⟩, by rw [eR]; rfl, by rw [eR]; rfl, by rw [eR]; rfl, by rw [eR]; rfl, by rw [eR]; rfl⟩) (by rw [eJ, oI _ _ (by omega)]; rfl) (by rw [eJ]; rfl)
  obtain ⟨J1', R1', c1, c2, c3⟩ := r_bgn (J := J0) (v := 56) (z := z) hPb (by omega) hz1 hz5 (fun h hh => ⟨by rw [eR]; rfl, by rw [eR]; rfl⟩)
  rw [c1] at b2
  obtain ⟨rfl, rfl⟩ := Prod.mk.inj (Option.some.inj b2)
  refine ⟨A27, r, I1, G1, A1, L1, t_become eA, b1, fun k42 => ?_⟩
  have hl24 : J1' 318 24 = I 0 3 := by rw [c3 24 (by omega), eJ]; rfl
  have hL : ∃ v43 I44 A45 L46 J' R' kn' nn' dd' tk' tn' hb' fb', f_X6_same_L80 v9 a1 a2 G1 k42 FU 0 r I1 A1 L1 = k42 v43 I44 A45 L46 ∧ TSv I44 G1 A45 L46 J' R' T 8 p (58 + 52 * p) nv nr kn' nn' dd' tk' tn' hb' z 0 fb' ∧ XT T 8 I1 A1 L1 J1' R1' I44 A45 L46 J' R' ∧ tk' ≤ 250 ∧ ((¬ (lkw I0 A0 (58 + 52 * p) 56 nv nr (fun _ => 0) 0).1 = 0 ∧ v43 = 2 ∧ tk' = 0 ∧ nn' = 0) ∨ ((lkw I0 A0 (58 + 52 * p) 56 nv nr (fun _ => 0) 0).1 = 0 ∧ ∃ tn dd, MV I0 A0 J' R' p (58 + 52 * p) 56 nv nr nn' dd tk' tn z ∧ Fin9 R' nv nn' tk' (I 0 3) v43 ∧ ¬ v43 = 0 ∧ 0 < nn')) := by
    rcases b4 with ⟨e1, rfl⟩ | ⟨e1, rfl⟩
    · subst e1
      rcases c2 with ⟨d1, d2⟩ | ⟨d1, d2, _⟩
      · refine ⟨2, I1, A1, L1, J1', R1', _, _, _, _, _, _, _, ?_, b3, XT_rf, by omega, Or.inl ⟨d1, rfl, rfl, rfl⟩⟩
        obtain ⟨fu, hfu⟩ : ∃ y, FU = y + 1 := ⟨FU - 1, by have := FU_le; omega⟩
        rw [hfu, f_X6_same_L80, if_pos (show (0 : Int32) < 1000000 by decide), if_neg (by decide)]
      · exact absurd ((t_eq (by omega) (by omega)).mp (b5.symm.trans d2)) (by omega)
    · subst e1
      rcases c2 with ⟨d1, d2⟩ | ⟨d1, d2, d3, d4, d5⟩
      · exact absurd ((t_eq (by omega) (by omega)).mp (b5.symm.trans d2)) (by omega)
      · obtain ⟨km, hkm⟩ : ∃ w : Nat, w = 1000000 := ⟨_, rfl⟩
        obtain ⟨v43, I', A', L', J', R', kn', nn', dd', tk', tn', hb', fb', s1, s2, s3, s4, s5, s6, s7⟩ := t_same_L2 (v9 := v9) (a1 := a1) (a2 := a2) (k42 := k42) km 0 FU 0 0 1 1 0 0 6 fb I1 A1 L1 J1' R1' (by omega) (by have := FU_le; omega) (by omega) (by omega) (by omega) b3 d3 (fun k m hk => absurd hk (by omega)) hl24 ⟨0, d4, d5⟩ (Or.inr (by omega)) (by omega)
        exact ⟨v43, I', A', L', J', R', kn', nn', dd', tk', tn', hb', fb', s1, s2, s3, s4.2.2.2.2.2.2.2.2.1, Or.inr ⟨d1, tn', dd', s4, s5, s6, s7⟩⟩
  obtain ⟨vr, I2, A2, L2, J2, R2, kn, nn2, dd, tk, tn, hb, fb2, k1, k2, ⟨x1, x2, x3, x4, x5, x6⟩, k4, k5⟩ := hL
  refine ⟨vr, I2, A2, L2, k1, fun s hs => ?_⟩
  obtain ⟨A3, d1, d2, o0, o1, _, _, o4⟩ := t_sumUp (r := vr) (s2 := s) k2.1 k2.2.2.1 (by rcases hs with rfl | rfl <;> exact ⟨by decide, by decide +kernel, by decide +kernel⟩) (by omega) (by omega) k4
  have hOU : OU A3 s vr tk nn2 R2 := ⟨o0, o1, by
    rcases o4 with ⟨q1, q2, m, q3, q4, q5, q6, q7⟩ | q
    · exact Or.inl ⟨q1, q2, m, q3, q4, q5, q6, q7⟩
    · exact Or.inr q⟩
  refine ⟨A3, d1, ⟨fun j k q => ?_, fun j k q => b6 j k (by omega) (by omega), k2.2.2.1, fun j m q => ?_, fun j m q => ?_⟩, fun m hs20 => ?_, ?_⟩
  · rw [x1 j k (by omega) (by omega) (by omega), b7 j k (by omega) (by omega) (by omega), oI j k (by omega)]
  · obtain ⟨w1, w2, w3, w4, w5, w6, w7, w8, w9⟩ := xl_ne q
    rw [d2 j m (by rcases hs with rfl | rfl; exact w7; exact w8), x3 j m w5 w6 w2 w3 w4 w9, b8 j m w5 w6 w2 w9, o27 j m w1]
  · rw [x4 j m q, b9 j m q]
  · have nT : 20 < T + 2 := by rcases hTT with r | r <;> omega
    rw [d2 20 m (fun r => hs20 r.symm), x3 20 m (by decide) (by decide) (by decide) (by decide) (by decide) (Or.inl nT), b8 20 m (by decide) (by decide) (by decide) (Or.inl nT), o27 20 m (by decide)]
  · rcases k5 with ⟨q1, q2, q3, q4⟩ | ⟨q1, tn9, dd9, q2, q3, q4, q5⟩
    · subst q2 q3 q4
      exact Or.inl ⟨q1, R2, hOU⟩
    · exact Or.inr ⟨q1, J2, R2, nn2, dd9, tk, tn9, z, vr, q2, q3, q4, q5, hOU⟩
theorem t_iso1 (h : ∀ i, i < 12 → i ≠ 2 → i ≠ 3 → A 20 i = A 21 i) : ∀ (k i fu : Nat), i + k = 12 → k < fu → f_X6_isSameOutcome_L4 A (fun v5 => gd (v5 = 0 ∨ v5 = 1) <| some v5) fu (nI i) 1 = some 1 := by
  intro k
  induction k with
  | zero =>
    intro i fu hi hf
    obtain ⟨fu, rfl⟩ : ∃ z, fu = z + 1 := ⟨fu - 1, by omega⟩
    rw [f_X6_isSameOutcome_L4, if_neg (show ¬ nI i < 12 from nI_nlt (b := 12) (by omega) (by omega)), gd_t (Or.inr rfl)]
  | succ k ih =>
    intro i fu hi hf
    obtain ⟨fu, rfl⟩ : ∃ z, fu = z + 1 := ⟨fu - 1, by omega⟩
    have go := ih (i + 1) fu (by omega) (by omega)
    have o10 : ¬ (1 : Int32) = 0 := by decide
    rw [f_X6_isSameOutcome_L4, if_pos (show nI i < 12 from nI_lt (b := 12) (by omega) (by omega))]
    simp only [bd, o10, if_false, if_true]
    by_cases c2 : nI i = 2
    · rw [if_pos c2, nI_1]; exact go
    · rw [if_neg c2]
      by_cases c3 : nI i = 3
      · rw [if_pos c3, nI_1]; exact go
      · rw [if_neg c3, gd_in (by omega) (by omega), t_cl (by omega), if_pos (h i (by omega) (fun r => c2 (by rw [r]; rfl)) (fun r => c3 (by rw [r]; rfl))), nI_1]
        exact go
theorem kZ_1 (h : ∀ i, i < 12 → i ≠ 2 → i ≠ 3 → A 20 i = A 21 i) : kZ I G A L = some (1, I, G, A, L) := by
  have e1 : f_X6_isSameOutcome A = some 1 := t_iso1 h 12 0 FU (by omega) (by have := FU_le; omega)
  unfold kZ f_X6_asNumber
  rw [e1, Option.bind_some, if_neg (by decide), Option.bind_some]
theorem t_same_M33 {a2 : Int32} (hTT : T = 22 ∨ T = 34) (hGT : G 14 0 = T) (hP : TPr I A R p (58 + 52 * p) nv nr) (h8 : I 8 1 = 0) (hz1 : 1 ≤ z) (hz5 : z ≤ 5) (ha : a2 = nI z) : ∃ I' G' A' L', f_X6_same_L33 (nI p) a2 kZ FU 0 I G A L = kZ I' G' A' L' ∧ XL T I G A L I' G' A' L' ∧ ∀ i, i < 12 → i ≠ 2 → i ≠ 3 → A' 20 i = A' 21 i := by
  have hp := hP.1
  obtain ⟨fu, hfu⟩ : ∃ y, FU = y + 1 + 1 + 1 := ⟨FU - 3, by have := FU_le; omega⟩
  obtain ⟨A27, r30, I31, G32, A33, L34, e1, e2, e3⟩ := t_same_2 (L := L) (z := 1) (v9 := 0) (a1 := nI p) (a2 := a2) hTT hGT hP hP h8 (by omega) (by omega)
  obtain ⟨v43, I44, A45, L46, e4, e5⟩ := e3 (fun v43 I44 A45 L46 => Option.bind (f_X3_sumUp I44 G32 A45 L46 v43 20) fun A50 => f_X6_same_L33 (nI p) a2 kZ (fu + 1 + 1) (0 + 1) I44 G32 A50 L46)
  obtain ⟨A50, e6, x, _, re1⟩ := e5 20 (Or.inl rfl)
  have hP2 : TPr I44 A50 R p (58 + 52 * p) nv nr := TPr_of2 hP (fun j k _ _ _ => x.1 j k (by omega)) (fun j k _ _ _ => x.2.2.2.1 j k (by omega)) (fun _ _ _ _ => rfl)
  obtain ⟨B27, r31, I32, G33, A34, L35, f1, f2, f3⟩ := t_same_2 (L := L46) (z := z) (v9 := 1) (a1 := nI p) (a2 := a2) hTT x.2.2.1 hP2 hP ((x.1 8 1 (by omega)).trans h8) hz1 hz5
  obtain ⟨v44, I45, A46, L47, f4, f5⟩ := f3 (fun v43 I44 A45 L46 => Option.bind (f_X3_sumUp I44 G33 A45 L46 v43 21) fun A48 => f_X6_same_L33 (nI p) a2 kZ (fu + 1) (1 + 1) I44 G33 A48 L46)
  obtain ⟨A51, f6, y, keep, re2⟩ := f5 21 (Or.inr rfl)
  have e03 : I44 0 3 = I 0 3 := x.1 0 3 (by omega)
  rw [e03] at re2
  obtain ⟨w0, w1, w4, w5, w6⟩ := RE_eq re1 re2
  refine ⟨I45, G33, A51, L47, ?_, XL_tr x y, fun i hi n2 n3 => ?_⟩
  · rw [← ha] at f1 f2
    have g1 : f_X6_same_L33 (nI p) a2 kZ (fu + 1 + 1 + 1) 0 I G A L = f_X6_same_L33 (nI p) a2 kZ (fu + 1 + 1) (0 + 1) I44 G32 A50 L46 := by
      rw [f_X6_same_L33, if_pos (show (0 : Int32) < 2 by decide)]
      simp only [bd, if_true]
      rw [show f_X4_become I A 8 1 = _ from e1, Option.bind_some]
      show (gd (inr (nI p) 5) <| _) = _
      rw [gd_in (show p < 5 by omega) (by omega), t_cl (show p < 2147483648 by omega), e2, Option.bind_some]
      refine e4.trans ?_
      show Option.bind (f_X3_sumUp I44 G32 A45 L46 v43 20) _ = _
      rw [e6, Option.bind_some]
    have g2 : f_X6_same_L33 (nI p) a2 kZ (fu + 1 + 1) (0 + 1) I44 G32 A50 L46 = f_X6_same_L33 (nI p) a2 kZ (fu + 1) (1 + 1) I45 G33 A51 L47 := by
      rw [show (0 + 1 : Int32) = 1 by decide, f_X6_same_L33, if_pos (show (1 : Int32) < 2 by decide)]
      simp only [bd, show ¬ (1 : Int32) = 0 by decide, if_false]
      rw [f1, Option.bind_some]
      show (gd (inr (nI p) 5) <| _) = _
      rw [gd_in (show p < 5 by omega) (by omega), t_cl (show p < 2147483648 by omega), f2, Option.bind_some]
      refine f4.trans ?_
      show Option.bind (f_X3_sumUp I45 G33 A46 L47 v44 21) _ = _
      rw [f6, Option.bind_some]
    rw [hfu, g1, g2, f_X6_same_L33, if_neg (by decide)]
  · rw [keep i (by decide)]
    rcases (show i = 0 ∨ i = 1 ∨ i = 4 ∨ i = 5 ∨ ∃ j, j < 6 ∧ i = 6 + j by
      rcases Nat.lt_or_ge i 6 with q | q
      · omega
      · exact Or.inr (Or.inr (Or.inr (Or.inr ⟨i - 6, by omega, by omega⟩)))) with rfl | rfl | rfl | rfl | ⟨j, hj, rfl⟩
    · exact w0
    · exact w1
    · exact w4
    · exact w5
    · exact w6 j hj
/-- same, with its answer -/
theorem k_same (a1 a2 : Int32) (h : Rel n I G A L J R) : ∃ r I' G' A' L' J', f_X6_same I G A L a1 a2 = some (r, I', G', A', L') ∧ f_X7_same J a1 a2 = some (r, J') ∧ Rel (n + 1) I' G' A' L' J' R := by
  have hr := Rel_J0 h
  have hu := Rel_u h
  obtain ⟨np, z, sc, ⟨p1, p2, p3, p4⟩, q2, q3, q4, q5c, q5, q6, q7, ⟨b1, T, b2, b3, b4⟩, q9⟩ := id h
  have e : ∀ k, k ≠ 0 → up2 J 318 0 0 318 k = J 318 k := fun k q => up0 q
  unfold f_X6_same f_X7_same
  simp only [bd, (t_wi a2 1 5).1, (t_wi a2 1 5).2, Option.bind_some]
  rw [e 23 (by decide), ← hu]
  rcases t_isP (a := a1) (I := I) (J := up2 J 318 0 0) p2 ((e 2 (by decide)).trans p3) p1 with ⟨p, hp, rfl, e1, e2⟩ | ⟨e1, e2⟩
  · rw [e1, e2, Option.bind_some, Option.bind_some, if_neg z10, if_neg z10]
    by_cases hc : ¬ a2 < 1 ∧ ¬ 5 < a2
    · rw [if_pos hc, if_neg z10, if_neg z10]
      by_cases hw : I 0 5 = -9
      · rw [if_pos hw, if_pos hw]
        have hx : ∃ x, 1 ≤ x ∧ x ≤ 5 ∧ a2 = nI x := by
          obtain ⟨x, h1, h2⟩ := nI_of2 (M := 5) (n := 5) (by decide) (fun q => hc.1 (Int32.lt_trans q (by decide))) (Int32.not_lt.mp hc.2)
          refine ⟨x, ?_, h1, h2⟩
          rcases Nat.eq_zero_or_pos x with r | r
          · exfalso; rw [h2, r] at hc; exact hc.1 (by decide)
          · exact r
        obtain ⟨x, x1, x5, hx⟩ := hx
        obtain ⟨⟨nv, nr, hP⟩, _⟩ := p4 p (by omega)
        obtain ⟨I', G', A', L', d1, d2, d3⟩ := t_same_M33 (L := L) (T := T) (by omega) b2 hP q7.2 x1 x5 hx
        exact ⟨1, I', G', A', L', _, d1.trans (kZ_1 d3), rfl, Rel_XL h hw b2 d2⟩
      · rw [if_neg hw, if_neg hw]
        exact ⟨-2, I, G, A, L, _, rfl, rfl, hr⟩
    · rw [if_neg hc, if_pos rfl, if_pos rfl]
      exact ⟨-1, I, G, A, L, _, rfl, rfl, hr⟩
  · rw [e1, e2, Option.bind_some, Option.bind_some, if_pos rfl, if_pos rfl]
    exact ⟨-1, I, G, A, L, _, rfl, rfl, hr⟩
end SD
