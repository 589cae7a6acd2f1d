/-! THE TIE: solve -/
section CM
variable {I A : Nat → Nat → Int32} {G : Nat → Nat → Nat} {L : Nat → Nat → Int64} {J R : Nat → Nat → Int32} {n np z sc T p nv nr kn nn dd tk tn hb ms : Nat} {fb : Nat → Option (Nat × Nat)}
/-- what stands behind the class's loop, and the reference's -/
noncomputable def kc (G : Nat → Nat → Nat) : Int32 → (Nat → Nat → Int32) → (Nat → Nat → Int32) → (Nat → Nat → Int64) → Option (Int32 × (Nat → Nat → Int32) × (Nat → Nat → Nat) × (Nat → Nat → Int32) × (Nat → Nat → Int64)) := fun v30 I31 A32 L33 => if v30 = 0 then (some (v30, I31, G, A32, L33)) else (Option.bind (f_X6_endSolving I31 G A32 L33 v30) fun (I35, G36, A37) => some (v30, I35, G36, A37, L33))
noncomputable def kr (a1 : Int32) : Int32 → (Nat → Nat → Int32) → (Nat → Nat → Int32) → Option (Int32 × (Nat → Nat → Int32) × (Nat → Nat → Int32)) := fun v39 I40 A41 => Option.bind (f_X7_endsAs I40 A41 a1 v39) fun (I42, A43) => some (v39, I42, A43)
def k0 : (Nat → Nat → Int32) → (Nat → Nat → Int32) → Option (Int32 × (Nat → Nat → Int32) × (Nat → Nat → Int32)) := fun I46 A47 => some ((0 : Int32), I46, A47)
theorem t_run (h : RS n I G A L J R np z sc) (hT : (T = 22 ∧ G 0 6 = 34) ∨ (T = 34 ∧ G 0 6 = 22)) (hS : TSv I G A L J R T 2 p (58 + 52 * p) nv nr kn nn dd tk tn hb z sc fb) (hp : p < np) (hu : I 0 5 = nI p) (hj : J 318 23 = nI p) (htk : tk < 250) (htn : tn ≤ 500 * n) (hhb : hb ≤ 500 * n) (hn : n ≤ 1000) (hms : ms ≤ 500) : ∃ r I' G' A' L' J' R', f_X6_solve_L82 (nI ms) G (kc G) FU 0 0 I A L = some (r, I', G', A', L') ∧ f_X7_solve_L143 (nI p) (nI ms) (kr (nI p)) k0 FU 0 J R = some (r, J', R') ∧ (Q9 R' → Rel (n + 1) I' G' A' L' J' R') := by
  obtain ⟨r, I', A', L', J', R', kn', nn', dd', tk', tn', hb', fb', e1, e2, hS', hX, he, b1, b2⟩ := t_loop (k29 := kc G) (k38 := kr (nI p)) (k45 := k0) hms ms 0 FU FU tn hb kn nn dd tk fb I A L J R (by omega) (t_fu _ (by omega)) (t_fu _ (by omega)) (by omega) (by omega) htk hS
  obtain ⟨x1, x2, x3, x4, x5, x6⟩ := hX
  have hT2 : T = 22 ∨ T = 34 := by
    rcases hT with ⟨a, _⟩ | ⟨a, _⟩
    · exact Or.inl a
    · exact Or.inr a
  have hRS : RS n I' G A' L' J' R' np z sc := RS_fr h hT (fun j k q1 q2 q3 q4 => x1 j k q1 q2 (by omega)) (fun _ _ _ _ => rfl) (fun j m q1 q2 q3 q4 q5 q6 => x3 j m q1 q2 (by omega) (by omega) (by omega) q6) x4 (fun k q => x5 _ _ (by omega)) x6 (fun h hh => (hS'.2.2.2.2.2.2.1 h hh).2.2)
  have hu' : I' 0 5 = nI p := by rw [x1 _ _ (by omega) (by omega) (by omega)]; exact hu
  have hj' : J' 318 23 = nI p := by rw [x5 _ _ (by omega)]; exact hj
  have e1' : f_X6_solve_L82 (nI ms) G (kc G) FU 0 0 I A L = kc G r I' A' L' := e1
  have e2' : f_X7_solve_L143 (nI p) (nI ms) (kr (nI p)) k0 FU 0 J R = (if 0 < r then kr (nI p) r J' R' else k0 J' R') := e2
  rw [e1', e2']
  rcases he with ⟨r0, r1⟩ | ⟨r0, r1⟩
  · subst r0
    unfold kc k0
    rw [if_pos rfl, if_neg (by decide)]
    refine ⟨_, _, _, _, _, _, _, rfl, rfl, fun h9 => ?_⟩
    obtain ⟨q1, q2, q3, q4, q5c, q5, q6, q7, q8⟩ := hRS
    exact ⟨np, z, sc, q1, q2, q3, q4, Q5c_of q5c (Nat.le_succ n) rfl (fun _ _ => rfl) (fun _ => rfl), q5, q6, q7, ⟨q8, T, hS'.2.2.1, hT, Or.inr ⟨p, nv, nr, kn', nn', dd', tk', tn', hb', fb', hp, hu', hj', hS', r1, by omega, by omega⟩⟩, h9⟩
  · obtain ⟨I2, G2, A2, J2, R2, y1, y2, y3⟩ := t_end hRS hT hS' hp hu' r0 r1
    have hr : 0 < r := by
      rcases r1 with ⟨a, _⟩ | ⟨a, _⟩ | ⟨a, _⟩ | a | a
      · exact absurd a r0
      · rw [a]; decide
      · rw [a]; decide
      · rw [a]; decide
      · rw [a]; decide
    unfold kc kr
    rw [if_neg r0, if_pos hr, y1, y2]
    exact ⟨_, _, _, _, _, _, _, rfl, rfl, y3⟩
theorem t_500 {a : Int32} (h : ¬ a < 1 ∧ ¬ 500 < a) : ∃ s, 1 ≤ s ∧ s ≤ 500 ∧ a = nI s := by
  have h0 : ¬ a < 0 := fun q => h.1 (Int32.lt_trans q (by decide))
  rcases t_rng (a := a) (hi := 500) (by omega) with ⟨s, s1, rfl⟩ | hc
  · refine ⟨s, ?_, s1, rfl⟩
    rcases Nat.eq_zero_or_pos s with e | e
    · subst e
      exact absurd (show nI 0 < 1 by decide) h.1
    · exact e
  · exact absurd ⟨h0, h.2⟩ hc
theorem t_L82 {r : Int32} (hms : 1 ≤ ms) (hms5 : ms ≤ 500) (hr : ¬ r = 0) : f_X6_solve_L82 (nI ms) G (kc G) FU 0 r I A L = kc G r I A L := by
  obtain ⟨fu, e⟩ : ∃ z, FU = z + 1 := ⟨FU - 1, by have := FU_le; omega⟩
  rw [e, f_X6_solve_L82, if_pos (show 0 < nI ms from nI_lt (a := 0) (by omega) (by omega)), if_neg hr]
theorem k_solve0 (a1 a2 : Int32) (h : Rel n I G A L J R) (hn : n ≤ 1000) : ∃ r I' G' A' L' J' R', f_X6_solve I G A L a1 a2 = some (r, I', G', A', L') ∧ f_X7_solve J R a1 a2 = some (r, J', R') ∧ (Q9 R' → Rel (n + 1) I' G' A' L' J' R') := by
  have hr := Rel_J0 h
  have hu := Rel_u h
  obtain ⟨np, z, sc, q1, q2, q3, q4, q5c, q5, q6, q7, ⟨b1, T, b2, b3, b4⟩, q9⟩ := id h
  have hRS : RS n I G A L J R np z sc := ⟨q1, q2, q3, q4, q5c, q5, q6, q7, b1⟩
  obtain ⟨p1, p2, p3, p4⟩ := id q1
  have e : ∀ k, k ≠ 0 → up2 J 318 0 0 318 k = J 318 k := fun k q => up0 q
  have hT2 : T = 22 ∨ T = 34 := by
    rcases b3 with ⟨a, _⟩ | ⟨a, _⟩
    · exact Or.inl a
    · exact Or.inr a
  unfold f_X6_solve f_X7_solve
  simp only [bd, (t_wi a2 1 500).1, (t_wi a2 1 500).2, Option.bind_some, e 23 (by decide), ← hu]
  rcases t_isP (a := a1) (I := I) (J := up2 J 318 0 0) p2 ((e 2 (by decide)).trans p3) p1 with ⟨p, hp, rfl, e1, e2⟩ | ⟨e1, e2⟩
  · rw [e1, e2, Option.bind_some, Option.bind_some, if_neg z10, if_neg z10]
    by_cases hc : ¬ a2 < 1 ∧ ¬ 500 < a2
    · rw [if_pos hc, if_neg z10, if_neg z10]
      obtain ⟨ms, m1, m2, rfl⟩ := t_500 hc
      by_cases hw : I 0 5 = -9
      · rw [if_pos hw, if_pos hw, if_pos hw, if_pos hw]
        obtain ⟨⟨nv, nr, hP⟩, _⟩ := p4 p (by omega)
        obtain ⟨J77, eJ⟩ : ∃ z, z = up2 (up2 (up2 (up2 J 318 0 0) 318 23 (nI p)) 318 24 (up2 (up2 J 318 0 0) 318 23 (nI p) 318 19)) 318 28 0 := ⟨_, rfl⟩
        rw [← eJ]
        have oJ : ∀ k, ¬ (k = 0 ∨ k = 23 ∨ k = 24 ∨ k = 28) → J77 318 k = J 318 k := fun k q => by rw [eJ, up2_n (by omega), up2_n (by omega), up2_n (by omega), up2_n (by omega)]
        have j23 : J77 318 23 = nI p := by rw [eJ, up2_n (by omega), up2_n (by omega), up2_s]
        have j24 : J77 318 24 = J 318 19 := by rw [eJ, up2_n (by omega), up2_s, up2_n (by omega), up2_n (by omega)]
        have j28 : J77 318 28 = 0 := by rw [eJ, up2_s]
        obtain ⟨R75, r1, r2, r3⟩ := r_L75 (a1 := nI p) (a2 := nI ms) (I77 := J77) (R0 := R) (k81 := fun A82 => Option.bind (f_X7_begins J77 A82 (nI p) 1) fun (I83, A84) => if (I83 318 29) = 0 then (Option.bind (f_X7_endsAs I83 A84 (nI p) 2) fun (I87, A88) => some ((2 : Int32), I87, A88)) else (f_X7_solve_L143 (nI p) (nI ms) (kr (nI p)) k0 FU 0 I83 A84)) 5 0 FU R (by omega) (t_fu _ (by omega)) (fun h hh => by omega) (fun _ _ _ => rfl)
        have hP' : TPr (up2 I 0 5 (nI p)) A R75 p (58 + 52 * p) nv nr := TPr_of hP (fun j k _ _ => up2_n (by omega)) (fun _ _ _ _ => rfl) (fun j k _ _ => r3 j k (by omega))
        obtain ⟨⟨t1, t2, t3, t4, t5, t6, t7, t8⟩, q2b⟩ := q2
        have hTe' : TTe (up2 I 0 5 (nI p)) A J77 R75 2 z sc := ⟨by rw [up2_n (by omega)]; exact t1, by rw [oJ _ (by omega)]; exact t2, t3, t4, by rw [up2_n (by omega)]; exact t5, by rw [oJ _ (by omega)]; exact t6, t7, fun i hi => by rw [r3 _ _ (by omega)]; exact t8 i hi⟩
        have hh' : ∀ h, h < 5 → (∃ f, f ≤ 200 ∧ A (2 + 1) h = nI f ∧ R75 335 h = nI f) ∧ R75 336 h = 0 ∧ R75 334 h = 0 ∧ R75 337 h = -9 ∧ A (2 + 4) h = R75 332 h ∧ A (2 + 5) h = R75 333 h := fun h hh => by
          obtain ⟨⟨u1, f, u2, u3⟩, v1, v2, v3⟩ := q2b h hh
          obtain ⟨w1, w2, w3, w4⟩ := r2 h hh
          exact ⟨⟨f, u2, u3, w1.trans (u1.symm.trans u3)⟩, w2, w3, w4, by rw [r3 _ _ (by omega)]; exact v2, by rw [r3 _ _ (by omega)]; exact v3⟩
        have hw' : J77 318 24 = up2 I 0 5 (nI p) 0 3 := by rw [j24, up2_n (by omega)]; exact b1.symm
        obtain ⟨r, I', G', A', L', J', R', nn, fb, c1, c2, hS, hrn, hn29, oG, oI, oA, oL, oJ', oR⟩ := t_begin (L := L) hT2 b2 (Or.inl rfl) hP' hTe' hh' hw' j28
        have oG6 : G' 0 6 = G 0 6 := oG _ _ (by omega) (by omega)
        have hT' : (T = 22 ∧ G' 0 6 = 34) ∨ (T = 34 ∧ G' 0 6 = 22) := by rw [oG6]; exact b3
        have hRS' : RS n I' G' A' L' J' R' np z sc := RS_fr hRS b3 (fun j k q1 q2 q3 q4 => by rw [oI _ _ q1 q2 (by omega), up2_n q4]) oG (fun j m q1 q2 q3 q4 q5 q6 => oA j m q1 q2 q3 q6) oL (fun k q => by rw [oJ' _ (by omega), oJ _ (by omega)]) (fun j m q1 q2 => by rw [oR _ _ (by omega) q2, r3 _ _ (by omega)]) (fun h hh => (hS.2.2.2.2.2.2.1 h hh).2.2)
        have hu' : I' 0 5 = nI p := by rw [oI _ _ (by omega) (by omega) (by omega), up2_s]
        have hj' : J' 318 23 = nI p := by rw [oJ' _ (by omega)]; exact j23
        simp (disch := omega) only [gd_in, t_cl, c1, Option.bind_some]
        rcases hrn with ⟨n0, r0⟩ | ⟨n0, r0⟩
        · subst n0 r0
          obtain ⟨I2, G2, A2, J2, R2, y1, y2, y3⟩ := t_end (r := 2) hRS' hT' hS hp hu' (by decide) (Or.inr (Or.inr (Or.inl ⟨rfl, rfl⟩)))
          have hk : kc G' 2 I' A' L' = some (2, I2, G2, A2, L') := by
            unfold kc
            rw [if_neg (by decide), y1]
            rfl
          refine ⟨2, I2, G2, A2, L', J2, R2, (t_L82 m1 m2 (by decide)).trans hk, Eq.trans r1 ?_, y3⟩
          simp only [c2, Option.bind_some]
          rw [if_pos (show J' 318 29 = 0 from hn29), y2]
          rfl
        · subst n0 r0
          obtain ⟨r, I2, G2, A2, L2, J2, R2, y1, y2, y3⟩ := t_run hRS' hT' hS hp hu' hj' (by omega) (by omega) (by omega) hn m2
          refine ⟨r, I2, G2, A2, L2, J2, R2, y1, Eq.trans r1 ?_, y3⟩
          simp only [c2, Option.bind_some]
          rw [if_neg (show ¬ J' 318 29 = 0 by rw [hn29]; decide)]
          exact y2
      · simp only [if_neg hw]
        by_cases hpe : I 0 5 = nI p
        · rw [if_pos hpe, if_pos hpe]
          rcases b4 with ⟨x, _⟩ | ⟨p0, nv, nr, kn, nn, dd, tk, tn, hb, fb, d1, d2, d3, d4, d5, d6, d7⟩
          · exact absurd x hw
          · have ep : p0 = p := (t_eq (by omega) (by omega)).mp (d2.symm.trans hpe)
            subst ep
            have hRS' : RS n I G A L (up2 J 318 0 0) R np z sc := RS_fr hRS b3 (fun _ _ _ _ _ _ => rfl) (fun _ _ _ _ => rfl) (fun _ _ _ _ _ _ _ _ => rfl) (fun _ _ _ => rfl) (fun k q => e k (by omega)) (fun _ _ _ _ => rfl) (fun h hh => (q2.2 h hh).2)
            have hS : TSv I G A L (up2 J 318 0 0) R T 2 p0 (58 + 52 * p0) nv nr kn nn dd tk tn hb z sc fb := TSv_of d4 (fun _ _ _ => rfl) (fun _ _ _ => rfl) (fun _ _ _ => rfl) (fun _ => rfl) (fun k q => e k (by omega)) (fun _ _ _ => rfl)
            obtain ⟨r, I2, G2, A2, L2, J2, R2, y1, y2, y3⟩ := t_run hRS' b3 hS hp hpe ((e 23 (by decide)).trans d3) d5 d6 d7 hn m2
            exact ⟨r, I2, G2, A2, L2, J2, R2, y1, y2, y3⟩
        · rw [if_neg hpe, if_neg hpe]
          exact ⟨_, _, _, _, _, _, _, rfl, rfl, fun _ => hr⟩
    · rw [if_neg hc, if_pos rfl, if_pos rfl]
      exact ⟨_, _, _, _, _, _, _, rfl, rfl, fun _ => hr⟩
  · rw [e1, e2]
    exact ⟨_, _, _, _, _, _, _, rfl, rfl, fun _ => hr⟩
theorem k_solve (a1 a2 : Int32) (h : Rel n I G A L J R) (hn : n ≤ 1000) : ∃ r I' G' A' L' J' R', f_X6_solve I G A L a1 a2 = some (r, I', G', A', L') ∧ f_X7_solve J R a1 a2 = some (r, J', R') ∧ Rel (n + 1) I' G' A' L' J' R' := by
  obtain ⟨r, I', G', A', L', J', R', e1, e2, e3⟩ := k_solve0 a1 a2 h hn
  have h9 : Q9 R := by obtain ⟨_, _, _, _, _, _, _, _, _, _, _, _, q9⟩ := h; exact q9
  exact ⟨r, I', G', A', L', J', R', e1, e2, e3 ((qb_X7_solve J R a1 a2 r J' R' e2).2 h9)⟩
end CM
