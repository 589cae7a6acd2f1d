/-! THE TIE: node -/
theorem bnd_m {I A : Nat → Nat → Int32} {B v nr d : Nat} : ∀ (k i : Nat) (a : Int32), ((bnd I A B v nr d k i a).1 = 0 ∧ (bnd I A B v nr d k i a).2.1 = -9) ∨ (¬ (bnd I A B v nr d k i a).1 = 0 ∧ (bnd I A B v nr d k i a).2.2 = -1000000)
  | 0, _, _ => Or.inl ⟨rfl, rfl⟩
  | k + 1, i, a => by
    unfold bnd
    by_cases h : lbd I A B v nr d i = -1000000
    · rw [if_pos h]
      exact Or.inr ⟨(by decide : ¬ (3 : Int32) = 0), rfl⟩
    · rw [if_neg h]
      exact bnd_m k (i + 1) _
theorem lk_m {I A : Nat → Nat → Int32} {B v nv nr d : Nat} {mt : Int32} : ((lk I A B v nv nr d mt).1 = 0 ∧ (lk I A B v nv nr d mt).2.1 = -9) ∨ (¬ (lk I A B v nv nr d mt).1 = 0 ∧ (lk I A B v nv nr d mt).2.2 = -1000000) := by
  unfold lk
  by_cases h : fbk I A B v nr = -9
  · rw [if_pos h]
    by_cases h2 : mt = 0 ∨ d = 0 ∨ ftw I A B v nr (d - 1) = -9
    · rw [if_pos h2]
      exact bnd_m _ _ _
    · rw [if_neg h2]
      exact Or.inr ⟨(by decide : ¬ (2 : Int32) = 0), rfl⟩
  · rw [if_neg h]
    exact Or.inr ⟨(by decide : ¬ (1 : Int32) = 0), rfl⟩
/-- the row of the questions -/
def r4 (R : Nat → Nat → Int32) (ad i : Nat) : Nat → Nat → Int32 := fun j m => if j = 364 ∧ m < i then (if m < ad then R 362 m else -9) else R j m
theorem r4_o {R : Nat → Nat → Int32} {ad i j m : Nat} (h : j ≠ 364) : r4 R ad i j m = R j m := if_neg (fun q => h q.1)
theorem r4_s {R : Nat → Nat → Int32} {ad i : Nat} : up2 (r4 R ad i) 364 i (if i < ad then R 362 i else -9) = r4 R ad (i + 1) := by
  funext j m
  unfold up2 r4
  by_cases h : j = 364 ∧ m = i
  · rw [if_pos h, if_pos (show j = 364 ∧ m < i + 1 by omega), h.2]
  · rw [if_neg h]
    by_cases h2 : j = 364 ∧ m < i
    · rw [if_pos h2, if_pos (show j = 364 ∧ m < i + 1 by omega)]
    · rw [if_neg h2, if_neg (by omega)]
theorem t_node_L {a1 a2 a3 : Int32} {I1 R : Nat → Nat → Int32} {k12 : (Int32) → (Nat → Nat → Int32) → Option (Int32 × (Nat → Nat → Int32) × (Nat → Nat → Int32))} {v : Int32} {ad : Nat} (had : I1 318 59 = nI ad) (ha6 : ad ≤ 6) : ∀ (k i fu : Nat), i + k = 6 → k < fu → f_X7_node_L53 a1 a2 a3 I1 k12 fu (nI i) v (r4 R ad i) = k12 v (r4 R ad 6) := by
  intro k
  induction k with
  | zero =>
    intro i fu hi hf
    obtain ⟨fu, rfl⟩ : ∃ z, fu = z + 1 := ⟨fu - 1, by omega⟩
    have e : i = 6 := by omega
    subst e
    simp only [f_X7_node_L53]
    rw [if_neg (show ¬ nI 6 < 6 by decide)]
  | succ k ih =>
    intro i fu hi hf
    obtain ⟨fu, rfl⟩ : ∃ z, fu = z + 1 := ⟨fu - 1, by omega⟩
    have e := ih (i + 1) fu (by omega) (by omega)
    rw [← e, ← r4_s]
    simp (disch := omega) only [f_X7_node_L53, gd_in, t_cl, bd, had, nI_1]
    rw [if_pos (show nI i < 6 from nI_lt (b := 6) (by omega) (by omega))]
    by_cases h : i < ad
    · rw [if_pos (nI_lt h (by omega)), r4_o (by decide), if_pos h]
    · rw [if_neg (nI_nlt (by omega) (by omega)), if_neg h]
section CJ
variable {I A : Nat → Nat → Int32} {G : Nat → Nat → Nat} {L : Nat → Nat → Int64} {J R : Nat → Nat → Int32} {n : Nat}
theorem k_node (a1 a2 a3 : Int32) (h : Rel n I G A L J R) : ∃ r I' J' R', f_X6_node I A a1 a2 a3 = some (r, I') ∧ f_X7_node J R a1 a2 a3 = some (r, J', R') ∧ Rel (n + 1) I' G A L J' R' := by
  have hr := Rel_J0 h
  obtain ⟨np, z, sc, ⟨p1, p2, p3, p4⟩, _, _, _, _, q5, _, _, _, q9⟩ := id h
  have e : ∀ k, k ≠ 0 → up2 J 318 0 0 318 k = J 318 k := fun k q => up0 q
  unfold f_X6_node f_X7_node
  simp only [bd, e 57 (by decide), e 58 (by decide), e 59 (by decide), (t_wi a1 0 4).1, (t_wi a1 0 4).2, Option.bind_some]
  rcases t_rng (a := a1) (hi := 4) (by omega) with ⟨w, hw4, rfl⟩ | hc
  · rw [if_pos (show ¬ nI w < 0 ∧ ¬ 4 < nI w from t_rng1 (hi := 4) (by omega) hw4), if_neg z10, if_neg z10]
    rcases q5 with ⟨a, b⟩ | ⟨p, ad, nv, c, a, c', a', ⟨hp, hpn⟩, q2, q3, q4, q5, q6, q7, q8, q9', q10, q11, q12, q13, q14, q15, q16⟩
    · rw [if_pos a, if_pos b]
      exact ⟨_, _, _, _, rfl, rfl, hr⟩
    · obtain ⟨g0, g1, g2, g3, g10, g11, l1, l2, l3, l10, l11⟩ := pq_all p (by omega)
      obtain ⟨⟨nv2, nr, hP⟩, hK⟩ := p4 p (by omega)
      have hwp := hP.2.2.1
      have hnv := hwp.1
      have env : nv2 = nv := (t_eq (by omega) (by omega)).mp (hwp.2.2.1.symm.trans q4)
      subst env
      obtain ⟨np', n1, n2, n3⟩ := hpn
      have enp : np' = np := (t_eq (by omega) (by omega)).mp (n2.symm.trans p3)
      subst enp
      have hisP : f_X7_isProblem (up2 J 318 0 0) (nI p) = some 1 := by
        rcases t_isP (a := nI p) (I := I) (J := up2 J 318 0 0) p2 ((e 2 (by decide)).trans p3) p1 with ⟨_, _, _, _, x⟩ | ⟨_, x⟩
        · exact x
        · unfold f_X7_isProblem at x
          rw [(e 2 (by decide)).trans p3, (t_wi _ _ _).2, nI_s1 (by omega), if_pos (t_rng1 (by omega) (by omega))] at x
          exact absurd (Option.some.inj ((gd_t (Or.inr rfl)).symm.trans x)) (by decide)
      rw [q2, q3, q6, q7, if_neg (t_m9 (by omega)), if_neg (t_m9 (by omega))]
      simp (disch := omega) only [gd_in, t_cl, gd_t g0, q10, q11, q12, q13]
      rcases q16 with ⟨ec, ec'⟩ | ⟨ec, ec'⟩
      · subst ec ec'
        rw [if_pos rfl, if_pos rfl]
        have r40 : r4 R ad 0 = R := by
          funext j m
          exact if_neg (by omega)
        have hL : ∀ k12, f_X7_node_L53 (nI w) a2 a3 (up2 J 318 0 0) k12 FU 0 (nI p) R = k12 (nI p) (r4 R ad 6) := fun k12 => by
          have q := t_node_L (a1 := nI w) (a2 := a2) (a3 := a3) (I1 := up2 J 318 0 0) (R := R) (k12 := k12) (v := nI p) (ad := ad) ((e 59 (by decide)).trans q7) (by omega) 6 0 FU (by omega) (t_fu _ (by omega))
          rw [r40] at q
          exact q
        rw [hL]
        obtain ⟨R6, eR6⟩ : ∃ z, z = r4 R ad 6 := ⟨_, rfl⟩
        rw [← eR6]
        have oR : ∀ j m, j ≠ 364 → R6 j m = R j m := fun j m q => by rw [eR6]; exact r4_o q
        have hP6 : TPr I A R6 p (58 + 52 * p) nv2 nr := TPr_of hP (fun _ _ _ _ => rfl) (fun _ _ _ _ => rfl) (fun j k h1 h2 => oR j k (by omega))
        have hRo : TRo A R6 18 := fun i hi => by
          rw [eR6]
          unfold r4
          rw [if_pos ⟨rfl, hi⟩]
          by_cases hia : i < ad
          · obtain ⟨m, m1, m2, m3⟩ := q8 i hia
            have := (pr_sz hwp (show i < nv2 by omega)).2.2
            rw [if_pos hia]
            exact Or.inr ⟨m, by omega, m2, m3⟩
          · rw [if_neg hia]
            exact Or.inl ⟨q9' i (by omega) hi, rfl⟩
        have hRW : RoW A (58 + 52 * p) 18 ad := ⟨fun i hi => by
          obtain ⟨m, m1, m2, m3⟩ := q8 i hi
          have := (pr_sz hwp (show i < nv2 by omega)).2.2
          rw [m2]
          exact nI_in m1 (by omega), fun i h1 h2 => q9' i h1 h2⟩
        have hrel : ∀ (I2 J2 : Nat → Nat → Int32), (∀ j k, j ≠ 17 → I2 j k = I j k) → (∀ k, k ≠ 0 → k ≠ 64 → k ≠ 65 → J2 318 k = J 318 k) → Rel (n + 1) I2 G A L J2 R6 := fun I2 J2 hI hJ => Rel_fr h (Nat.le_succ n) (fun j k q => hI j k (by omega)) (fun _ _ _ => rfl) (fun _ _ _ => rfl) (fun _ _ _ _ => rfl) hJ (fun j m h1 h2 => oR j m (by omega)) (fun j x q => by rw [oR _ _ (by omega)]; exact q9 j x q)
        have hi18 : IA 18 6 := ⟨by decide, by decide +kernel, by decide +kernel⟩
        have hJ0 : ∀ k, k ≠ 0 → k ≠ 64 → k ≠ 65 → up2 J 318 0 0 318 k = J 318 k := fun k q _ _ => e k q
        have hw5 : w = 0 ∨ w = 1 ∨ w = 2 ∨ w = 3 ∨ w = 4 := by omega
        have z0 : nI 0 = (0 : Int32) := rfl
        have f_as : ∀ x : Int32, f_X6_asNumber x = some (if x = 0 then 0 else 1) := fun x => by unfold f_X6_asNumber; split <;> rfl
        rcases hw5 with rfl | rfl | hw2
        · rw [if_pos z0, if_pos z0]
          rcases t_isRu (a := a2) hP6 hisP with ⟨r, r1, rfl, v1, v2⟩ | ⟨v1, v2⟩
          · have hnr := hwp.2.1
            obtain ⟨s0, _⟩ := pq_ru p (by omega) r (by omega)
            have hpre : pre_X2_isBroken I A (58 + 52 * p + 12 + 5 * r) 18 (58 + 52 * p + 1) := ⟨pr_ru (tp_at hP) (by omega), hi18, ⟨by have := g1.1; unfold NS; omega, g1.2, l1⟩, hwp.2.2.2.2.2 r (by omega)⟩
            have hb : f_X2_isBroken I A (58 + 52 * p + 12 + 5 * r) 18 (58 + 52 * p + 1) = some (brk I A (58 + 52 * p + 12 + 5 * r) 18 (58 + 52 * p + 1) (nP I (58 + 52 * p + 12 + 5 * r))) := by
              unfold f_X2_isBroken gd
              rw [if_pos hpre]
            simp (disch := omega) only [v1, v2, Option.bind_some, if_neg z10, gd_t g10, l10, gd_in, t_cl, gd_t s0, hb, r_isBroken hp (tp_ru hP6 (show r < 8 by omega)) hRo, f_as]
            by_cases hz : brk I A (58 + 52 * p + 12 + 5 * r) 18 (58 + 52 * p + 1) (nP I (58 + 52 * p + 12 + 5 * r)) = 0
            · rw [if_pos hz, if_pos hz]
              exact ⟨_, _, _, _, rfl, rfl, hrel _ _ (fun _ _ _ => rfl) hJ0⟩
            · rw [if_neg hz, if_neg hz]
              exact ⟨_, _, _, _, rfl, rfl, hrel _ _ (fun _ _ _ => rfl) hJ0⟩
          · rw [v1, v2]
            exact ⟨_, _, _, _, rfl, rfl, hrel _ _ (fun _ _ _ => rfl) hJ0⟩
        · rw [if_neg (show ¬ nI 1 = 0 by decide), if_neg (show ¬ nI 1 = 0 by decide), if_pos (show nI 1 = 1 from rfl), if_pos (show nI 1 = 1 from rfl)]
          rcases t_hasVal (a := a2) (b := a3) hP6 hisP with ⟨x, y, x1, rfl, y1, y2, rfl, v1, v2⟩ | ⟨v1, v2⟩
          · have er : (I (58 + 52 * p) 1).toNatClampNeg = nr := by rw [hwp.2.2.2.1]; exact t_cl (by have := hwp.2.1; omega)
            have ev : (I (58 + 52 * p) 0).toNatClampNeg = nv2 := by rw [q4]; exact t_cl (by omega)
            have hpre : pre_X1_isOut I A (58 + 52 * p) 18 (nI x) (nI y) := by
              unfold pre_X1_isOut
              rw [t_cl (show x < 2147483648 by omega), er, ev]
              exact ⟨tp_at hP, hi18, by decide, by omega, rfl, hwp⟩
            have hb : f_X1_isOut I A (58 + 52 * p) 18 (nI x) (nI y) = some (if A 18 x = -1 then (if fbk I (up2 A 18 x (nI y)) (58 + 52 * p) 18 nr = -9 then 0 else 1) else 0) := by
              unfold f_X1_isOut gd
              rw [if_pos hpre, t_cl (show x < 2147483648 by omega), er]
            have hrO := r_isOut (x := x) (y := y) hP6 hRo (by decide) (by omega) (by omega)
            simp (disch := omega) only [v1, v2, Option.bind_some, if_neg z10, hb, f_as, hrO]
            by_cases hxa : x < ad
            · obtain ⟨m, m1, m2, m3⟩ := q8 x hxa
              have := (pr_sz hwp (show x < nv2 by omega)).2.2
              rw [if_pos (nI_lt hxa (by omega)), if_neg (show ¬ A 18 x = -1 by rw [m2]; exact t_m1 (by omega))]
              exact ⟨_, _, _, _, rfl, rfl, hrel _ _ (fun _ _ _ => rfl) hJ0⟩
            · rw [if_neg (nI_nlt (by omega) (by omega)), if_pos (q9' x (by omega) (by omega))]
              by_cases hz : fbk I (up2 A 18 x (nI y)) (58 + 52 * p) 18 nr = -9
              · rw [if_pos hz]
                exact ⟨_, _, _, _, rfl, rfl, hrel _ _ (fun _ _ _ => rfl) hJ0⟩
              · rw [if_neg hz]
                exact ⟨_, _, _, _, rfl, rfl, hrel _ _ (fun _ _ _ => rfl) hJ0⟩
          · rw [v1, v2]
            exact ⟨_, _, _, _, rfl, rfl, hrel _ _ (fun _ _ _ => rfl) hJ0⟩
        · have n0 : ¬ nI w = 0 := fun q => by
            have := (t_eq (b := 0) (by omega) (by omega)).mp q
            omega
          have n1 : ¬ nI w = 1 := fun q => by
            have := (t_eq (b := 1) (by omega) (by omega)).mp q
            omega
          rw [if_neg n0, if_neg n0, if_neg n1, if_neg n1]
          obtain ⟨J', j1, j2, j3, j4⟩ := r_whatIs (mt := 1) (J := up2 J 318 0 0) hP6 hRo (by decide) hRW (show ad ≤ nv2 by omega)
          rw [t_look (mt := 1) hP ⟨by decide, by decide, by decide +kernel⟩ hi18 (by decide) (by omega) hRW, j1, Option.bind_some, Option.bind_some]
          have hJ' : ∀ k, k ≠ 0 → k ≠ 64 → k ≠ 65 → J' 318 k = J 318 k := fun k h0 h1 h2 => by rw [j2 _ _ (by omega)]; exact e k h0
          obtain ⟨lw, elw⟩ : ∃ z, z = lk I A (58 + 52 * p) 18 nv2 nr ad 1 := ⟨_, rfl⟩
          have hlm := lk_m (I := I) (A := A) (B := 58 + 52 * p) (v := 18) (nv := nv2) (nr := nr) (d := ad) (mt := 1)
          rw [← elw] at hlm j3 j4 ⊢
          have hjd : ∀ j k, j ≠ 17 → jdI I 17 lw j k = I j k := fun j k q => by unfold jdI; rw [up2_j q, up2_j q, up2_j q]
          have d0 : jdI I 17 lw 17 0 = lw.1 := by unfold jdI; rw [up2_k (by decide), up2_k (by decide), up2_s]
          have d1 : jdI I 17 lw 17 1 = lw.2.1 := by unfold jdI; rw [up2_k (by decide), up2_s]
          have d2 : jdI I 17 lw 17 2 = lw.2.2 := by unfold jdI; rw [up2_s]
          dsimp only
          rcases hw2 with rfl | rfl | rfl
          · rw [if_pos (show nI 2 = 2 from rfl), if_pos (show nI 2 = 2 from rfl), d0]
            exact ⟨_, _, _, _, rfl, rfl, hrel _ _ hjd hJ'⟩
          · rw [if_neg (show ¬ nI 3 = 2 by decide), if_neg (show ¬ nI 3 = 2 by decide), if_pos (show nI 3 = 3 from rfl), if_pos (show nI 3 = 3 from rfl), d2]
            rcases hlm with ⟨m1, m2⟩ | ⟨m1, m2⟩
            · rw [if_pos (show lw.1 = 0 from m1), j3 m1]
              exact ⟨_, _, _, _, rfl, rfl, hrel _ _ hjd hJ'⟩
            · rw [if_neg (show ¬ lw.1 = 0 from m1), m2]
              exact ⟨_, _, _, _, rfl, rfl, hrel _ _ hjd hJ'⟩
          · rw [if_neg (show ¬ nI 4 = 2 by decide), if_neg (show ¬ nI 4 = 2 by decide), if_neg (show ¬ nI 4 = 3 by decide), if_neg (show ¬ nI 4 = 3 by decide), d1]
            rcases hlm with ⟨m1, m2⟩ | ⟨m1, m2⟩
            · rw [if_pos (show lw.1 = 0 from m1), m2]
              exact ⟨_, _, _, _, rfl, rfl, hrel _ _ hjd hJ'⟩
            · rw [if_neg (show ¬ lw.1 = 0 from m1), j4 m1]
              exact ⟨_, _, _, _, rfl, rfl, hrel _ _ hjd hJ'⟩
      · rw [if_neg (show ¬ nI c = nI a from fun q => by
          have := (t_eq (by omega) (by omega)).mp q
          omega), if_neg (show ¬ nI c' = nI a' from fun q => by
          have := (t_eq (by omega) (by omega)).mp q
          omega)]
        exact ⟨_, _, _, _, rfl, rfl, hr⟩
  · rw [if_neg (show ¬ (¬ a1 < 0 ∧ ¬ 4 < a1) from hc), if_pos rfl, if_pos rfl]
    exact ⟨_, _, _, _, rfl, rfl, hr⟩
end CJ
