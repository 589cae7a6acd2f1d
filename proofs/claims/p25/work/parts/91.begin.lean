/-! THE TIE: a solving begins -/
section CL
variable {I A : Nat → Nat → Int32} {G : Nat → Nat → Nat} {L : Nat → Nat → Int64} {J R : Nat → Nat → Int32} {n np z sc T E p nv nr : Nat} {w : Int32}
theorem r_L75 {a1 a2 : Int32} {I77 R0 : Nat → Nat → Int32} {k81 : (Nat → Nat → Int32) → Option (Int32 × (Nat → Nat → Int32) × (Nat → Nat → Int32))} : ∀ (k i fu : Nat) (R : Nat → Nat → Int32), i + k = 5 → k < fu → (∀ h, h < i → R 335 h = R0 330 h ∧ R 336 h = 0 ∧ R 334 h = 0 ∧ R 337 h = -9) → (∀ j m, ¬ (334 ≤ j ∧ j ≤ 337) → R j m = R0 j m) → ∃ R', f_X7_solve_L75 a1 a2 I77 k81 fu (nI i) R = k81 R' ∧ (∀ h, h < 5 → R' 335 h = R0 330 h ∧ R' 336 h = 0 ∧ R' 334 h = 0 ∧ R' 337 h = -9) ∧ (∀ j m, ¬ (334 ≤ j ∧ j ≤ 337) → R' j m = R0 j m) := by
  intro k
  induction k with
  | zero =>
    intro i fu R hi hf h1 h2
    obtain ⟨fu, rfl⟩ : ∃ z, fu = z + 1 := ⟨fu - 1, by omega⟩
    obtain rfl : i = 5 := by omega
    rw [f_X7_solve_L75, if_neg (by decide)]
    exact ⟨R, rfl, h1, h2⟩
  | succ k ih =>
    intro i fu R hi hf h1 h2
    obtain ⟨fu, rfl⟩ : ∃ z, fu = z + 1 := ⟨fu - 1, by omega⟩
    rw [f_X7_solve_L75, if_pos (show nI i < 5 from nI_lt (b := 5) (by omega) (by omega))]
    simp (disch := omega) only [bd, gd_in, t_cl, nI_1]
    refine ih (i + 1) fu _ (by omega) (by omega) (fun h hh => ?_) (fun j m q => ?_)
    · by_cases e : h = i
      · subst e
        refine ⟨?_, ?_, ?_, up2_s _ _ _ _⟩
        · rw [up2_n (by omega), up2_n (by omega), up2_n (by omega), up2_s]; exact h2 _ _ (by omega)
        · rw [up2_n (by omega), up2_n (by omega), up2_s]
        · rw [up2_n (by omega), up2_s]
      · obtain ⟨a, b, c, d⟩ := h1 h (by omega)
        refine ⟨?_, ?_, ?_, ?_⟩
        · rw [up2_n (by omega), up2_n (by omega), up2_n (by omega), up2_n (by omega)]; exact a
        · rw [up2_n (by omega), up2_n (by omega), up2_n (by omega), up2_n (by omega)]; exact b
        · rw [up2_n (by omega), up2_n (by omega), up2_n (by omega), up2_n (by omega)]; exact c
        · rw [up2_n (by omega), up2_n (by omega), up2_n (by omega), up2_n (by omega)]; exact d
    · rw [up2_n (by omega), up2_n (by omega), up2_n (by omega), up2_n (by omega)]; exact h2 j m q
theorem t_begin (hT46 : T = 22 ∨ T = 34) (hGT : G 14 0 = T) (hE : TeAt E) (hPr : TPr I A R p (58 + 52 * p) nv nr) (hTe : TTe I A J R E z sc) (hh : ∀ h, h < 5 → (∃ f, f ≤ 200 ∧ A (E + 1) h = nI f ∧ R 335 h = nI f) ∧ R 336 h = 0 ∧ R 334 h = 0 ∧ R 337 h = -9 ∧ A (E + 4) h = R 332 h ∧ A (E + 5) h = R 333 h) (hw : J 318 24 = w) (h28 : J 318 28 = 0) : ∃ r I' G' A' L' J' R' nn fb, f_X3_begin I G A L (58 + 52 * p) E w = some (r, I', G', A', L') ∧ f_X7_begins J R (nI p) 1 = some (J', R') ∧ TSv I' G' A' L' J' R' T E p (58 + 52 * p) nv nr 1 nn 0 0 0 0 z sc fb ∧ ((nn = 0 ∧ r = 2) ∨ (nn = 1 ∧ r = 0)) ∧ J' 318 29 = nI nn ∧ (∀ j k, j ≠ T → j ≠ 14 → G' j k = G j k) ∧ (∀ j k, j ≠ T → j ≠ T + 11 → ¬ (j = 14 ∧ (k = 2 ∨ k = 3)) → I' j k = I j k) ∧ (∀ j m, j ≠ 15 → j ≠ 16 → j ≠ E + 3 → (j < T + 2 ∨ T + 10 < j) → A' j m = A j m) ∧ (∀ j m, j ≠ T + 1 → L' j m = L j m) ∧ (∀ k, ¬ (k = 29 ∨ k = 30 ∨ k = 31 ∨ k = 64 ∨ k = 65) → J' 318 k = J 318 k) ∧ (∀ j m, (j < 338 ∨ 349 < j) → j ≠ 364 → R' j m = R j m) := by
  have hTr : TrAt T := by unfold TrAt; omega
  obtain ⟨g0, g1, g2, g3, g4, g5, g6, g7, g8, g9, g10, g11⟩ := tgd hTr
  have hl3 : ln (T + 3) = lT T := (tr_l hTr).2.2.1
  have hlT : lT T = 1711 := by unfold lT; rw [if_pos (by omega)]
  have hE2 : E = 2 ∨ E = 8 := hE
  obtain ⟨o1, o2, o3, o4, o5, o6, o7, o8, o9, o10, _⟩ := te_o hE
  have ia : IA (E + 3) 5 := ⟨by unfold NS; omega, o5, o10⟩
  have i15 : IA 15 5 := ⟨by decide, by decide +kernel, by decide +kernel⟩
  have i16 : IA 16 5 := ⟨by decide, by decide +kernel, by decide +kernel⟩
  obtain ⟨A9, eA9⟩ : ∃ z, z = fil (fil (fil A (E + 3) 5 0) 15 5 (-1)) 16 5 0 := ⟨_, rfl⟩
  obtain ⟨I3, eI3⟩ : ∃ z, z = up2 (up2 I 14 2 w) 14 3 0 := ⟨_, rfl⟩
  have oA : ∀ j m, j ≠ 15 → j ≠ 16 → j ≠ E + 3 → A9 j m = A j m := fun j m q1 q2 q3 => by rw [eA9, fil_j q2, fil_j q1, fil_j q3]
  have oI : ∀ j k, ¬ (j = 14 ∧ (k = 2 ∨ k = 3)) → I3 j k = I j k := fun j k q => by rw [eI3, up2_n (by omega), up2_n (by omega)]
  have hPr3 : TPr I3 A9 R p (58 + 52 * p) nv nr := TPr_of hPr (fun j k h1 h2 => oI j k (by omega)) (fun j k h1 h2 => oA j k (by omega) (by omega) (by omega)) (fun _ _ _ _ => rfl)
  obtain ⟨I', A', L', J', R', nn, c1, c2, c3, c4, c5, c6, c7, c8, c9, c10, c11, c12, ⟨x1, x2, x3, x4, x5⟩⟩ := t_plant (G := up2 G 14 1 E) (L := L) (J := J) (sv := True) hTr hPr3 (Or.inr rfl)
  have hG0 : up2 G 14 1 E 14 0 = T := by rw [up2_n (by omega)]; exact hGT
  have hG1 : up2 (up2 G 14 1 E) T 14 (58 + 52 * p) 14 0 = T := by rw [up2_n (by omega)]; exact hG0
  have hb : f_X3_begin I G A L (58 + 52 * p) E w = some ((if A' (T + 3) 0 = 0 then 0 else 2), I', up2 (up2 G 14 1 E) T 14 (58 + 52 * p), A', L') := by
    unfold f_X3_begin
    simp only [bd, up2_s]
    rw [gd_t (show E < 318 ∧ kd E = 4 from ⟨by omega, o2⟩), t_fill ia (by omega) (by omega)]
    simp only [Option.bind_some]
    rw [t_fill i15 (by omega) (by omega)]
    simp only [Option.bind_some]
    rw [t_fill i16 (by omega) (by omega)]
    simp only [Option.bind_some]
    rw [hG0, gd_t g0, ← eA9, ← eI3, c1]
    simp only [Option.bind_some]
    simp only [hG1, gd_t g0, gd_t g3, hl3, gd_t (show inr 0 (lT T) from t_in (k := 0) (by omega) (by omega))]
    have z0 : (0 : Int32).toNatClampNeg = 0 := rfl
    by_cases hz : A' (T + 3) 0 = 0
    · rw [if_pos hz, if_pos hz]
    · rw [if_neg hz, if_neg hz]
  have a15 : ∀ h, h < 5 → A' 15 h = -1 := fun h hh => by
    rw [x2 _ _ (by omega) (by omega), eA9, fil_j (by omega)]
    unfold fil
    rw [if_pos ⟨rfl, hh⟩]
  have a16 : ∀ h, h < 5 → A' 16 h = 0 := fun h hh => by
    rw [x2 _ _ (by omega) (by omega), eA9]
    unfold fil
    rw [if_pos ⟨rfl, hh⟩]
  have aE3 : ∀ h, h < 5 → A' (E + 3) h = 0 := fun h hh => by
    rw [x2 _ _ (by omega) (by omega), eA9, fil_j (by omega), fil_j (by omega)]
    unfold fil
    rw [if_pos ⟨rfl, hh⟩]
  have oA' : ∀ j m, j ≠ 15 → j ≠ 16 → j ≠ E + 3 → (j < T + 2 ∨ T + 10 < j) → A' j m = A j m := fun j m q1 q2 q3 q4 => by rw [x2 _ _ (by omega) (by omega)]; exact oA j m q1 q2 q3
  have oI' : ∀ j k, j ≠ T → j ≠ T + 11 → ¬ (j = 14 ∧ (k = 2 ∨ k = 3)) → I' j k = I j k := fun j k q1 q2 q3 => by rw [x1 _ _ q1 q2]; exact oI j k q3
  have oJ' : ∀ k, ¬ (k = 29 ∨ k = 30 ∨ k = 31 ∨ k = 64 ∨ k = 65) → J' 318 k = J 318 k := fun k q => x4 _ _ (by omega)
  have oR' : ∀ j m, (j < 338 ∨ 349 < j) → j ≠ 364 → R' j m = R j m := fun j m q1 q2 => x5 _ _ (by omega) q2
  refine ⟨_, I', _, A', L', J', R', nn, fun _ => none, hb, c2, ⟨⟨hTr, by rw [up2_s], c12, c11, c3, c5, c7, c8, c9, c10, fun i hi => by omega⟩, hE, hG1, by rw [up2_n (by omega), up2_s], by omega, by have := hc_le A'; omega, fun h hh5 => ?_, ?_, ?_, ?_, ?_, by omega, by omega⟩, ?_, c3.2.2.1, fun j k q1 q2 => by rw [up2_n (by omega), up2_n (by omega)], oI', oA', x3, oJ', oR'⟩
  · obtain ⟨⟨f, f1, f2, f3⟩, d1, d2, d3, d4, d5⟩ := hh h hh5
    refine ⟨Or.inl ⟨a15 h hh5, by rw [oR' _ _ (by omega) (by omega)]; exact d3⟩, ⟨0, f, by omega, a16 h hh5, by rw [oR' _ _ (by omega) (by omega)]; exact d1, fun q => absurd (a15 h hh5) q, f1, by rw [oA' _ _ (by omega) (by omega) (by omega) (by omega)]; exact f2, Or.inl (by rw [oR' _ _ (by omega) (by omega)]; exact f3)⟩, ⟨by rw [aE3 h hh5, oR' _ _ (by omega) (by omega)]; exact d2.symm, by rw [oA' _ _ (by omega) (by omega) (by omega) (by omega), oR' _ _ (by omega) (by omega)]; exact d4, by rw [oA' _ _ (by omega) (by omega) (by omega) (by omega), oR' _ _ (by omega) (by omega)]; exact d5⟩⟩
  · obtain ⟨t1, t2, t3, t4, t5, t6, t7, t8⟩ := hTe
    exact ⟨by rw [oI' _ _ (by omega) (by omega) (by omega)]; exact t1, by rw [oJ' _ (by omega)]; exact t2, t3, t4, by rw [oI' _ _ (by omega) (by omega) (by omega)]; exact t5, by rw [oJ' _ (by omega)]; exact t6, t7, fun i hi => by rw [oA' _ _ (by omega) (by omega) (by omega) (by omega), oR' _ _ (by omega) (by omega)]; exact t8 i hi⟩
  · rw [x1 _ _ (by omega) (by omega), eI3, up2_n (by omega), up2_s, oJ' _ (by omega)]; exact hw.symm
  · rw [x1 _ _ (by omega) (by omega), eI3, up2_s]; rfl
  · rw [oJ' _ (by omega)]; exact h28
  · rcases c4 with ⟨a, b⟩ | ⟨a, b⟩
    · exact Or.inl ⟨a, if_neg b⟩
    · exact Or.inr ⟨a, if_pos b⟩
end CL
