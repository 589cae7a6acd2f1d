/-! THE TIE: same: a whole solving (the reference's memory is a phantom) -/
section SP
variable {G : Nat → Nat → Nat} {T E p B nv nr z sc : Nat}
theorem t_same_L {v9 a1 a2 : Int32} {k42 : Int32 → (Nat → Nat → Int32) → (Nat → Nat → Int32) → (Nat → Nat → Int64) → Option (Int32 × (Nat → Nat → Int32) × (Nat → Nat → Nat) × (Nat → Nat → Int32) × (Nat → Nat → Int64))} : ∀ (k i fu tn hb kn nn dd tk : Nat) (fb : Nat → Option (Nat × Nat)) (I A : Nat → Nat → Int32) (L : Nat → Nat → Int64) (J R : Nat → Nat → Int32), i + k = 1000000 → k + 1 < fu → tn + k < 1073741824 → hb + k < 1073741824 → tk < 250 → TSv I G A L J R T E p B nv nr kn nn dd tk tn hb z sc fb → ∃ r I' A' L' J' R' kn' nn' dd' tk' tn' hb' fb', f_X6_same_L80 v9 a1 a2 G k42 fu (nI i) 0 I A L = k42 r I' A' L' ∧ TSv I' G A' L' J' R' T E p B nv nr kn' nn' dd' tk' tn' hb' z sc fb' ∧ XT T E I A L J R I' A' L' J' R' ∧ tk' ≤ 250 := by
  intro k
  induction k with
  | zero =>
    intro i fu tn hb kn nn dd tk fb I A L J R hi hf h1 h2 h3 hS
    obtain ⟨fu, rfl⟩ : ∃ z, fu = z + 1 := ⟨fu - 1, by omega⟩
    refine ⟨0, I, A, L, J, R, kn, nn, dd, tk, tn, hb, fb, ?_, hS, XT_rf, by omega⟩
    rw [f_X6_same_L80, if_neg (show ¬ nI i < 1000000 from nI_nlt (b := 1000000) (by omega) (by omega))]
  | succ k ih =>
    intro i fu tn hb kn nn dd tk fb I A L J R hi hf h1 h2 h3 hS
    obtain ⟨fu, rfl⟩ : ∃ z, fu = z + 1 := ⟨fu - 1, by omega⟩
    obtain ⟨r, I1, A1, L1, J1, R1, J2, R2, kn1, nn1, dd1, tk1, fb1, q1, q2, q3, q4, q5, q6, q7⟩ := t_turn hS h3 (by omega) (by omega)
    have hcl : f_X6_same_L80 v9 a1 a2 G k42 (fu + 1) (nI i) 0 I A L = f_X6_same_L80 v9 a1 a2 G k42 fu (nI (i + 1)) r I1 A1 L1 := by
      rw [f_X6_same_L80, if_pos (show nI i < 1000000 from nI_lt (b := 1000000) (by omega) (by omega)), if_pos rfl, q1, Option.bind_some, nI_1]
    by_cases h0 : r = 0
    · subst h0
      have ht1 : tk1 < 250 := by
        rcases q6 with ⟨_, q, _⟩ | ⟨q, _⟩ | ⟨q, _⟩ | q | q
        · exact q
        all_goals exact absurd q (by decide)
      obtain ⟨r, I', A', L', J', R', kn', nn', dd', tk', tn', hb', fb', p1, p3, p4, p5⟩ := ih (i + 1) fu (tn + 1) (hb + 1) kn1 nn1 dd1 tk1 fb1 I1 A1 L1 J1 R1 (by omega) (by omega) (by omega) (by omega) ht1 q4
      exact ⟨r, I', A', L', J', R', kn', nn', dd', tk', tn', hb', fb', hcl.trans p1, p3, XT_tr q5 p4, p5⟩
    · refine ⟨r, I1, A1, L1, J1, R1, kn1, nn1, dd1, tk1, tn + 1, hb + 1, fb1, ?_, q4, q5, q4.2.2.2.2.2.2.2.2.2.2.2.2⟩
      obtain ⟨fu, rfl⟩ : ∃ z, fu = z + 1 := ⟨fu - 1, by omega⟩
      rw [hcl, f_X6_same_L80]
      by_cases q : nI (i + 1) < 1000000
      · rw [if_pos q, if_neg h0]
      · rw [if_neg q]
end SP
