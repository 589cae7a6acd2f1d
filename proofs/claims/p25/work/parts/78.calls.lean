/-! THE TIE: the calls that are small -/
theorem t_wi (a lo hi : Int32) : f_X6_isWithin a lo hi = some (if ¬ a < lo ∧ ¬ hi < a then 1 else 0) ∧ f_X7_in a lo hi = some (if ¬ a < lo ∧ ¬ hi < a then 1 else 0) := by
  unfold f_X6_isWithin f_X7_in
  by_cases h1 : a < lo <;> by_cases h2 : hi < a <;> simp [h1, h2]
/-- a number in a range of Nats -/
theorem t_rng {a : Int32} {hi : Nat} (hhi : hi < 1073741824) : (∃ x, x ≤ hi ∧ a = nI x) ∨ ¬ (¬ a < 0 ∧ ¬ nI hi < a) := by
  by_cases h : ¬ a < 0 ∧ ¬ nI hi < a
  · obtain ⟨x, h1, h2⟩ := nI_of2 (M := nI hi) (n := hi) (nI_toInt (by omega)) h.1 (Int32.not_lt.mp h.2)
    exact Or.inl ⟨x, h1, h2⟩
  · exact Or.inr h
theorem t_rng1 {x hi : Nat} (hhi : hi < 1073741824) (hx : x ≤ hi) : ¬ nI x < 0 ∧ ¬ nI hi < nI x := ⟨nI_pos (by omega), nI_nlt hx (by omega)⟩
section CA
variable {I A : Nat → Nat → Int32} {G : Nat → Nat → Nat} {L : Nat → Nat → Int64} {J R : Nat → Nat → Int32} {n : Nat}
/-- is it a problem? -/
theorem t_isP {np : Nat} {a : Int32} (h1 : I 0 1 = nI np) (h2 : J 318 2 = nI np) (hn : np ≤ 5) : (∃ p, p < np ∧ a = nI p ∧ f_X6_isProblem I a = some 1 ∧ f_X7_isProblem J a = some 1) ∨ (f_X6_isProblem I a = some 0 ∧ f_X7_isProblem J a = some 0) := by
  unfold f_X6_isProblem f_X7_isProblem
  rw [h1, h2, (t_wi _ _ _).1, (t_wi _ _ _).2]
  by_cases h : ¬ a < 0 ∧ ¬ nI np - 1 < a
  · rw [if_pos h]
    by_cases h0 : np = 0
    · exfalso
      subst h0
      have e : nI 0 - 1 = (-1 : Int32) := by decide
      rw [e] at h
      have a1 := Int32.not_lt.mp h.1
      have a2 := Int32.not_lt.mp h.2
      exact absurd (Int32.le_trans a1 a2) (by decide)
    · rw [nI_s1 (by omega)] at h
      obtain ⟨x, x1, x2⟩ := nI_of2 (M := nI (np - 1)) (n := np - 1) (nI_toInt (by omega)) h.1 (Int32.not_lt.mp h.2)
      exact Or.inl ⟨x, by omega, x2, gd_t (Or.inr rfl), gd_t (Or.inr rfl)⟩
  · rw [if_neg h]
    exact Or.inr ⟨gd_t (Or.inl rfl), gd_t (Or.inl rfl)⟩
theorem k_problem (h : Rel n I G A L J R) : ∃ r I' J', f_X6_problem I = some (r, I') ∧ f_X7_problem J = some (r, J') ∧ Rel (n + 1) I' G A L J' R := by
  have hr := Rel_J0 h
  obtain ⟨np, z, sc, ⟨a1, a2, a3, a4⟩, q2, q3, q4, q5c, q5, q6, q7, ⟨b1, T, b2, b3, b4⟩, q9⟩ := h
  have hu : I 0 5 = J 318 23 := by rcases b4 with ⟨x, y⟩ | ⟨_, _, _, _, _, _, _, _, _, _, _, x, y, _⟩ <;> rw [x, y]
  have e23 : up2 J 318 0 0 318 23 = J 318 23 := up0 (by decide)
  have e2 : up2 J 318 0 0 318 2 = nI np := (up0 (by decide)).trans a3
  by_cases hw : I 0 5 = -9
  · have hw2 : J 318 23 = -9 := by rw [← hu]; exact hw
    by_cases h5 : np = 5
    · refine ⟨-3, I, _, ?_, ?_, hr⟩
      · unfold f_X6_problem
        rw [if_pos hw, a2, if_neg (show ¬ nI np < 5 from nI_nlt (b := 5) (by omega) (by omega))]
      · unfold f_X7_problem
        simp only [bd]
        rw [e23, e2, if_pos hw2, if_pos (show nI np = 5 by rw [h5]; rfl)]
    · refine ⟨nI np, up2 I 0 1 (nI (np + 1)), up2 (up2 J 318 0 0) 318 2 (nI (np + 1)), ?_, ?_, ?_⟩
      · unfold f_X6_problem
        simp only [bd]
        rw [if_pos hw, a2, if_pos (show nI np < 5 from nI_lt (b := 5) (by omega) (by omega)), nI_1]
      · unfold f_X7_problem
        simp only [bd]
        rw [e23, e2, if_pos hw2, if_neg (show ¬ nI np = 5 from fun q => by
          have q : nI np = nI 5 := q
          rw [t_eq (by omega) (by omega)] at q; omega), nI_1, up2_s, nI_pred]
      · have hI : ∀ j k, ¬ (j = 0 ∧ k = 1) → up2 I 0 1 (nI (np + 1)) j k = I j k := fun j k q => by unfold up2; rw [if_neg q]
        have hJ : ∀ k, k ≠ 0 → k ≠ 2 → up2 (up2 J 318 0 0) 318 2 (nI (np + 1)) 318 k = J 318 k := fun k h1 h2 => by rw [up2_k h2, up2_k h1]
        have hT : G 0 6 = 22 ∨ G 0 6 = 34 := by omega
        refine ⟨np + 1, z, sc, ?_, Q2_of q2 (fun k => hI _ _ (by omega)) (hJ _ (by decide) (by decide)) (hJ _ (by decide) (by decide)) (fun _ _ _ _ => rfl) (fun _ _ _ _ => rfl), Q3_of q3 (fun p hp => hI _ _ (by omega)) (fun _ _ _ => rfl) (fun _ _ _ _ => rfl), Q4_of q4 rfl (fun _ _ => rfl) (fun T h => hI _ _ (by omega)) (hJ _ (by decide) (by decide)) (fun _ _ _ _ _ _ => rfl) (fun _ _ _ => rfl) (fun _ _ _ _ => rfl) (fun B nv hB e1 e2 => ⟨nv, Nat.le_refl _, e2, by rw [hI _ _ (by have := pr_ge hB; omega)]; exact e1, fun _ _ => rfl⟩), Q5c_of q5c (by omega) (hJ _ (by decide) (by decide)) (fun p hp => hI _ _ (by omega)) (fun _ => rfl), Q5_of q5 (fun k _ _ => hI _ _ (by omega)) (fun k _ _ => hJ k (by omega) (by omega)) (fun p k hp _ _ => hI _ _ (by omega)) (fun _ => rfl) (fun _ _ _ => rfl) (fun _ => rfl) (fun _ => rfl) (fun p ⟨m, m1, m2, m3⟩ => ⟨np + 1, by omega, up2_s _ _ _ _, by have := (t_eq (by omega) (by omega)).mp (m2.symm.trans a3); omega⟩), Q6_of q6 (hJ _ (by decide) (by decide)) (fun _ => rfl) (fun _ => rfl), ?_, ⟨by rw [hI _ _ (by omega), hJ _ (by decide) (by decide)]; exact b1, T, b2, b3, Or.inl ⟨by rw [hI _ _ (by omega)]; exact hw, by rw [hJ _ (by decide) (by decide)]; exact hw2⟩⟩, q9⟩
        · have := Q1_of (np := np) (I' := I) (A' := A) (J' := J) (R' := R) ⟨a1, a2, a3, a4⟩ rfl rfl (fun _ _ _ _ _ => rfl) (fun _ _ _ _ _ => rfl) (fun _ _ _ _ => rfl)
          refine ⟨by omega, up2_s _ _ _ _, up2_s _ _ _ _, fun p hp => ?_⟩
          obtain ⟨⟨nv, nr, e⟩, f⟩ := a4 p hp
          exact ⟨⟨nv, nr, TPr_of2 e (fun j k _ _ _ => hI j k (by omega)) (fun _ _ _ _ _ => rfl) (fun _ _ _ _ => rfl)⟩, f.1, fun r hr => by unfold nP; rw [hI _ _ (by omega)]; exact f.2 r hr⟩
        · exact ⟨by rw [hI _ _ (by omega), hJ _ (by decide) (by decide)]; exact q7.1, by rw [hI _ _ (by omega)]; exact q7.2⟩
  · have hw2 : ¬ J 318 23 = -9 := by rw [← hu]; exact hw
    refine ⟨-2, I, _, ?_, ?_, hr⟩
    · unfold f_X6_problem; rw [if_neg hw]
    · unfold f_X7_problem
      simp only [bd]
      rw [e23, if_neg hw2]
end CA
