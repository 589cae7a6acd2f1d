/-! THE TIE: second -/
section SM
variable {I A : Nat → Nat → Int32} {G : Nat → Nat → Nat} {L : Nat → Nat → Int64} {J R I' A' J' R' : Nat → Nat → Int32} {G' : Nat → Nat → Nat} {L' : Nat → Nat → Int64} {n : Nat}
/-- what second() changes -/
theorem Rel_S (h : Rel n I G A L J R) (hI : ∀ j k, j ≠ 46 → j ≠ 57 → I' j k = I j k) (hG : ∀ j k, j ≠ 46 → G' j k = G j k) (hA : ∀ j m, j ≠ 19 → (j < 48 ∨ 56 < j) → A' j m = A j m) (hL : ∀ j m, j ≠ 47 → L' j m = L j m) (hJ : ∀ k, ¬ (k = 0 ∨ k = 61 ∨ k = 64 ∨ k = 65) → J' 318 k = J 318 k) (hR : ∀ j m, 319 ≤ j → j < 363 → R' j m = R j m) (h6 : Q6 A' J' R') (h9 : Q9 R') : Rel (n + 1) I' G' A' L' J' R' := by
  have hT := Rel_T h
  obtain ⟨np, z, sc, q1, q2, q3, q4, q5c, q5, q6, q7, q8, q9⟩ := h
  refine ⟨np, z, sc, Q1_of q1 (hI _ _ (by omega) (by omega)) (hJ _ (by omega)) (fun j k h1 h2 h3 => hI j k (by omega) (by omega)) (fun j k h1 h2 h3 => hA j k (by omega) (by omega)) (fun j k h1 h2 => hR j k (by omega) (by omega)), Q2_of q2 (fun k => hI _ _ (by omega) (by omega)) (hJ _ (by omega)) (hJ _ (by omega)) (fun j m h1 h2 => hA j m (by omega) (by omega)) (fun j m h1 h2 => hR j m (by omega) (by omega)), Q3_of q3 (fun p hp => hI _ _ (by omega) (by omega)) (fun p m hp => hA _ _ (by omega) (by omega)) (fun j m h1 h2 => hR j m (by omega) (by omega)), Q4_of q4 (hG _ _ (by omega)) (fun T h => hG _ _ (by omega)) (fun T h => hI _ _ (by omega) (by omega)) (hJ _ (by omega)) (fun T j m h1 h2 h3 => hA j m (by omega) (by omega)) (fun T m h => hL _ _ (by omega)) (fun j m h1 h2 => hR j m (by omega) (by omega)) (fun B nv hB e1 e2 => ⟨nv, Nat.le_refl _, e2, by rw [hI _ _ (by have := pr_ge hB; omega) (by have := pr_ge hB; omega)]; exact e1, fun m _ => hA _ _ (by have := pr_ge hB; omega) (by have := pr_ge hB; omega)⟩), Q5c_of q5c (Nat.le_succ n) (hJ _ (by omega)) (fun p hp => hI _ _ (by omega) (by omega)) (fun m => hR _ _ (by omega) (by omega)), Q5_of q5 (fun k _ _ => hI _ _ (by omega) (by omega)) (fun k _ _ => hJ k (by omega)) (fun p k hp _ _ => hI _ _ (by omega) (by omega)) (fun m => hA _ _ (by omega) (by omega)) (fun p m hp => hA _ _ (by omega) (by omega)) (fun m => hR _ _ (by omega) (by omega)) (fun m => hR _ _ (by omega) (by omega)) (Qn_of (hJ _ (by omega))), h6, ?_, Q8_of q8 (Nat.le_succ n) (hI _ _ (by omega) (by omega)) (hI _ _ (by omega) (by omega)) (hJ _ (by omega)) (hJ _ (by omega)) (hG _ _ (by omega)) (fun j k h => hI j k (by omega) (by omega)) (fun j k h => hG j k (by omega)) (fun j m h => hA j m (by omega) (by omega)) (fun j m h1 h2 => hL j m (by omega)) (fun k h => hJ k (by omega)) (fun j m h => hR j m (by omega) (by omega)), h9⟩
  exact ⟨by rw [hI _ _ (by omega) (by omega), hJ _ (by omega)]; exact q7.1, by rw [hI _ _ (by omega) (by omega)]; exact q7.2⟩
theorem r_L188 {z33 : Int32} {n0 : Nat} {I30 R0 : Nat → Nat → Int32} {k38 : (Nat → Nat → Int32) → Option (Int32 × (Nat → Nat → Int32) × (Nat → Nat → Int32))} (hn : n0 < 2000) : ∀ (k i fu : Nat) (R : Nat → Nat → Int32), i + k = 6 → k < fu → (∀ m, m < i → R 363 m = R0 339 (6 * n0 + m)) → (∀ j m, j ≠ 363 → R j m = R0 j m) → ∃ R', f_X7_second_L188 z33 (nI n0) I30 k38 fu (nI i) R = k38 R' ∧ (∀ m, m < 6 → R' 363 m = R0 339 (6 * n0 + m)) ∧ ∀ j m, j ≠ 363 → R' j m = R0 j m := by
  intro k
  induction k with
  | zero =>
    intro i fu R hi hf h1 h2
    obtain ⟨fu, rfl⟩ : ∃ z, fu = z + 1 := ⟨fu - 1, by omega⟩
    obtain rfl : i = 6 := by omega
    rw [f_X7_second_L188, if_neg (by decide)]
    exact ⟨R, rfl, h1, h2⟩
  | succ k ih =>
    intro i fu R hi hf h1 h2
    obtain ⟨fu, rfl⟩ : ∃ z, fu = z + 1 := ⟨fu - 1, by omega⟩
    rw [f_X7_second_L188, if_pos (show nI i < 6 from nI_lt (b := 6) (by omega) (by omega)), if_neg (t_m9 (by omega))]
    simp (disch := omega) only [bd, m6, gd_in, t_cl, nI_1]
    refine ih (i + 1) fu _ (by omega) (by omega) (fun m hm => ?_) (fun j m q => by rw [up2_j q]; exact h2 j m q)
    by_cases e : m = i
    · subst e
      rw [up2_s]; exact h2 _ _ (by decide)
    · rw [up2_k e]; exact h1 m (by omega)
end SM
