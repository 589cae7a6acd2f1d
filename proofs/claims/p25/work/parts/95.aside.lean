/-! THE TIE: aside -/
/-- two arrays change their places -/
def sw (R : Nat → Nat → Int32) (a b i : Nat) : Nat → Nat → Int32 := fun j m => if j = a ∧ m < i then R b m else if j = b ∧ m < i then R a m else R j m
theorem sw_0 {R : Nat → Nat → Int32} {a b : Nat} : sw R a b 0 = R := by
  funext j m
  unfold sw
  rw [if_neg (by omega), if_neg (by omega)]
theorem sw_s {R : Nat → Nat → Int32} {a b i : Nat} (h : a ≠ b) : up2 (up2 (sw R a b i) a i (R b i)) b i (R a i) = sw R a b (i + 1) := by
  funext j m
  unfold up2 sw
  by_cases h1 : j = b ∧ m = i
  · obtain ⟨rfl, rfl⟩ := h1
    rw [if_pos ⟨rfl, rfl⟩, if_neg (fun q => h q.1.symm), if_pos ⟨rfl, by omega⟩]
  · rw [if_neg h1]
    by_cases h2 : j = a ∧ m = i
    · obtain ⟨rfl, rfl⟩ := h2
      rw [if_pos ⟨rfl, rfl⟩, if_pos ⟨rfl, by omega⟩]
    · rw [if_neg h2]
      by_cases h3 : j = a ∧ m < i
      · rw [if_pos h3, if_pos (show j = a ∧ m < i + 1 from ⟨h3.1, by omega⟩)]
      · rw [if_neg h3, if_neg (show ¬ (j = a ∧ m < i + 1) from fun q => by
          rcases Nat.lt_or_ge m i with r | r
          · exact h3 ⟨q.1, r⟩
          · exact h2 ⟨q.1, by omega⟩)]
        by_cases h4 : j = b ∧ m < i
        · rw [if_pos h4, if_pos (show j = b ∧ m < i + 1 from ⟨h4.1, by omega⟩)]
        · rw [if_neg h4, if_neg (show ¬ (j = b ∧ m < i + 1) from fun q => by
            rcases Nat.lt_or_ge m i with r | r
            · exact h4 ⟨q.1, r⟩
            · exact h1 ⟨q.1, by omega⟩)]
theorem sw_a {R : Nat → Nat → Int32} {a b i : Nat} : sw R a b i a i = R a i := by
  unfold sw
  rw [if_neg (by omega)]
  by_cases h : a = b ∧ i < i
  · exact absurd h.2 (by omega)
  · rw [if_neg h]
theorem sw_b {R : Nat → Nat → Int32} {a b i : Nat} : sw R a b i b i = R b i := by
  unfold sw
  rw [if_neg (by omega), if_neg (by omega)]
theorem t_swap_L {R : Nat → Nat → Int32} {a b N : Nat} {k4 : (Nat → Nat → Int32) → Option (Nat → Nat → Int32)} (hab : a ≠ b) (ha : (a < NS ∧ 318 ≤ a) ∧ kd a = 8) (hb : (b < NS ∧ 318 ≤ b) ∧ kd b = 8) (la : ln a = N) (lb : ln b = N) (hN : N < 1073741824) : ∀ (k i fu : Nat), i + k = N → k < fu → f_X7_swap_L2 a b k4 fu (nI i) (sw R a b i) = k4 (sw R a b N) := by
  intro k
  induction k with
  | zero =>
    intro i fu hi hf
    obtain ⟨fu, rfl⟩ : ∃ z, fu = z + 1 := ⟨fu - 1, by omega⟩
    obtain rfl : N = i := by omega
    rw [f_X7_swap_L2, gd_t ha, la, if_neg (nI_nlt (Nat.le_refl _) (by omega))]
  | succ k ih =>
    intro i fu hi hf
    obtain ⟨fu, rfl⟩ : ∃ z, fu = z + 1 := ⟨fu - 1, by omega⟩
    rw [f_X7_swap_L2, gd_t ha, la, if_pos (nI_lt (by omega) (by omega))]
    simp (disch := omega) only [lb, gd_in, gd_t hb, t_cl, bd, nI_1, sw_a, sw_b, sw_s hab]
    exact ih (i + 1) fu (by omega) (by omega)
theorem t_swap {R : Nat → Nat → Int32} {a b N : Nat} (hab : a ≠ b) (ha : (a < NS ∧ 318 ≤ a) ∧ kd a = 8) (hb : (b < NS ∧ 318 ≤ b) ∧ kd b = 8) (la : ln a = N) (lb : ln b = N) (hN : N ≤ 12000) : f_X7_swap R a b = some (sw R a b N) := by
  unfold f_X7_swap
  simp only [bd]
  have q := t_swap_L (R := R) (k4 := fun A5 => some A5) hab ha hb la lb (by omega) N 0 FU (by omega) (t_fu _ (by omega))
  rw [sw_0] at q
  exact q
theorem nb_i {v : Int32} (h : v = 0 ∨ v = 1) : vp_nar .boolean v = v := by
  rcases h with rfl | rfl <;> rfl
theorem t_rnd_L {R : Nat → Nat → Int32} {a b N : Nat} {k4 : (Nat → Nat → Int32) → Option (Nat → Nat → Int32)} (hab : a ≠ b) (ha : (a < NS ∧ 318 ≤ a) ∧ kd a = 11) (hb : (b < NS ∧ 318 ≤ b) ∧ kd b = 11) (la : ln a = N) (lb : ln b = N) (hN : N < 1073741824) (h0 : ∀ x, (R a x = 0 ∨ R a x = 1) ∧ (R b x = 0 ∨ R b x = 1)) : ∀ (k i fu : Nat), i + k = N → k < fu → f_X7_turnRound_L2 a b k4 fu (nI i) (sw R a b i) = k4 (sw R a b N) := by
  intro k
  induction k with
  | zero =>
    intro i fu hi hf
    obtain ⟨fu, rfl⟩ : ∃ z, fu = z + 1 := ⟨fu - 1, by omega⟩
    obtain rfl : N = i := by omega
    rw [f_X7_turnRound_L2, gd_t ha, la, if_neg (nI_nlt (Nat.le_refl _) (by omega))]
  | succ k ih =>
    intro i fu hi hf
    obtain ⟨fu, rfl⟩ : ∃ z, fu = z + 1 := ⟨fu - 1, by omega⟩
    rw [f_X7_turnRound_L2, gd_t ha, la, if_pos (nI_lt (by omega) (by omega))]
    simp (disch := omega) only [lb, gd_in, gd_t hb, t_cl, bd, nI_1, sw_a, sw_b, nb_i (h0 i).1, nb_i (h0 i).2, sw_s hab]
    exact ih (i + 1) fu (by omega) (by omega)
theorem t_rnd {R : Nat → Nat → Int32} {a b N : Nat} (hab : a ≠ b) (ha : (a < NS ∧ 318 ≤ a) ∧ kd a = 11) (hb : (b < NS ∧ 318 ≤ b) ∧ kd b = 11) (la : ln a = N) (lb : ln b = N) (hN : N ≤ 12000) (h0 : ∀ x, (R a x = 0 ∨ R a x = 1) ∧ (R b x = 0 ∨ R b x = 1)) : f_X7_turnRound R a b = some (sw R a b N) := by
  unfold f_X7_turnRound
  simp only [bd]
  have q := t_rnd_L (R := R) (k4 := fun A5 => some A5) hab ha hb la lb (by omega) h0 N 0 FU (by omega) (t_fu _ (by omega))
  rw [sw_0] at q
  exact q
/-- i pairs have changed their places -/
def SP (R0 R : Nat → Nat → Int32) (i : Nat) : Prop := (∀ q m, q < i → m < ln (338 + q) → R (338 + q) m = R0 (366 + q) m ∧ R (366 + q) m = R0 (338 + q) m) ∧ ∀ j m, (¬ (338 ≤ j ∧ j < 338 + i) ∧ ¬ (366 ≤ j ∧ j < 366 + i)) ∨ ln j ≤ m → R j m = R0 j m
theorem l_pair : ∀ q, q < 12 → ln (366 + q) = ln (338 + q) ∧ ln (338 + q) ≤ 12000 ∧ ((q = 6 ∨ q = 7) ∨ kd (338 + q) = 8 ∧ kd (366 + q) = 8) := by decide +kernel
theorem SP_s {R0 R : Nat → Nat → Int32} {i : Nat} (h : SP R0 R i) (hi : i < 12) : SP R0 (sw R (338 + i) (366 + i) (ln (338 + i))) (i + 1) := by
  obtain ⟨h1, h2⟩ := h
  have el := (l_pair i hi).1
  refine ⟨fun q m hq hm => ?_, fun j m hj => ?_⟩
  · unfold sw
    by_cases e : q = i
    · subst e
      rw [if_pos ⟨rfl, hm⟩, if_neg (by omega), if_pos ⟨rfl, hm⟩]
      exact ⟨h2 _ _ (by omega), h2 _ _ (by omega)⟩
    · rw [if_neg (by omega), if_neg (by omega), if_neg (by omega), if_neg (by omega)]
      exact h1 q m (by omega) hm
  · unfold sw
    rw [if_neg (fun q => by
      obtain ⟨rfl, q2⟩ := q
      omega), if_neg (fun q => by
      obtain ⟨rfl, q2⟩ := q
      omega)]
    exact h2 j m (by omega)
