/-! THE TIE: aside, whole (laid by gen96.py) -/
theorem t_aside {J R : Nat → Nat → Int32} (h9 : Q9 R) : ∃ R', f_X7_aside J R = some (up2 (up2 (up2 J 318 29 (R 365 0)) 318 30 (R 365 1)) 318 31 (R 365 2), R') ∧ R' 365 0 = J 318 29 ∧ R' 365 1 = J 318 30 ∧ R' 365 2 = J 318 31 ∧ (∀ q m, q < 12 → m < ln (338 + q) → R' (338 + q) m = R (366 + q) m ∧ R' (366 + q) m = R (338 + q) m) ∧ ∀ j m, j ≠ 365 → (¬ (338 ≤ j ∧ j < 350) ∧ ¬ (366 ≤ j ∧ j < 378)) ∨ ln j ≤ m → R' j m = R j m := by
  obtain ⟨A0, eA⟩ : ∃ z, z = up2 (up2 (up2 R 365 0 (J 318 29)) 365 1 (J 318 30)) 365 2 (J 318 31) := ⟨_, rfl⟩
  have oA : ∀ j m, j ≠ 365 → A0 j m = R j m := fun j m q => by rw [eA, up2_j q, up2_j q, up2_j q]
  have s0 : SP A0 A0 0 := ⟨fun q m hq => by omega, fun _ _ _ => rfl⟩
  obtain ⟨A1, e1, s1⟩ : ∃ z, f_X7_swap A0 338 366 = some z ∧ SP A0 z 1 := ⟨_, t_swap (by decide) ⟨⟨by decide, by decide⟩, by decide +kernel⟩ ⟨⟨by decide, by decide⟩, by decide +kernel⟩ rfl (l_pair 0 (by decide)).1 (l_pair 0 (by decide)).2.1, SP_s s0 (by decide)⟩
  obtain ⟨A2, e2, s2⟩ : ∃ z, f_X7_swap A1 339 367 = some z ∧ SP A0 z 2 := ⟨_, t_swap (by decide) ⟨⟨by decide, by decide⟩, by decide +kernel⟩ ⟨⟨by decide, by decide⟩, by decide +kernel⟩ rfl (l_pair 1 (by decide)).1 (l_pair 1 (by decide)).2.1, SP_s s1 (by decide)⟩
  obtain ⟨A3, e3, s3⟩ : ∃ z, f_X7_swap A2 340 368 = some z ∧ SP A0 z 3 := ⟨_, t_swap (by decide) ⟨⟨by decide, by decide⟩, by decide +kernel⟩ ⟨⟨by decide, by decide⟩, by decide +kernel⟩ rfl (l_pair 2 (by decide)).1 (l_pair 2 (by decide)).2.1, SP_s s2 (by decide)⟩
  obtain ⟨A4, e4, s4⟩ : ∃ z, f_X7_swap A3 341 369 = some z ∧ SP A0 z 4 := ⟨_, t_swap (by decide) ⟨⟨by decide, by decide⟩, by decide +kernel⟩ ⟨⟨by decide, by decide⟩, by decide +kernel⟩ rfl (l_pair 3 (by decide)).1 (l_pair 3 (by decide)).2.1, SP_s s3 (by decide)⟩
  obtain ⟨A5, e5, s5⟩ : ∃ z, f_X7_swap A4 342 370 = some z ∧ SP A0 z 5 := ⟨_, t_swap (by decide) ⟨⟨by decide, by decide⟩, by decide +kernel⟩ ⟨⟨by decide, by decide⟩, by decide +kernel⟩ rfl (l_pair 4 (by decide)).1 (l_pair 4 (by decide)).2.1, SP_s s4 (by decide)⟩
  obtain ⟨A6, e6, s6⟩ : ∃ z, f_X7_swap A5 343 371 = some z ∧ SP A0 z 6 := ⟨_, t_swap (by decide) ⟨⟨by decide, by decide⟩, by decide +kernel⟩ ⟨⟨by decide, by decide⟩, by decide +kernel⟩ rfl (l_pair 5 (by decide)).1 (l_pair 5 (by decide)).2.1, SP_s s5 (by decide)⟩
  have hb6 : ∀ x, (A6 344 x = 0 ∨ A6 344 x = 1) ∧ (A6 372 x = 0 ∨ A6 372 x = 1) := fun x => by
    rw [s6.2 344 x (by omega), s6.2 372 x (by omega), oA _ _ (by omega), oA _ _ (by omega)]
    exact ⟨h9 _ _ (by omega), h9 _ _ (by omega)⟩
  obtain ⟨A7, e7, s7⟩ : ∃ z, f_X7_turnRound A6 344 372 = some z ∧ SP A0 z 7 := ⟨_, t_rnd (by decide) ⟨⟨by decide, by decide⟩, by decide +kernel⟩ ⟨⟨by decide, by decide⟩, by decide +kernel⟩ rfl (l_pair 6 (by decide)).1 (l_pair 6 (by decide)).2.1 hb6, SP_s s6 (by decide)⟩
  have hb7 : ∀ x, (A7 345 x = 0 ∨ A7 345 x = 1) ∧ (A7 373 x = 0 ∨ A7 373 x = 1) := fun x => by
    rw [s7.2 345 x (by omega), s7.2 373 x (by omega), oA _ _ (by omega), oA _ _ (by omega)]
    exact ⟨h9 _ _ (by omega), h9 _ _ (by omega)⟩
  obtain ⟨A8, e8, s8⟩ : ∃ z, f_X7_turnRound A7 345 373 = some z ∧ SP A0 z 8 := ⟨_, t_rnd (by decide) ⟨⟨by decide, by decide⟩, by decide +kernel⟩ ⟨⟨by decide, by decide⟩, by decide +kernel⟩ rfl (l_pair 7 (by decide)).1 (l_pair 7 (by decide)).2.1 hb7, SP_s s7 (by decide)⟩
  obtain ⟨A9, e9, s9⟩ : ∃ z, f_X7_swap A8 346 374 = some z ∧ SP A0 z 9 := ⟨_, t_swap (by decide) ⟨⟨by decide, by decide⟩, by decide +kernel⟩ ⟨⟨by decide, by decide⟩, by decide +kernel⟩ rfl (l_pair 8 (by decide)).1 (l_pair 8 (by decide)).2.1, SP_s s8 (by decide)⟩
  obtain ⟨A10, e10, s10⟩ : ∃ z, f_X7_swap A9 347 375 = some z ∧ SP A0 z 10 := ⟨_, t_swap (by decide) ⟨⟨by decide, by decide⟩, by decide +kernel⟩ ⟨⟨by decide, by decide⟩, by decide +kernel⟩ rfl (l_pair 9 (by decide)).1 (l_pair 9 (by decide)).2.1, SP_s s9 (by decide)⟩
  obtain ⟨A11, e11, s11⟩ : ∃ z, f_X7_swap A10 348 376 = some z ∧ SP A0 z 11 := ⟨_, t_swap (by decide) ⟨⟨by decide, by decide⟩, by decide +kernel⟩ ⟨⟨by decide, by decide⟩, by decide +kernel⟩ rfl (l_pair 10 (by decide)).1 (l_pair 10 (by decide)).2.1, SP_s s10 (by decide)⟩
  obtain ⟨A12, e12, s12⟩ : ∃ z, f_X7_swap A11 349 377 = some z ∧ SP A0 z 12 := ⟨_, t_swap (by decide) ⟨⟨by decide, by decide⟩, by decide +kernel⟩ ⟨⟨by decide, by decide⟩, by decide +kernel⟩ rfl (l_pair 11 (by decide)).1 (l_pair 11 (by decide)).2.1, SP_s s11 (by decide)⟩
  refine ⟨A12, ?_, ?_, ?_, ?_, fun q m hq hm => ?_, fun j m hj h => ?_⟩
  · unfold f_X7_aside
    simp only [bd, ← eA, e1, e2, e3, e4, e5, e6, e7, e8, e9, e10, e11, e12, Option.bind_some]
  · rw [s12.2 365 0 (by omega), eA, up2_n (by omega), up2_n (by omega), up2_s]
  · rw [s12.2 365 1 (by omega), eA, up2_n (by omega), up2_s]
  · rw [s12.2 365 2 (by omega), eA, up2_s]
  · obtain ⟨x, y⟩ := s12.1 q m hq hm
    rw [x, y, oA _ _ (by omega), oA _ _ (by omega)]
    exact ⟨rfl, rfl⟩
  · rw [s12.2 j m (by omega), oA _ _ hj]
